/-! THE CLASS: join, backorder -/
def cXv (l : Launch) (G : ev_G) (M : ev_M) (as : List Value) (x : Nat) (h : ev_AH) (cs : List (String × Int32)) (o : st_O) : Prop :=
  ∃ (P : ev_AH → Prop) (X : String → ev_AH → Prop), Mt l G M as h (ev_pv P X) ∧ (∀ h', P h' → o.1 = 0 ∧ xR G x h o h') ∧ ∀ E h', X E h' → (E, o.1) ∈ cs ∧ xR G x h o h'
theorem st_hang_up {A : st_A} {o l f i : Nat} {v : Int32} (h1 : f ≠ 10) (h2 : f ≠ 11) (h3 : f ≠ 13) : st_hang (st_up A f i v) o l = st_up (st_hang A o l) f i v := by
  have es : st_s (st_up A f i v) o = st_s A o := by unfold st_s; rw [st_up_n (Ne.symm h1)]
  unfold st_hang
  rw [es, st_up_n (Ne.symm h1), st_up_comm (f := f) (g := 11) h2, st_up_comm (f := f) (g := 10) h1, st_up_comm (f := f) (g := 13) h3]
theorem st_no_22 {A : st_A} {no j : Nat} {c n r d v : Int32} : st_no (st_up A 22 j v) no c n r d = st_up (st_no A no c n r d) 22 j v := by
  unfold st_no
  rw [st_up_comm (f := 22) (g := 2) (by decide), st_up_comm (f := 22) (g := 3) (by decide), st_up_comm (f := 22) (g := 4) (by decide), st_up_comm (f := 22) (g := 5) (by decide), st_up_comm (f := 22) (g := 6) (by decide), st_up_comm (f := 22) (g := 8) (by decide), st_up_comm (f := 22) (g := 9) (by decide)]
theorem st_nl_22 {A : st_A} {nl o j : Nat} {g n r v : Int32} : st_nl (st_up A 22 j v) nl o g n r = st_up (st_nl A nl o g n r) 22 j v := by
  unfold st_nl
  rw [st_up_n (by decide), st_up_comm (f := 22) (g := 14) (by decide), st_up_comm (f := 22) (g := 15) (by decide), st_up_comm (f := 22) (g := 16) (by decide), st_up_comm (f := 22) (g := 17) (by decide), st_up_comm (f := 22) (g := 21) (by decide), st_hang_up (by decide) (by decide) (by decide), st_up_comm (f := 22) (g := 8) (by decide)]
section CX3
variable {l : Launch} {G : ev_G} {x : Nat} {no nl : Nat} {A : st_A} {h : ev_AH}
theorem cx_join (hX : RX G x no nl A h) (hI : st_I no nl A) {p q : Int32} : cXv l G M_X_join [.ref x, .int p, .int q] x h x_NSU (op_join no nl A p q) := by
  obtain ⟨ol, ll, oa, la, lo, ow, rr⟩ := hX
  have hno := hI.1.1
  have hnl := hI.1.2
  have exx := rx_xh rr
  have same : ∀ k v : Int32, xR G x h (k, v, no, nl, A) h := fun k v => ⟨⟨ol, ll, oa, la, lo, ow, rr⟩, fX.rfl⟩
  refine ⟨fun h' => (op_join no nl A p q).1 = 0 ∧ xR G x h (op_join no nl A p q) h', fun E h' => (E, (op_join no nl A p q).1) ∈ x_NSU ∧ xR G x h (op_join no nl A p q) h', vX_join ?_, fun _ y => y, fun _ _ y => y⟩
  have T : ∀ p, Mt l G M_X_orderAt [.ref x, .int p] h _ := fun p => by
    have T := xp_orderAt (l := l) (A := A) (p := p) rr.1 hno hnl
    rw [exx] at T
    exact T
  refine ⟨⟨_, rr.1.2.1⟩, _, _, T p, fun q1 h1 y => ?_, fun E h1 y => ?_⟩
  rotate_left
  · obtain ⟨rfl, e1, rfl⟩ := y
    rw [op_join, if_pos (Or.inl e1)]
    exact ⟨(show ("java/util/NoSuchElementException", (1 : Int32)) ∈ x_NSU by decide), same _ _⟩
  obtain ⟨o, ho, rfl, rfl, rfl, e1, e2⟩ := y
  refine ⟨⟨_, rr.1.2.1⟩, _, _, T q, fun q3 h3 y => ?_, fun E h3 y => ?_⟩
  rotate_left
  · obtain ⟨rfl, e3, rfl⟩ := y
    rw [op_join, if_pos (Or.inr e3)]
    exact ⟨(show ("java/util/NoSuchElementException", (1 : Int32)) ∈ x_NSU by decide), same _ _⟩
  obtain ⟨y, hy, rfl, rfl, rfl, e3, e4⟩ := y
  obtain ⟨so, hso⟩ := sx_of hI ho
  obtain ⟨s, hs⟩ := sx_of hI hy
  rw [op_join, if_neg (fun z => z.elim e1 e3), e2, e4]
  have f6 : ∀ i, i < no → ev_f h3 (oa i) 1 6 = some (.int (A 6 i)) := fun i hi => by rw [ev_f_at (rr.2.1 i hi)]; rfl
  have f1 : ∀ i, i < no → ev_f h3 (oa i) 1 1 = some (.int (A 2 i)) := fun i hi => by rw [ev_f_at (rr.2.1 i hi)]; rfl
  have f7 : ∀ i, i < no → ev_f h3 (oa i) 1 7 = some (.int (A 7 i)) := fun i hi => by rw [ev_f_at (rr.2.1 i hi)]; rfl
  have f4 : ∀ i, i < no → ev_f h3 (oa i) 1 4 = some (.ref (lo i)) := fun i hi => by rw [ev_f_at (rr.2.1 i hi)]; rfl
  have fs : ∀ i, i < no → ev_f h3 (lo i) 3 1 = some (.int (nI (st_s A i))) := fun i hi => by rw [rl_sz (rr.1.2.2.2.2.2.2.1 i hi), List.length_map, List.length_range]
  have ff : ∀ i, i < no → ((∃ fs : List Value, h3 (lo i) = some (3, fs)) ↔ True) := fun i hi => ⟨fun _ => trivial, fun _ => rx_lo rr hi⟩
  have fo : ∀ i, i < no → ((∃ fs : List Value, h3 (oa i) = some (1, fs)) ↔ True) := fun i hi => ⟨fun _ => trivial, fun _ => ⟨_, rr.2.1 i hi⟩⟩
  have fe : (oa o = oa y) ↔ (o = y) := ⟨fun z => rr.1.1.1 o ho y hy z, fun z => by rw [z]⟩
  simp (config := { decide := true }) only [f6 o ho, f6 y hy, f1 o ho, f1 y hy, f7 o ho, f7 y hy, f4 o ho, f4 y hy, fs o ho, fs y hy, ff o ho, ff y hy, fo o ho, fo y hy, fe, hso.s, hs.s, nI_add, Option.some.injEq, Value.int.injEq, Value.ref.injEq, exists_eq_left', exists_eq_left, st_up_s, st_up_n, ne_eq, not_false_eq_true, not_true_eq_false, true_and, and_true, and_self, or_self, or_false, false_or, or_true, true_or, false_and, and_false, if_false, if_true, true_implies, false_implies, implies_true, exists_eq_left', exists_eq_left, forall_eq, forall_eq', ev_b0, Classical.not_not, reduceIte, op_join1]
  by_cases c1 : o = y
  · simp (config := { decide := true }) only [c1, st_up_s, st_up_n, ne_eq, not_false_eq_true, not_true_eq_false, true_and, and_true, and_self, or_self, or_false, false_or, or_true, true_or, false_and, and_false, if_false, if_true, true_implies, false_implies, implies_true, exists_eq_left', exists_eq_left, forall_eq, forall_eq', ev_b0, Classical.not_not, reduceIte]
    exact ⟨by decide, same _ _⟩
  by_cases c2 : A 6 o = 0
  rotate_left
  · simp (config := { decide := true }) only [c1, c2, st_up_s, st_up_n, ne_eq, not_false_eq_true, not_true_eq_false, true_and, and_true, and_self, or_self, or_false, false_or, or_true, true_or, false_and, and_false, if_false, if_true, true_implies, false_implies, implies_true, exists_eq_left', exists_eq_left, forall_eq, forall_eq', ev_b0, Classical.not_not, reduceIte]
    exact ⟨by decide, same _ _⟩
  by_cases c3 : A 6 y = 0
  rotate_left
  · simp (config := { decide := true }) only [c1, c2, c3, st_up_s, st_up_n, ne_eq, not_false_eq_true, not_true_eq_false, true_and, and_true, and_self, or_self, or_false, false_or, or_true, true_or, false_and, and_false, if_false, if_true, true_implies, false_implies, implies_true, exists_eq_left', exists_eq_left, forall_eq, forall_eq', ev_b0, Classical.not_not, reduceIte]
    exact ⟨by decide, same _ _⟩
  by_cases c4 : A 2 o = A 2 y
  rotate_left
  · simp (config := { decide := true }) only [c1, c2, c3, c4, st_up_s, st_up_n, ne_eq, not_false_eq_true, not_true_eq_false, true_and, and_true, and_self, or_self, or_false, false_or, or_true, true_or, false_and, and_false, if_false, if_true, true_implies, false_implies, implies_true, exists_eq_left', exists_eq_left, forall_eq, forall_eq', ev_b0, Classical.not_not, reduceIte]
    exact ⟨by decide, same _ _⟩
  by_cases c5 : A 7 o = 0
  rotate_left
  · simp (config := { decide := true }) only [c1, c2, c3, c4, c5, st_up_s, st_up_n, ne_eq, not_false_eq_true, not_true_eq_false, true_and, and_true, and_self, or_self, or_false, false_or, or_true, true_or, false_and, and_false, if_false, if_true, true_implies, false_implies, implies_true, exists_eq_left', exists_eq_left, forall_eq, forall_eq', ev_b0, Classical.not_not, reduceIte]
    exact ⟨by decide, same _ _⟩
  by_cases c6 : A 7 y = 0
  rotate_left
  · simp (config := { decide := true }) only [c1, c2, c3, c4, c5, c6, st_up_s, st_up_n, ne_eq, not_false_eq_true, not_true_eq_false, true_and, and_true, and_self, or_self, or_false, false_or, or_true, true_or, false_and, and_false, if_false, if_true, true_implies, false_implies, implies_true, exists_eq_left', exists_eq_left, forall_eq, forall_eq', ev_b0, Classical.not_not, reduceIte]
    exact ⟨by decide, same _ _⟩
  have g1 := hso.1.2.1
  have g2 := hs.1.2.1
  have e10 : A 10 o + A 10 y = nI (so + s) := by rw [hso.1.2.2.1, hs.1.2.2.1, nI_add]
  by_cases c7 : so + s ≤ 8
  rotate_left
  · have c8 : (8 : Int32) < nI (so + s) := nI_lt (a := 8) (by omega) (by omega)
    have c9 : ¬ nI (so + s) ≤ 8 := Int32.not_le.mpr c8
    simp (config := { decide := true }) only [c1, c2, c3, c4, c5, c6, c8, c9, e10, st_up_s, st_up_n, ne_eq, not_false_eq_true, not_true_eq_false, true_and, and_true, and_self, or_self, or_false, false_or, or_true, true_or, false_and, and_false, if_false, if_true, true_implies, false_implies, implies_true, exists_eq_left', exists_eq_left, forall_eq, forall_eq', ev_b0, Classical.not_not, reduceIte]
    exact ⟨by decide, same _ _⟩
  have c8 : ¬ (8 : Int32) < nI (so + s) := nI_nlt (a := 8) (b := so + s) c7 (by omega)
  have c9 : nI (so + s) ≤ 8 := Int32.not_lt.mp c8
  simp (config := { decide := true }) only [c1, c2, c3, c4, c5, c6, c8, c9, e10, st_up_s, st_up_n, ne_eq, not_false_eq_true, not_true_eq_false, true_and, and_true, and_self, or_self, or_false, false_or, or_true, true_or, false_and, and_false, if_false, if_true, true_implies, false_implies, implies_true, exists_eq_left', exists_eq_left, forall_eq, forall_eq', ev_b0, Classical.not_not, reduceIte]
  have hyo : ¬ y = o := fun z => c1 z.symm
  have tk4 : ev_f h3 (oa y) 1 4 = some (.ref (lo y)) := by rw [ev_f_at (rr.2.1 y hy)]; rfl
  have tk5 : ev_f h3 (lo y) 3 1 = some (.int (nI s)) := by rw [rl_sz (rr.1.2.2.2.2.2.2.1 y hy), List.length_map, List.length_range, hs.s]
  have W := vO_takeLinesOf ⟨lo y, tk4, nI s, tk5, rx_lo rr hy, rx_take (l := l) (P := ev_pv (fun h' => ∃ ow', rx G x ol ll oa la lo ow' no nl (st_up (st_join A o y s) 10 y 0) h' ∧ fX h3 h') (fun _ _ => False)) (zz_of hI) ho hy hso hs hyo c7 (fun h' ow' z1 z2 => ⟨ow', z1, z2⟩) s 0 16 800 h3 ow (by omega) (by omega) (by omega) rr fX.rfl⟩
  refine ⟨_, _, W, fun h42 z => ?_, fun _ _ z => z.elim⟩
  obtain ⟨ow2, r2, f2⟩ := z
  have hb := r2.1
  have e42 := rx_xh r2
  generalize eA2 : st_up (st_join A o y s) 10 y 0 = A2 at r2 hb e42
  have a8 : ∀ i, A2 8 i = A 8 i := fun i => by rw [← eA2, st_up_n (by decide), st_join_n (by decide) (by decide) (by decide)]
  rw [← e42]
  simp (config := { decide := true }) only [ho, hy, a8, st_up_j hyo, st_up_j c1, xx_0 hb, xx_1 hb, xx_f hb, xo_f hb, xl_f hb, xg_o hb hno, xg_l hb hnl, xn_o hb, xn_l hb, xn_i hb, xg_i hb, xf_o hb, xf_l hb, xf_i hb, xo_0 hb, xo_1 hb, xo_2 hb, xo_3 hb, xo_4 hb, xo_5 hb, xo_6 hb, xo_7 hb, xo_8 hb, xo_9 hb, xl_0 hb, xl_1 hb, xl_2 hb, xl_3 hb, xl_4 hb, xl_5 hb, xl_6 hb, xl_7 hb, xl_8 hb, xl_9 hb, xl_10 hb, ws_5 hb, ws_6 hb, ws_7 hb, ws_8 hb, ws_9 hb, wl_3 hb, wl_4 hb, wl_5 hb, wl_6 hb, wl_7 hb, wl_8 hb, wl_9 hb, wl_10 hb, st_h_n, st_up_s, st_up_n, ne_eq, rg_and, rg_or, Option.some.injEq, Value.int.injEq, Value.ref.injEq, exists_eq_left', exists_eq_left, exists_eq', exists_and_left, and_assoc, true_and, forall_eq, forall_eq', not_false_eq_true, true_implies, and_true, ev_b0, Classical.not_not, st_up_s, st_up_n, ne_eq, not_false_eq_true, not_true_eq_false, true_and, and_true, and_self, or_self, or_false, false_or, or_true, true_or, false_and, and_false, if_false, if_true, true_implies, false_implies, implies_true, exists_eq_left', exists_eq_left, forall_eq, forall_eq', ev_b0, Classical.not_not, reduceIte]
  show RX G x no nl _ _ ∧ fX h3 _
  exact ⟨⟨ol, ll, oa, la, lo, ow2, rx_mk hb (fun z => by simp (config := { decide := true }) only [st_up_s, st_up_n, ne_eq, not_false_eq_true, not_true_eq_false, true_and, and_true, and_self, or_self, or_false, false_or, or_true, true_or, false_and, and_false, if_false, if_true, true_implies, false_implies, implies_true, exists_eq_left', exists_eq_left, forall_eq, forall_eq', ev_b0, Classical.not_not, reduceIte]) (fun z => by simp (config := { decide := true }) only [st_up_s, st_up_n, ne_eq, not_false_eq_true, not_true_eq_false, true_and, and_true, and_self, or_self, or_false, false_or, or_true, true_or, false_and, and_false, if_false, if_true, true_implies, false_implies, implies_true, exists_eq_left', exists_eq_left, forall_eq, forall_eq', ev_b0, Classical.not_not, reduceIte])⟩, f2.trans (rx_fX hb)⟩
theorem cx_backorder (hX : RX G x no nl A h) (hI : st_I no nl A) {p : Int32} : cX l G M_X_backorder [.ref x, .int p] x h x_NSU (op_backorder no nl A p) := by
  obtain ⟨ol, ll, oa, la, lo, ow, rr⟩ := hX
  have hno := hI.1.1
  have hnl := hI.1.2
  have exx := rx_xh rr
  obtain ⟨⟨z7, z10⟩, z0, z13⟩ := st_I_0 hI
  have same : ∀ k v : Int32, xR G x h (k, v, no, nl, A) h := fun k v => ⟨⟨ol, ll, oa, la, lo, ow, rr⟩, fX.rfl⟩
  refine ⟨fun q h' => (op_backorder no nl A p).1 = 0 ∧ q = (op_backorder no nl A p).2.1 ∧ xR G x h (op_backorder no nl A p) h', fun E h' => (E, (op_backorder no nl A p).1) ∈ x_NSU ∧ xR G x h (op_backorder no nl A p) h', vX_backorder ?_, fun _ _ y => y, fun _ _ y => y⟩
  have T := xp_lineAt (l := l) (A := A) (p := p) rr.1 hno hnl
  rw [exx] at T
  refine ⟨⟨_, rr.1.2.1⟩, _, _, T, fun q h1 y => ?_, fun E h1 y => ?_⟩
  rotate_left
  · obtain ⟨rfl, e1, rfl⟩ := y
    rw [op_backorder, if_pos e1]
    exact ⟨(show ("java/util/NoSuchElementException", (1 : Int32)) ∈ x_NSU by decide), same _ _⟩
  obtain ⟨j, hj, rfl, rfl, rfl, e1, e2⟩ := y
  obtain ⟨i, hi, k2, k1, e13, eh, k3, k4⟩ := st_I_13 hI hj
  obtain ⟨w, hh, pk, s, g, t, r, lv, ag, y1, y2, y3, y4, y5, y6, y7, y8, y9, y10, y11, y12, y13, y14, y15, y16, y17, y18⟩ := st_I_ln hI hj
  rw [op_backorder, if_neg e1, e2, eh]
  have f2 : ev_f h1 (la j) 2 2 = some (.ref (oa i)) := by rw [ev_f_at (rr.2.2 j hj), ← eh]; rfl
  have f6 : ev_f h1 (oa i) 1 6 = some (.int (A 6 i)) := by rw [ev_f_at (rr.2.1 i hi)]; rfl
  have f3 : ev_f h1 (la j) 2 3 = some (.int (A 17 j)) := by rw [ev_f_at (rr.2.2 j hj)]; rfl
  have f4 : ev_f h1 (la j) 2 4 = some (.int (A 16 j)) := by rw [ev_f_at (rr.2.2 j hj)]; rfl
  have f7 : ev_f h1 (la j) 2 7 = some (.int (A 20 j)) := by rw [ev_f_at (rr.2.2 j hj)]; rfl
  have f9 : ev_f h1 (la j) 2 9 = some (.int (A 21 j)) := by rw [ev_f_at (rr.2.2 j hj)]; rfl
  have f10 : ev_f h1 (la j) 2 10 = some (.int (A 22 j)) := by rw [ev_f_at (rr.2.2 j hj)]; rfl
  have fl : (∃ fs : List Value, h1 (la j) = some (2, fs)) ↔ True := ⟨fun _ => trivial, fun _ => ⟨_, rr.2.2 j hj⟩⟩
  have fx : (∃ fs : List Value, h1 x = some (0, fs)) ↔ True := ⟨fun _ => trivial, fun _ => ⟨_, rr.1.2.1⟩⟩
  simp (config := { decide := true }) only [f2, f6, f3, f4, f7, f9, f10, fl, fx, Option.some.injEq, Value.int.injEq, Value.ref.injEq, exists_eq_left', exists_eq_left, st_up_s, st_up_n, ne_eq, not_false_eq_true, not_true_eq_false, true_and, and_true, and_self, or_self, or_false, false_or, or_true, true_or, false_and, and_false, if_false, if_true, true_implies, false_implies, implies_true, exists_eq_left', exists_eq_left, forall_eq, forall_eq', ev_b0, Classical.not_not, reduceIte, op_backorder1]
  by_cases c1 : A 6 i = 4
  rotate_left
  · simp (config := { decide := true }) only [c1, st_up_s, st_up_n, ne_eq, not_false_eq_true, not_true_eq_false, true_and, and_true, and_self, or_self, or_false, false_or, or_true, true_or, false_and, and_false, if_false, if_true, true_implies, false_implies, implies_true, exists_eq_left', exists_eq_left, forall_eq, forall_eq', ev_b0, Classical.not_not, reduceIte]
    exact ⟨by decide, same _ _⟩
  have es : A 17 j - A 20 j = nI (w - s) := by rw [y5, y8, pk_sub y4]
  have e0 : (0 : Int32) < A 17 j - A 20 j ↔ ¬ A 17 j - A 20 j = 0 := by
    rw [es]
    by_cases z : w - s = 0
    · rw [z]; exact ⟨fun y => absurd y (by decide), fun y => absurd rfl y⟩
    · exact ⟨fun _ => nI_ne0 (by omega) (by omega), fun _ => nI_lt (a := 0) (by omega) (by omega)⟩
  by_cases c2 : ¬ A 21 j = 0 ∧ ¬ (A 16 j &&& 4) = 0 ∧ 0 < A 17 j - A 20 j ∧ A 22 j = 0
  rotate_left
  · have c3 : A 21 j = 0 ∨ (A 16 j &&& 4) = 0 ∨ A 17 j - A 20 j = 0 ∨ ¬ A 22 j = 0 := by
      rw [e0] at c2
      by_cases a1 : A 21 j = 0
      · exact Or.inl a1
      · by_cases a2 : (A 16 j &&& 4) = 0
        · exact Or.inr (Or.inl a2)
        · by_cases a3 : A 17 j - A 20 j = 0
          · exact Or.inr (Or.inr (Or.inl a3))
          · exact Or.inr (Or.inr (Or.inr (fun a4 => c2 ⟨a1, a2, a3, a4⟩)))
    simp (config := { decide := true }) only [c1, c2, c3, st_up_s, st_up_n, ne_eq, not_false_eq_true, not_true_eq_false, true_and, and_true, and_self, or_self, or_false, false_or, or_true, true_or, false_and, and_false, if_false, if_true, true_implies, false_implies, implies_true, exists_eq_left', exists_eq_left, forall_eq, forall_eq', ev_b0, Classical.not_not, reduceIte]
    exact ⟨by decide, same _ _⟩
  have c3 : ¬ (A 21 j = 0 ∨ (A 16 j &&& 4) = 0 ∨ A 17 j - A 20 j = 0 ∨ ¬ A 22 j = 0) := by
    rw [e0] at c2
    rintro (a | a | a | a)
    · exact c2.1 a
    · exact c2.2.1 a
    · exact c2.2.2.1 a
    · exact a c2.2.2.2
  have c4 := e0.mp c2.2.2.1
  simp (config := { decide := true }) only [c1, c2.1, c2.2.1, c2.2.2.1, c2.2.2.2, c4, st_up_s, st_up_n, ne_eq, not_false_eq_true, not_true_eq_false, true_and, and_true, and_self, or_self, or_false, false_or, or_true, true_or, false_and, and_false, if_false, if_true, true_implies, false_implies, implies_true, exists_eq_left', exists_eq_left, forall_eq, forall_eq', ev_b0, Classical.not_not, reduceIte]
  have R := xp_roomO (l := l) rr.1 hno hnl
  have R2 := xp_roomL (l := l) rr.1 hno hnl
  rw [exx] at R R2
  refine ⟨_, _, R, fun h11 y => ?_, fun E h11 y => ?_⟩
  rotate_left
  · obtain ⟨rfl, e20, rfl⟩ := y
    have c20 : nI no = 20 := by rw [e20]; rfl
    simp (config := { decide := true }) only [c20, st_up_s, st_up_n, ne_eq, not_false_eq_true, not_true_eq_false, true_and, and_true, and_self, or_self, or_false, false_or, or_true, true_or, false_and, and_false, if_false, if_true, true_implies, false_implies, implies_true, exists_eq_left', exists_eq_left, forall_eq, forall_eq', ev_b0, Classical.not_not, reduceIte]
    exact ⟨by decide, same _ _⟩
  obtain ⟨hlt, rfl⟩ := y
  have c20 : ¬ nI no = 20 := fun y => by
    have := (nI_eq (a := no) (b := 20) (by omega) (by omega)).mp y
    omega
  refine ⟨⟨_, rr.1.2.1⟩, _, _, R2, fun h11 y => ?_, fun E h11 y => ?_⟩
  rotate_left
  · obtain ⟨rfl, e60, rfl⟩ := y
    have c60 : nI nl = 60 := by rw [e60]; rfl
    simp (config := { decide := true }) only [c20, c60, st_up_s, st_up_n, ne_eq, not_false_eq_true, not_true_eq_false, true_and, and_true, and_self, or_self, or_false, false_or, or_true, true_or, false_and, and_false, if_false, if_true, true_implies, false_implies, implies_true, exists_eq_left', exists_eq_left, forall_eq, forall_eq', ev_b0, Classical.not_not, reduceIte]
    exact ⟨by decide, same _ _⟩
  obtain ⟨hlt2, rfl⟩ := y
  have c60 : ¬ nI nl = 60 := fun y => by
    have := (nI_eq (a := nl) (b := 60) (by omega) (by omega)).mp y
    omega
  simp (config := { decide := true }) only [c20, c60, st_up_s, st_up_n, ne_eq, not_false_eq_true, not_true_eq_false, true_and, and_true, and_self, or_self, or_false, false_or, or_true, true_or, false_and, and_false, if_false, if_true, true_implies, false_implies, implies_true, exists_eq_left', exists_eq_left, forall_eq, forall_eq', ev_b0, Classical.not_not, reduceIte]
  refine ⟨A 2 i, by rw [ev_f_at (rr.2.1 i hi)]; rfl, A 4 i, by rw [ev_f_at (rr.2.1 i hi)]; rfl, A 5 i, by rw [ev_f_at (rr.2.1 i hi)]; rfl, fx.mpr trivial, ?_⟩
  obtain ⟨P1, X1, m1, p1, x1⟩ := rx_addOrder (l := l) (c := A 2 i) (n := 0) (rk := A 4 i) (d := A 5 i) rr hlt z7 z10 z13
  refine ⟨P1, X1, m1, fun q1 h24 y => ?_, fun E h9 y => (x1 E h9 y).elim⟩
  obtain ⟨ql, ow1, r1, fx1⟩ := p1 q1 h24 y
  obtain ⟨B, eB⟩ : ∃ B, B = st_no A no (A 2 i) 0 (A 4 i) (A 5 i) := ⟨_, rfl⟩
  rw [← eB] at r1
  have b1 : ∀ f y, f ≠ 2 → f ≠ 3 → f ≠ 4 → f ≠ 5 → f ≠ 6 → f ≠ 8 → f ≠ 9 → B f y = A f y := fun f y g2 g3 g4 g5 g6 g8 g9 => by
    rw [eB]
    unfold st_no
    rw [st_up_n g9, st_up_n g8, st_up_n g6, st_up_n g5, st_up_n g4, st_up_n g3, st_up_n g2]
  have b2 : ∀ f y, 10 ≤ f → B f y = A f y := fun f y hf => b1 f y (by omega) (by omega) (by omega) (by omega) (by omega) (by omega) (by omega)
  have bs : ∀ i, st_s B i = st_s A i := fun i => by unfold st_s; rw [b2 10 _ (by decide)]
  have bl : ∀ i k, st_l B i k = st_l A i k := fun i k => by unfold st_l; rw [b2 11 _ (by decide)]
  have sxB : ∀ i si, sx_ok A i si nl → sx_ok B i si nl := fun i si z => ⟨⟨z.1.1, z.1.2.1, by rw [b2 10 _ (by decide)]; exact z.1.2.2.1, fun k hk => by rw [b2 11 _ (by decide)]; exact z.1.2.2.2 k hk⟩, fun k hk => by rw [bl]; exact z.2 k hk⟩
  have sxN : sx_ok B no 0 nl := ⟨⟨hlt, by decide, by rw [b2 10 _ (by decide), z10]; rfl, fun k hk => absurd hk (by omega)⟩, fun k hk => absurd hk (by omega)⟩
  have zzB : zz (no + 1) nl B := ⟨by omega, hnl, fun i' hi' => by
    by_cases e : i' = no
    · subst e; exact ⟨0, sxN⟩
    · exact ((zz_of hI).2.2 i' (by omega)).imp fun si z => sxB i' si z⟩
  have cl := r1.2.2 j hj
  have g1 : ev_f h24 (la j) 2 1 = some (.int (A 14 j)) := by rw [ev_f_at cl, ← b2 14 j (by decide)]; rfl
  have g3 : ev_f h24 (la j) 2 3 = some (.int (A 17 j)) := by rw [ev_f_at cl, ← b2 17 j (by decide)]; rfl
  have g7 : ev_f h24 (la j) 2 7 = some (.int (A 20 j)) := by rw [ev_f_at cl, ← b2 20 j (by decide)]; rfl
  have g4 : ev_f h24 (la j) 2 4 = some (.int (A 16 j)) := by rw [ev_f_at cl, ← b2 16 j (by decide)]; rfl
  refine ⟨_, g1, _, g3, _, g7, ⟨_, cl⟩, _, g4, ⟨_, r1.1.2.1⟩, ?_⟩
  obtain ⟨P2, X2, m2, p2, x2⟩ := rx_addLine (l := l) (g := A 14 j) (n := A 17 j - A 20 j) (rk := A 16 j) r1 zzB hlt2 (by omega : no < no + 1) sxN (by decide) (by rw [b2 18 _ (by decide), b2 19 _ (by decide), b2 20 _ (by decide), b2 22 _ (by decide)]; exact z0)
  rw [ex_at] at m2
  refine ⟨P2, X2, m2, fun q2 h33 y => ?_, fun E h9 y => (x2 E h9 y).elim⟩
  obtain ⟨ow2, r2, fx2⟩ := p2 q2 h33 y
  have hnj : j ≠ nl := by omega
  have hj1 : j < nl + 1 := by omega
  have cj := r2.2.2 j hj1
  rw [ex_ne hnj] at cj
  refine ⟨_, by rw [ev_f_at cj]; rfl, ?_⟩
  generalize e36 : ev_s h33 (la j) 10 (Value.int 1) = h36
  have e37 : h36 = XH (ex oa no q1) (ex la nl q2) (ex lo no ql) (no + 1) (nl + 1) (st_up (st_nl B nl no (A 14 j) (A 17 j - A 20 j) (A 16 j)) 22 j 1) h33 := by
    have := wl_10 (A := st_nl B nl no (A 14 j) (A 17 j - A 20 j) (A 16 j)) (v := 1) r2.1 hj1
    rw [rx_xh r2, ex_ne hnj] at this
    rw [← e36]
    exact this
  have r3 := rx_mk (A' := st_up (st_nl B nl no (A 14 j) (A 17 j - A 20 j) (A 16 j)) 22 j 1) r2.1 (fun _ => st_up_n (by decide)) (fun _ => st_up_n (by decide))
  have fx3 := rx_fX (A' := st_up (st_nl B nl no (A 14 j) (A 17 j - A 20 j) (A 16 j)) 22 j 1) r2.1
  rw [← e37] at r3 fx3
  have cn := r3.2.2 nl (by omega)
  rw [ex_at] at cn
  refine ⟨nI nl, by rw [ev_f_at cn]; rfl, ?_⟩
  rw [st_no_22, st_nl_22, ← eB]
  exact ⟨rfl, ⟨_, _, _, _, _, _, r3⟩, (fx1.trans fx2).trans fx3⟩
end CX3
