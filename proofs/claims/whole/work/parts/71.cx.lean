/-! THE CLASS: order, line, backorder, join -/
section CX2
variable {l : Launch} {G : ev_G} {x ol ll : Nat} {oa la lo ow : Nat → Nat} {no nl : Nat} {A : st_A} {h : ev_AH}
theorem xp_roomO (hb : xb G x ol ll oa la lo ow no nl A h) (hno : no ≤ 20) (hnl : nl ≤ 60) : Mt l G M_X_requireRoomForOrder [.ref x] (XH oa la lo no nl A h) (ev_pv (fun h' => no < 20 ∧ h' = XH oa la lo no nl A h) (fun E h' => E = "java/lang/UnsupportedOperationException" ∧ no = 20 ∧ h' = XH oa la lo no nl A h)) := by
  refine vX_requireRoomForOrder ?_
  simp (config := { decide := true }) only [xx_0 hb, xx_1 hb, xx_f hb, xo_f hb, xl_f hb, xg_o hb hno, xg_l hb hnl, xn_o hb, xn_l hb, xn_i hb, xg_i hb, xf_o hb, xf_l hb, xf_i hb, xo_0 hb, xo_1 hb, xo_2 hb, xo_3 hb, xo_4 hb, xo_5 hb, xo_6 hb, xo_7 hb, xo_8 hb, xo_9 hb, xl_0 hb, xl_1 hb, xl_2 hb, xl_3 hb, xl_4 hb, xl_5 hb, xl_6 hb, xl_7 hb, xl_8 hb, xl_9 hb, xl_10 hb, ws_5 hb, ws_6 hb, ws_7 hb, ws_8 hb, ws_9 hb, wl_3 hb, wl_4 hb, wl_5 hb, wl_6 hb, wl_7 hb, wl_8 hb, wl_9 hb, wl_10 hb, st_h_n, st_up_s, st_up_n, ne_eq, rg_and, rg_or, Option.some.injEq, Value.int.injEq, Value.ref.injEq, exists_eq_left', exists_eq_left, exists_eq', exists_and_left, and_assoc, true_and, forall_eq, forall_eq', not_false_eq_true, true_implies, and_true, ev_b0, Classical.not_not, st_up_s, st_up_n, ne_eq, not_false_eq_true, not_true_eq_false, true_and, and_true, and_self, or_self, or_false, false_or, or_true, true_or, false_and, and_false, if_false, if_true, true_implies, false_implies, implies_true, exists_eq_left', exists_eq_left, forall_eq, forall_eq', ev_b0, Classical.not_not, reduceIte]
  refine ⟨fun y => ⟨rfl, ?_, rfl⟩, fun y => ⟨?_, rfl⟩⟩
  · have := (nI_leI (a := 20) (b := no) (by omega) (by omega)).mp y
    omega
  · have : ¬ 20 ≤ no := fun z => y (nI_le (a := 20) z (by omega))
    omega
theorem xp_roomL (hb : xb G x ol ll oa la lo ow no nl A h) (hno : no ≤ 20) (hnl : nl ≤ 60) : Mt l G M_X_requireRoomForLine [.ref x] (XH oa la lo no nl A h) (ev_pv (fun h' => nl < 60 ∧ h' = XH oa la lo no nl A h) (fun E h' => E = "java/lang/UnsupportedOperationException" ∧ nl = 60 ∧ h' = XH oa la lo no nl A h)) := by
  refine vX_requireRoomForLine ?_
  simp (config := { decide := true }) only [xx_0 hb, xx_1 hb, xx_f hb, xo_f hb, xl_f hb, xg_o hb hno, xg_l hb hnl, xn_o hb, xn_l hb, xn_i hb, xg_i hb, xf_o hb, xf_l hb, xf_i hb, xo_0 hb, xo_1 hb, xo_2 hb, xo_3 hb, xo_4 hb, xo_5 hb, xo_6 hb, xo_7 hb, xo_8 hb, xo_9 hb, xl_0 hb, xl_1 hb, xl_2 hb, xl_3 hb, xl_4 hb, xl_5 hb, xl_6 hb, xl_7 hb, xl_8 hb, xl_9 hb, xl_10 hb, ws_5 hb, ws_6 hb, ws_7 hb, ws_8 hb, ws_9 hb, wl_3 hb, wl_4 hb, wl_5 hb, wl_6 hb, wl_7 hb, wl_8 hb, wl_9 hb, wl_10 hb, st_h_n, st_up_s, st_up_n, ne_eq, rg_and, rg_or, Option.some.injEq, Value.int.injEq, Value.ref.injEq, exists_eq_left', exists_eq_left, exists_eq', exists_and_left, and_assoc, true_and, forall_eq, forall_eq', not_false_eq_true, true_implies, and_true, ev_b0, Classical.not_not, st_up_s, st_up_n, ne_eq, not_false_eq_true, not_true_eq_false, true_and, and_true, and_self, or_self, or_false, false_or, or_true, true_or, false_and, and_false, if_false, if_true, true_implies, false_implies, implies_true, exists_eq_left', exists_eq_left, forall_eq, forall_eq', ev_b0, Classical.not_not, reduceIte]
  refine ⟨fun y => ⟨rfl, ?_, rfl⟩, fun y => ⟨?_, rfl⟩⟩
  · have := (nI_leI (a := 60) (b := nl) (by omega) (by omega)).mp y
    omega
  · have : ¬ 60 ≤ nl := fun z => y (nI_le (a := 60) z (by omega))
    omega
theorem xo_first_2 (hb : xb G x ol ll oa la lo ow no nl A h) (hno : no ≤ 20) (hnl : nl ≤ 60) {c n : Int32} : ∀ d k : Nat, k + d = no → Ev l G M_X_firstWithOwnNumber 2 [(0, .ref x), (1, .int c), (2, .int n), (3, .int (nI k))] [] (XH oa la lo no nl A h) 0 0 (ev_fin G M_X_firstWithOwnNumber (ev_pi (fun q h' => q = (match st_find (fun o => decide (A 2 o = c ∧ A 3 o = n)) d k with | some o => nI o | none => -1) ∧ (∀ o, st_find (fun o => decide (A 2 o = c ∧ A 3 o = n)) d k = some o → o < no) ∧ h' = XH oa la lo no nl A h) (fun _ _ => False))) := by
  intro d
  induction d with
  | zero =>
    intro k e
    obtain rfl : k = no := by omega
    refine vX_firstWithOwnNumber_2 ?_
    simp (config := { decide := true }) only [Int32.le_refl, xx_0 hb, xx_1 hb, xx_f hb, xo_f hb, xl_f hb, xg_o hb hno, xg_l hb hnl, xn_o hb, xn_l hb, xn_i hb, xg_i hb, xf_o hb, xf_l hb, xf_i hb, xo_0 hb, xo_1 hb, xo_2 hb, xo_3 hb, xo_4 hb, xo_5 hb, xo_6 hb, xo_7 hb, xo_8 hb, xo_9 hb, xl_0 hb, xl_1 hb, xl_2 hb, xl_3 hb, xl_4 hb, xl_5 hb, xl_6 hb, xl_7 hb, xl_8 hb, xl_9 hb, xl_10 hb, ws_5 hb, ws_6 hb, ws_7 hb, ws_8 hb, ws_9 hb, wl_3 hb, wl_4 hb, wl_5 hb, wl_6 hb, wl_7 hb, wl_8 hb, wl_9 hb, wl_10 hb, st_h_n, st_up_s, st_up_n, ne_eq, rg_and, rg_or, Option.some.injEq, Value.int.injEq, Value.ref.injEq, exists_eq_left', exists_eq_left, exists_eq', exists_and_left, and_assoc, true_and, forall_eq, forall_eq', not_false_eq_true, true_implies, and_true, ev_b0, Classical.not_not, st_up_s, st_up_n, ne_eq, not_false_eq_true, not_true_eq_false, true_and, and_true, and_self, or_self, or_false, false_or, or_true, true_or, false_and, and_false, if_false, if_true, true_implies, false_implies, implies_true, exists_eq_left', exists_eq_left, forall_eq, forall_eq', ev_b0, Classical.not_not, reduceIte]
    exact ⟨rfl, fun o y => (by cases y), rfl⟩
  | succ d ih =>
    intro k e
    have hk : ¬ nI no ≤ nI k := nI_ge (by omega) (by omega)
    have hk' : k < no := by omega
    refine vX_firstWithOwnNumber_2 ?_
    simp (config := { decide := true }) only [hk, hk', nI_1, xx_0 hb, xx_1 hb, xx_f hb, xo_f hb, xl_f hb, xg_o hb hno, xg_l hb hnl, xn_o hb, xn_l hb, xn_i hb, xg_i hb, xf_o hb, xf_l hb, xf_i hb, xo_0 hb, xo_1 hb, xo_2 hb, xo_3 hb, xo_4 hb, xo_5 hb, xo_6 hb, xo_7 hb, xo_8 hb, xo_9 hb, xl_0 hb, xl_1 hb, xl_2 hb, xl_3 hb, xl_4 hb, xl_5 hb, xl_6 hb, xl_7 hb, xl_8 hb, xl_9 hb, xl_10 hb, ws_5 hb, ws_6 hb, ws_7 hb, ws_8 hb, ws_9 hb, wl_3 hb, wl_4 hb, wl_5 hb, wl_6 hb, wl_7 hb, wl_8 hb, wl_9 hb, wl_10 hb, st_h_n, st_up_s, st_up_n, ne_eq, rg_and, rg_or, Option.some.injEq, Value.int.injEq, Value.ref.injEq, exists_eq_left', exists_eq_left, exists_eq', exists_and_left, and_assoc, true_and, forall_eq, forall_eq', not_false_eq_true, true_implies, and_true, ev_b0, Classical.not_not, st_up_s, st_up_n, ne_eq, not_false_eq_true, not_true_eq_false, true_and, and_true, and_self, or_self, or_false, false_or, or_true, true_or, false_and, and_false, if_false, if_true, true_implies, false_implies, implies_true, exists_eq_left', exists_eq_left, forall_eq, forall_eq', ev_b0, Classical.not_not, reduceIte]
    by_cases c1 : A 2 k = c ∧ A 3 k = n
    · rw [st_find, if_pos (decide_eq_true c1)]
      simp (config := { decide := true }) only [c1.1, c1.2, st_up_s, st_up_n, ne_eq, not_false_eq_true, not_true_eq_false, true_and, and_true, and_self, or_self, or_false, false_or, or_true, true_or, false_and, and_false, if_false, if_true, true_implies, false_implies, implies_true, exists_eq_left', exists_eq_left, forall_eq, forall_eq', ev_b0, Classical.not_not, reduceIte]
      refine ⟨rfl, fun o y => ?_, rfl⟩
      cases y
      exact hk'
    · rw [st_find, if_neg (by rw [decide_eq_false c1]; exact Bool.false_ne_true)]
      have := ih (k + 1) (by omega)
      by_cases c2 : A 2 k = c
      · have c3 : ¬ A 3 k = n := fun y => c1 ⟨c2, y⟩
        simp (config := { decide := true }) only [c2, c3, st_up_s, st_up_n, ne_eq, not_false_eq_true, not_true_eq_false, true_and, and_true, and_self, or_self, or_false, false_or, or_true, true_or, false_and, and_false, if_false, if_true, true_implies, false_implies, implies_true, exists_eq_left', exists_eq_left, forall_eq, forall_eq', ev_b0, Classical.not_not, reduceIte]
        exact this
      · simp (config := { decide := true }) only [c2, st_up_s, st_up_n, ne_eq, not_false_eq_true, not_true_eq_false, true_and, and_true, and_self, or_self, or_false, false_or, or_true, true_or, false_and, and_false, if_false, if_true, true_implies, false_implies, implies_true, exists_eq_left', exists_eq_left, forall_eq, forall_eq', ev_b0, Classical.not_not, reduceIte]
        exact this
theorem st_I_0 {no nl : Nat} {A : st_A} (hI : st_I no nl A) : (A 7 no = 0 ∧ A 10 no = 0) ∧ (A 18 nl = 0 ∧ A 19 nl = 0 ∧ A 20 nl = 0 ∧ A 22 nl = 0) ∧ ∀ j, j < nl → st_h A j < no := by
  refine ⟨?_, ?_, fun j hj => ?_⟩
  · obtain ⟨-, -, -, -, -, -, z, -⟩ := hI
    exact z no (Nat.le_refl _)
  · obtain ⟨-, -, -, -, -, -, -, z⟩ := hI
    exact z nl (Nat.le_refl _)
  · obtain ⟨i, hi, -, -, -, e, -⟩ := st_I_13 hI hj
    rw [e]
    exact hi
theorem cx_order (hX : RX G x no nl A h) (hI : st_I no nl A) {c n r d : Int32} : cX l G M_X_order [.ref x, .int c, .int n, .int r, .int d] x h x_AU (op_order no nl A c n r d) := by
  obtain ⟨ol, ll, oa, la, lo, ow, rr⟩ := hX
  have hno := hI.1.1
  have hnl := hI.1.2
  have ex := rx_xh rr
  obtain ⟨⟨z7, z10⟩, z0, z13⟩ := st_I_0 hI
  have same : ∀ k v : Int32, xR G x h (k, v, no, nl, A) h := fun k v => ⟨⟨ol, ll, oa, la, lo, ow, rr⟩, fX.rfl⟩
  refine ⟨fun q h' => (op_order no nl A c n r d).1 = 0 ∧ q = (op_order no nl A c n r d).2.1 ∧ xR G x h (op_order no nl A c n r d) h', fun E h' => (E, (op_order no nl A c n r d).1) ∈ x_AU ∧ xR G x h (op_order no nl A c n r d) h', vX_order ?_, fun _ _ y => y, fun _ _ y => y⟩
  simp only [rg_and, rg_or, op_order]
  have bad : ∀ (y : ¬ ((0 ≤ c ∧ c ≤ 7) ∧ (1 ≤ n ∧ n ≤ 99999) ∧ (1 ≤ r ∧ r ≤ 9) ∧ (0 ≤ d ∧ d ≤ 10000))) (B : st_O), (("java/lang/IllegalArgumentException", (if ¬ ((0 ≤ c ∧ c ≤ 7) ∧ (1 ≤ n ∧ n ≤ 99999) ∧ (1 ≤ r ∧ r ≤ 9) ∧ (0 ≤ d ∧ d ≤ 10000)) then ((1, 0, no, nl, A) : st_O) else B).1) ∈ x_AU) ∧ xR G x h (if ¬ ((0 ≤ c ∧ c ≤ 7) ∧ (1 ≤ n ∧ n ≤ 99999) ∧ (1 ≤ r ∧ r ≤ 9) ∧ (0 ≤ d ∧ d ≤ 10000)) then ((1, 0, no, nl, A) : st_O) else B) h := fun y B => by
    rw [if_pos y]
    exact ⟨(show ("java/lang/IllegalArgumentException", (1 : Int32)) ∈ x_AU by decide), same _ _⟩
  refine ⟨fun c1 => ⟨fun c2 => ⟨fun c3 => ⟨fun c4 => ?_, fun y => bad (fun z => y z.2.2.2) _⟩, fun y => bad (fun z => y z.2.2.1) _⟩, fun y => bad (fun z => y z.2.1) _⟩, fun y => bad (fun z => y z.1) _⟩
  rw [if_neg (fun y => y ⟨c1, c2, c3, c4⟩)]
  have T := vX_firstWithOwnNumber (xo_first_2 (l := l) (c := c) (n := n) rr.1 hno hnl no 0 (by omega))
  rw [ex] at T
  refine ⟨⟨_, rr.1.2.1⟩, _, _, T, fun q h9 y => ?_, fun _ _ q => q.elim⟩
  obtain ⟨y1, y2, rfl⟩ := y
  cases hf : st_find (fun o => decide (A 2 o = c ∧ A 3 o = n)) no 0 with
  | some o =>
    rw [hf] at y1
    simp only at y1
    have ho := y2 o hf
    have hn1 : ¬ nI o = -1 := fun y => nI_pos (n := o) (by omega) (by rw [y]; decide)
    subst y1
    exact ⟨fun y => absurd y hn1, fun _ => ⟨rfl, rfl, same _ _⟩⟩
  | none =>
    rw [hf] at y1
    simp only at y1
    subst y1
    refine ⟨fun _ => ⟨⟨_, rr.1.2.1⟩, ?_⟩, fun y => absurd rfl y⟩
    have R := xp_roomO (l := l) rr.1 hno hnl
    rw [ex] at R
    refine ⟨_, _, R, fun h11 y => ?_, fun E h11 y => ?_⟩
    · obtain ⟨hlt, rfl⟩ := y
      have c20 : ¬ nI no = 20 := fun y => by
        have := (nI_eq (a := no) (b := 20) (by omega) (by omega)).mp y
        omega
      simp only [if_neg c20]
      obtain ⟨P1, X1, m1, p1, x1⟩ := rx_addOrder (l := l) (c := c) (n := n) (rk := r) (d := d) rr hlt z7 z10 z13
      refine ⟨⟨_, rr.1.2.1⟩, P1, X1, m1, fun q h12 y => ?_, fun E h9 y => (x1 E h9 y).elim⟩
      obtain ⟨ql, ow', r2, f2⟩ := p1 q h12 y
      have := r2.2.1 no (by omega)
      rw [ex_at] at this
      exact ⟨nI no, by rw [ev_f_at this]; rfl, trivial, rfl, ⟨_, _, _, _, _, _, r2⟩, f2⟩
    · obtain ⟨rfl, e20, rfl⟩ := y
      have c20 : nI no = 20 := by rw [e20]; rfl
      simp only [if_pos c20]
      exact ⟨by decide, same _ _⟩
theorem cx_line (hX : RX G x no nl A h) (hI : st_I no nl A) {p g n r : Int32} : cX l G M_X_line [.ref x, .int p, .int g, .int n, .int r] x h x_NASU (op_line no nl A p g n r) := by
  obtain ⟨ol, ll, oa, la, lo, ow, rr⟩ := hX
  have hno := hI.1.1
  have hnl := hI.1.2
  have ex := rx_xh rr
  obtain ⟨⟨z7, z10⟩, z0, z13⟩ := st_I_0 hI
  have same : ∀ k v : Int32, xR G x h (k, v, no, nl, A) h := fun k v => ⟨⟨ol, ll, oa, la, lo, ow, rr⟩, fX.rfl⟩
  refine ⟨fun q h' => (op_line no nl A p g n r).1 = 0 ∧ q = (op_line no nl A p g n r).2.1 ∧ xR G x h (op_line no nl A p g n r) h', fun E h' => (E, (op_line no nl A p g n r).1) ∈ x_NASU ∧ xR G x h (op_line no nl A p g n r) h', vX_line ?_, fun _ _ y => y, fun _ _ y => y⟩
  have T := xp_orderAt (l := l) (A := A) (p := p) rr.1 hno hnl
  rw [ex] at T
  refine ⟨⟨_, rr.1.2.1⟩, _, _, T, fun q h1 y => ?_, fun E h1 y => ?_⟩
  rotate_left
  · obtain ⟨rfl, e1, rfl⟩ := y
    rw [op_line, if_pos e1]
    exact ⟨(show ("java/util/NoSuchElementException", (1 : Int32)) ∈ x_NASU by decide), same _ _⟩
  obtain ⟨i, hi, rfl, rfl, rfl, e1, e2⟩ := y
  obtain ⟨s, hs⟩ := sx_of hI hi
  have es := hs.s
  have h8 := hs.1.2.1
  have e10 := hs.1.2.2.1
  rw [op_line, if_neg e1, e2]
  have f6 : ev_f h1 (oa i) 1 6 = some (.int (A 6 i)) := by rw [ev_f_at (rr.2.1 i hi)]; rfl
  have f4 : ev_f h1 (oa i) 1 4 = some (.ref (lo i)) := by rw [ev_f_at (rr.2.1 i hi)]; rfl
  have f1 : ev_f h1 (lo i) 3 1 = some (.int (nI s)) := by rw [rl_sz (rr.1.2.2.2.2.2.2.1 i hi), List.length_map, List.length_range, es]
  have ff : (∃ fs : List Value, h1 (lo i) = some (3, fs)) ↔ True := ⟨fun _ => trivial, fun _ => rx_lo rr hi⟩
  have fx : (∃ fs : List Value, h1 x = some (0, fs)) ↔ True := ⟨fun _ => trivial, fun _ => ⟨_, rr.1.2.1⟩⟩
  simp (config := { decide := true }) only [rg_and, rg_or, f6, f4, f1, ff, fx, Option.some.injEq, Value.int.injEq, Value.ref.injEq, exists_eq_left', exists_eq_left, st_up_s, st_up_n, ne_eq, not_false_eq_true, not_true_eq_false, true_and, and_true, and_self, or_self, or_false, false_or, or_true, true_or, false_and, and_false, if_false, if_true, true_implies, false_implies, implies_true, exists_eq_left', exists_eq_left, forall_eq, forall_eq', ev_b0, Classical.not_not, reduceIte, op_line1, e10]
  by_cases c1 : 0 ≤ g ∧ g ≤ 15
  rotate_left
  · simp (config := { decide := true }) only [c1, st_up_s, st_up_n, ne_eq, not_false_eq_true, not_true_eq_false, true_and, and_true, and_self, or_self, or_false, false_or, or_true, true_or, false_and, and_false, if_false, if_true, true_implies, false_implies, implies_true, exists_eq_left', exists_eq_left, forall_eq, forall_eq', ev_b0, Classical.not_not, reduceIte]
    exact ⟨by decide, same _ _⟩
  by_cases c2 : 1 ≤ n ∧ n ≤ 1000
  rotate_left
  · simp (config := { decide := true }) only [c1, c2, st_up_s, st_up_n, ne_eq, not_false_eq_true, not_true_eq_false, true_and, and_true, and_self, or_self, or_false, false_or, or_true, true_or, false_and, and_false, if_false, if_true, true_implies, false_implies, implies_true, exists_eq_left', exists_eq_left, forall_eq, forall_eq', ev_b0, Classical.not_not, reduceIte]
    exact ⟨by decide, same _ _⟩
  by_cases c3 : 0 ≤ r ∧ r ≤ 7
  rotate_left
  · simp (config := { decide := true }) only [c1, c2, c3, st_up_s, st_up_n, ne_eq, not_false_eq_true, not_true_eq_false, true_and, and_true, and_self, or_self, or_false, false_or, or_true, true_or, false_and, and_false, if_false, if_true, true_implies, false_implies, implies_true, exists_eq_left', exists_eq_left, forall_eq, forall_eq', ev_b0, Classical.not_not, reduceIte]
    exact ⟨by decide, same _ _⟩
  by_cases c4 : A 6 i = 0
  rotate_left
  · simp (config := { decide := true }) only [c1, c2, c3, c4, st_up_s, st_up_n, ne_eq, not_false_eq_true, not_true_eq_false, true_and, and_true, and_self, or_self, or_false, false_or, or_true, true_or, false_and, and_false, if_false, if_true, true_implies, false_implies, implies_true, exists_eq_left', exists_eq_left, forall_eq, forall_eq', ev_b0, Classical.not_not, reduceIte]
    exact ⟨by decide, same _ _⟩
  by_cases c5 : s = 8
  · have c6 : nI s = 8 := by rw [c5]; rfl
    have c7 : (8 : Int32) ≤ nI s := by rw [c6]; decide
    simp (config := { decide := true }) only [c1, c2, c3, c4, c6, c7, st_up_s, st_up_n, ne_eq, not_false_eq_true, not_true_eq_false, true_and, and_true, and_self, or_self, or_false, false_or, or_true, true_or, false_and, and_false, if_false, if_true, true_implies, false_implies, implies_true, exists_eq_left', exists_eq_left, forall_eq, forall_eq', ev_b0, Classical.not_not, reduceIte]
    exact ⟨by decide, same _ _⟩
  have c6 : ¬ nI s = 8 := fun y => c5 ((nI_eq (a := s) (b := 8) (by omega) (by omega)).mp y)
  have c7 : ¬ (8 : Int32) ≤ nI s := nI_ge (a := s) (b := 8) (by omega) (by omega)
  simp (config := { decide := true }) only [c1, c2, c3, c4, c6, c7, st_up_s, st_up_n, ne_eq, not_false_eq_true, not_true_eq_false, true_and, and_true, and_self, or_self, or_false, false_or, or_true, true_or, false_and, and_false, if_false, if_true, true_implies, false_implies, implies_true, exists_eq_left', exists_eq_left, forall_eq, forall_eq', ev_b0, Classical.not_not, reduceIte]
  have R := xp_roomL (l := l) rr.1 hno hnl
  rw [ex] at R
  refine ⟨_, _, R, fun h11 y => ?_, fun E h11 y => ?_⟩
  · obtain ⟨hlt, rfl⟩ := y
    have c60 : ¬ nI nl = 60 := fun y => by
      have := (nI_eq (a := nl) (b := 60) (by omega) (by omega)).mp y
      omega
    simp only [if_neg c60]
    obtain ⟨P1, X1, m1, p1, x1⟩ := rx_addLine (l := l) (g := g) (n := n) (rk := r) rr (zz_of hI) hlt hi hs (by omega) z0
    refine ⟨⟨_, rr.1.2.1⟩, P1, X1, m1, fun q h12 y => ?_, fun E h9 y => (x1 E h9 y).elim⟩
    obtain ⟨ow', r2, f2⟩ := p1 q h12 y
    have := r2.2.2 nl (by omega)
    rw [ex_at] at this
    exact ⟨nI nl, by rw [ev_f_at this]; rfl, trivial, rfl, ⟨_, _, _, _, _, _, r2⟩, f2⟩
  · obtain ⟨rfl, e60, rfl⟩ := y
    have c60 : nI nl = 60 := by rw [e60]; rfl
    simp only [if_pos c60]
    exact ⟨by decide, same _ _⟩
end CX2
