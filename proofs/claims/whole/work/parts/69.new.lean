/-! THE CLASS: new orders, new lines, lines taken over -/
def ex (f : Nat → Nat) (n v : Nat) : Nat → Nat := fun i => if i = n then v else f i
theorem ex_at {f : Nat → Nat} {n v : Nat} : ex f n v n = v := if_pos rfl
theorem ex_ne {f : Nat → Nat} {n v i : Nat} (e : i ≠ n) : ex f n v i = f i := if_neg e
theorem us_1 {h : ev_AH} {q ci k : Nat} {fs : List Value} {v : Value} : ev_s (ev_up h q (ci, fs)) q k v = ev_up h q (ci, fs.set k v) := by rw [ev_s_eq ev_up_at, ev_up_up]
theorem us_2 {h : ev_AH} {q q' ci k : Nat} {fs : List Value} {v : Value} {d : ev_Cel} (e : q ≠ q') : ev_s (ev_up (ev_up h q (ci, fs)) q' d) q k v = ev_up (ev_up h q (ci, fs.set k v)) q' d := by
  have e1 : ev_up (ev_up h q (ci, fs)) q' d q = some (ci, fs) := by rw [ev_up_ne e, ev_up_at]
  rw [ev_s_eq e1]
  funext b
  by_cases h1 : b = q
  · subst h1
    rw [ev_up_at, ev_up_ne e, ev_up_at]
  · rw [ev_up_ne h1]
    by_cases h2 : b = q'
    · subst h2; rw [ev_up_at, ev_up_at]
    · rw [ev_up_ne h2, ev_up_ne h2, ev_up_ne h1, ev_up_ne h1]
theorem uf_2 {h : ev_AH} {q q' ci k : Nat} {fs : List Value} {d : ev_Cel} (e : q ≠ q') : ev_f (ev_up (ev_up h q (ci, fs)) q' d) q ci k = fs[k]? := by rw [ev_f_up e, ev_f_new]
theorem rl_mono {G : ev_G} {h h' : ev_AH} {ow : Nat → Nat} {a : Nat} {vs : List Nat} (m : ∀ b c, h b = some c → h' b = some c) (r : rl G h ow a vs) : rl G h' ow a vs := by
  obtain ⟨r, k, e, z⟩ := r
  refine ⟨r, k, m _ _ e, ?_⟩
  rcases z with z | ⟨z1, z2, n, z3, z4, z5⟩
  · exact Or.inl z
  · exact Or.inr ⟨z1, z2, n, z3, z4, m _ _ z5⟩
section NEW
variable {l : Launch} {G : ev_G} {x ol ll : Nat} {oa la lo ow : Nat → Nat} {no nl : Nat} {A : st_A} {h : ev_AH}
theorem sp_O_init {q : Nat} {a b c d e : Int32} (hq : h q = none) : ∃ P : ev_AH → Prop, Mt l G M_O_init [.ref q, .int a, .int b, .int c, .int d, .int e] (ev_up h q (1, [.int 0, .int 0, .int 0, .int 0, .null, .int 0, .int 0, .int 0, .int 0, .int 0])) (ev_pv P (fun _ _ => False)) ∧ ∀ h', P h' → ∃ ql, h ql = none ∧ ql ≠ q ∧ h' = ev_up (ev_up h q (1, [.int a, .int b, .int c, .int d, .ref ql, .int e, .int 0, .int 0, .int 1, .int (-1)])) ql (3, [.ref (g_t0 G), .int 0, .int 0]) := by
  refine ⟨_, vO_init ?_, fun _ y => y⟩
  simp only [ev_f_new, us_1, forall_eq, List.getElem?_cons_zero, List.getElem?_cons_succ, List.set_cons_zero, List.set_cons_succ, Option.some.injEq, exists_eq_left', exists_eq_left]
  intro ql hql
  have hne : ql ≠ q := fun y => by rw [y, ev_up_at] at hql; cases hql
  rw [ev_up_ne hne] at hql
  refine ⟨_, sp_A_init ev_up_at, fun h13 e13 => ?_⟩
  subst e13
  simp only [ev_up_up, uf_2 (Ne.symm hne), us_2 (Ne.symm hne), forall_eq, List.getElem?_cons_zero, List.getElem?_cons_succ, List.set_cons_zero, List.set_cons_succ, Option.some.injEq, exists_eq_left', exists_eq_left]
  exact ⟨ql, hql, hne, rfl⟩
theorem sp_L_init {q o : Nat} {a b c d : Int32} : ∃ P : ev_AH → Prop, Mt l G M_L_init [.ref q, .int a, .ref o, .int b, .int c, .int d] (ev_up h q (2, [.int 0, .int 0, .null, .int 0, .int 0, .int 0, .int 0, .int 0, .int 0, .int 0, .int 0])) (ev_pv P (fun _ _ => False)) ∧ ∀ h', P h' → h' = ev_up h q (2, [.int a, .int b, .ref o, .int c, .int d, .int 0, .int 0, .int 0, .int (-1), .int 1, .int 0]) := by
  refine ⟨_, vL_init ?_, fun _ y => y⟩
  simp only [ev_f_new, us_1, forall_eq, List.getElem?_cons_zero, List.getElem?_cons_succ, List.set_cons_zero, List.set_cons_succ, Option.some.injEq, exists_eq_left', exists_eq_left]
theorem rx_addOrder (r : rx G x ol ll oa la lo ow no nl A h) (hno : no < 20) (e7 : A 7 no = 0) (e10 : A 10 no = 0) (h13 : ∀ j, j < nl → st_h A j < no) {c n rk d : Int32} :
    ∃ (P : Nat → ev_AH → Prop) (X : String → ev_AH → Prop), Mt l G M_X_addOrder [.ref x, .int c, .int n, .int rk, .int d] h (ev_pr P X) ∧ (∀ q h', P q h' → ∃ ql ow', rx G x ol ll (ex oa no q) la (ex lo no ql) ow' (no + 1) nl (st_no A no c n rk d) h' ∧ fX h h') ∧ ∀ E h', X E h' → False := by
  obtain ⟨⟨b1, b2, b3, b4, b5, b6, b7, b8⟩, c1, c2⟩ := r
  refine ⟨fun q h' => ∃ ql ow', rx G x ol ll (ex oa no q) la (ex lo no ql) ow' (no + 1) nl (st_no A no c n rk d) h' ∧ fX h h', fun _ _ => False, vX_addOrder ?_, fun _ _ y => y, fun _ _ y => y⟩
  intro q hq h2 e2
  subst e2
  obtain ⟨r1, m1, eol, -⟩ := (id b5 : _)
  obtain ⟨r2, m2, ell, -⟩ := (id b6 : _)
  have fo : ev_f h x 0 0 = some (.ref ol) := by rw [ev_f_at b2]; rfl
  have so : ev_f h ol 3 1 = some (.int (nI no)) := by rw [rl_sz b5]; simp
  refine ⟨ol, ev_f_upn hq fo, nI no, ev_f_upn hq so, ⟨_, by rw [ev_up_ne (fun y => by rw [y, hq] at eol; cases eol)]; exact eol⟩, ?_⟩
  obtain ⟨P0, hm, hP⟩ := sp_O_init (l := l) (G := G) (a := nI no) (b := c) (c := n) (d := rk) (e := d) hq
  refine ⟨P0, hm, fun h8 y => ?_⟩
  obtain ⟨ql, hql, hne, e8⟩ := hP h8 y
  have k8 : ∀ b cc, h b = some cc → h8 b = some cc := fun b cc e => by
    rw [e8, ev_up_ne (fun y => by rw [y, hql] at e; cases e), ev_up_ne (fun y => by rw [y, hq] at e; cases e)]
    exact e
  have q8 : h8 q = some (1, [.int (nI no), .int c, .int n, .int rk, .ref ql, .int d, .int 0, .int 0, .int 1, .int (-1)]) := by rw [e8, ev_up_ne (Ne.symm hne), ev_up_at]
  have l8 : h8 ql = some (3, [.ref (g_t0 G), .int 0, .int 0]) := by rw [e8, ev_up_at]
  have hqol : q ≠ ol := fun y => by rw [y, eol] at hq; cases hq
  have hlol : ql ≠ ol := fun y => by rw [y, eol] at hql; cases hql
  have hlll : ql ≠ ll := fun y => by rw [y, ell] at hql; cases hql
  refine ⟨ol, by rw [ev_f_at (k8 _ _ b2)]; rfl, ⟨_, k8 _ _ eol⟩, _, _, sp_A_add0 (v := q) (rl_mono k8 b5) (by simp; omega) ?_ (rl_ord q8) hqol, fun r11 h10 y => ?_, fun _ _ q => q⟩
  · intro v hv
    rw [List.mem_map] at hv
    obtain ⟨k, hk, rfl⟩ := hv
    exact rl_ord (k8 _ _ (c1 k (List.mem_range.mp hk)))
  · obtain ⟨ow', y1, y2, y3⟩ := y
    have kx : ∀ b k fs, h b = some (k, fs) → k ≠ 3 → k ≠ 103 → h10 b = some (k, fs) := fun b k fs e z1 z2 => y2 b _ (k8 _ _ e) z2 (fun y => by rw [y, eol] at e; cases e; exact z1 rfl)
    have hqo : ∀ i, i < no → oa i ≠ q := fun i hi y => by have := c1 i hi; rw [y, hq] at this; cases this
    have hll : ∀ i, i < no → lo i ≠ ql := fun i hi y => by
      obtain ⟨r3, m3, e3, -⟩ := b7 i hi
      rw [y, hql] at e3; cases e3
    have ez : ∀ i, i < no → i ≠ no := fun i hi => by omega
    have co : ∀ i, i < no + 1 → h10 (ex oa no q i) = some (1, xo_c (ex lo no ql) (st_no A no c n rk d) i) := fun i hi => by
      by_cases e : i = no
      · subst e
        rw [ex_at, y2 _ _ q8 (show (1 : Nat) ≠ 103 by decide) hqol]
        simp (config := { decide := true }) only [xo_c, ex_at, st_no, e7, st_up_s, st_up_n, ne_eq, not_false_eq_true, not_true_eq_false, true_and, and_true, and_self, or_self, or_false, false_or, or_true, true_or, false_and, and_false, if_false, if_true, true_implies, false_implies, implies_true, exists_eq_left', exists_eq_left, forall_eq, forall_eq', ev_b0, Classical.not_not, reduceIte]
      · have e' : ¬ i = no := e
        rw [ex_ne e, kx _ _ _ (c1 i (by omega)) (by decide) (by decide)]
        simp (config := { decide := true }) only [xo_c, ex_ne e, st_no, st_sn e']
    have cl : ∀ j, j < nl → h10 (la j) = some (2, xl_c (ex oa no q) (st_no A no c n rk d) j) := fun j hj => by
      have eh : st_h (st_no A no c n rk d) j = st_h A j := by unfold st_h st_no; simp (config := { decide := true }) only [st_up_s, st_up_n, ne_eq, not_false_eq_true, not_true_eq_false, true_and, and_true, and_self, or_self, or_false, false_or, or_true, true_or, false_and, and_false, if_false, if_true, true_implies, false_implies, implies_true, exists_eq_left', exists_eq_left, forall_eq, forall_eq', ev_b0, Classical.not_not, reduceIte]
      rw [kx _ _ _ (c2 j hj) (by decide) (by decide)]
      unfold xl_c
      rw [eh]
      simp (config := { decide := true }) only [ex_ne (ez _ (h13 j hj)), st_no, st_up_s, st_up_n, ne_eq, not_false_eq_true, not_true_eq_false, true_and, and_true, and_self, or_self, or_false, false_or, or_true, true_or, false_and, and_false, if_false, if_true, true_implies, false_implies, implies_true, exists_eq_left', exists_eq_left, forall_eq, forall_eq', ev_b0, Classical.not_not, reduceIte]
    refine ⟨ql, ow', ⟨⟨⟨fun i hi i' hi' e => ?_, b1.2⟩, kx _ _ _ b2 (by decide) (by decide), fun i hi => ⟨_, co i hi⟩, fun j hj => ⟨_, cl j hj⟩, ?_, y3 _ _ (Ne.symm b8.1) (rl_mono k8 b6), fun i hi => ?_, b8.1, fun i hi => ?_, fun i hi i' hi' e => ?_⟩, co, cl⟩, fun b cc e z1 z2 => ?_⟩
    · by_cases e1 : i = no
      · by_cases e2 : i' = no
        · rw [e1, e2]
        · rw [e1, ex_at, ex_ne e2] at e
          exact absurd e.symm (hqo i' (by omega))
      · by_cases e2 : i' = no
        · rw [e2, ex_at, ex_ne e1] at e
          exact absurd e (hqo i (by omega))
        · rw [ex_ne e1, ex_ne e2] at e
          exact b1.1 i (by omega) i' (by omega) e
    · rw [List.range_succ, List.map_append, List.map_cons, List.map_nil, ex_at]
      have em : (List.range no).map (ex oa no q) = (List.range no).map oa := List.map_congr_left (fun k hk => ex_ne (ez k (List.mem_range.mp hk)))
      rw [em]
      exact y1
    · have e1 : st_s (st_no A no c n rk d) i = st_s A i := by unfold st_s st_no; simp (config := { decide := true }) only [st_up_s, st_up_n, ne_eq, not_false_eq_true, not_true_eq_false, true_and, and_true, and_self, or_self, or_false, false_or, or_true, true_or, false_and, and_false, if_false, if_true, true_implies, false_implies, implies_true, exists_eq_left', exists_eq_left, forall_eq, forall_eq', ev_b0, Classical.not_not, reduceIte]
      have e2 : (fun k => la (st_l (st_no A no c n rk d) i k)) = (fun k => la (st_l A i k)) := by funext k; unfold st_l st_no; simp (config := { decide := true }) only [st_up_s, st_up_n, ne_eq, not_false_eq_true, not_true_eq_false, true_and, and_true, and_self, or_self, or_false, false_or, or_true, true_or, false_and, and_false, if_false, if_true, true_implies, false_implies, implies_true, exists_eq_left', exists_eq_left, forall_eq, forall_eq', ev_b0, Classical.not_not, reduceIte]
      rw [e1, e2]
      by_cases e : i = no
      · subst e
        have e0 : st_s A i = 0 := by unfold st_s; rw [e10]; rfl
        rw [ex_at, e0]
        exact y3 ql [] hlol ⟨g_t0 G, 0, l8, Or.inl ⟨rfl, rfl⟩⟩
      · rw [ex_ne e]
        exact y3 _ _ (b8.2.1 i (by omega)).1 (rl_mono k8 (b7 i (by omega)))
    · by_cases e : i = no
      · subst e; rw [ex_at]; exact ⟨hlol, hlll⟩
      · rw [ex_ne e]; exact b8.2.1 i (by omega)
    · by_cases e1 : i = no
      · by_cases e2 : i' = no
        · rw [e1, e2]
        · rw [e1, ex_at, ex_ne e2] at e
          exact absurd e.symm (hll i' (by omega))
      · by_cases e2 : i' = no
        · rw [e2, ex_at, ex_ne e1] at e
          exact absurd e (hll i (by omega))
        · rw [ex_ne e1, ex_ne e2] at e
          exact b8.2.2 i (by omega) i' (by omega) e
    · obtain ⟨k, fs⟩ := cc
      have z1 : 3 < k := z1
      exact kx b k fs e (by omega) z2
theorem st_up_up {A : st_A} {f i : Nat} {v w : Int32} : st_up (st_up A f i v) f i w = st_up A f i w := by
  funext a b
  unfold st_up
  split <;> rfl
theorem st_hang_13u {A : st_A} {o j : Nat} : st_hang (st_up A 13 j (nI o)) o j = st_hang A o j := by
  have es : st_s (st_up A 13 j (nI o)) o = st_s A o := by unfold st_s; rw [st_up_n (by decide)]
  unfold st_hang
  rw [es, st_up_n (by decide), st_up_comm (f := 13) (g := 11) (by decide), st_up_comm (f := 13) (g := 10) (by decide), st_up_up]
theorem rx_addLine (r : rx G x ol ll oa la lo ow no nl A h) (hz : zz no nl A) (hnl : nl < 60) {i s : Nat} (hi : i < no) (hs : sx_ok A i s nl) (s8 : s < 8) (e0 : A 18 nl = 0 ∧ A 19 nl = 0 ∧ A 20 nl = 0 ∧ A 22 nl = 0) {g n rk : Int32} :
    ∃ (P : Nat → ev_AH → Prop) (X : String → ev_AH → Prop), Mt l G M_X_addLine [.ref x, .ref (oa i), .int g, .int n, .int rk] h (ev_pr P X) ∧ (∀ q h', P q h' → ∃ ow', rx G x ol ll oa (ex la nl q) lo ow' no (nl + 1) (st_nl A nl i g n rk) h' ∧ fX h h') ∧ ∀ E h', X E h' → False := by
  have hi20 : i < 20 := by have := hz.1; omega
  obtain ⟨⟨b1, b2, b3, b4, b5, b6, b7, b8⟩, c1, c2⟩ := r
  refine ⟨fun q h' => ∃ ow', rx G x ol ll oa (ex la nl q) lo ow' no (nl + 1) (st_nl A nl i g n rk) h' ∧ fX h h', fun _ _ => False, vX_addLine ?_, fun _ _ y => y, fun _ _ y => y⟩
  intro q hq h2 e2
  subst e2
  obtain ⟨r1, m1, eol, -⟩ := (id b5 : _)
  obtain ⟨r2, m2, ell, -⟩ := (id b6 : _)
  have fo : ev_f h x 0 1 = some (.ref ll) := by rw [ev_f_at b2]; rfl
  have so : ev_f h ll 3 1 = some (.int (nI nl)) := by rw [rl_sz b6]; simp
  refine ⟨ll, ev_f_upn hq fo, nI nl, ev_f_upn hq so, ⟨_, by rw [ev_up_ne (fun y => by rw [y, hq] at ell; cases ell)]; exact ell⟩, ?_⟩
  obtain ⟨P0, hm, hP⟩ := sp_L_init (l := l) (G := G) (h := h) (q := q) (o := oa i) (a := nI nl) (b := g) (c := n) (d := rk)
  refine ⟨P0, hm, fun h8 y => ?_⟩
  have e8 := hP h8 y
  have k8 : ∀ b cc, h b = some cc → h8 b = some cc := fun b cc e => by
    rw [e8, ev_up_ne (fun y => by rw [y, hq] at e; cases e)]
    exact e
  have q8 : h8 q = some (2, [.int (nI nl), .int g, .ref (oa i), .int n, .int rk, .int 0, .int 0, .int 0, .int (-1), .int 1, .int 0]) := by rw [e8, ev_up_at]
  have hqll : q ≠ ll := fun y => by rw [y, ell] at hq; cases hq
  refine ⟨ll, by rw [ev_f_at (k8 _ _ b2)]; rfl, ⟨_, k8 _ _ ell⟩, _, _, sp_A_add0 (v := q) (rl_mono k8 b6) (by simp; omega) ?_ (rl_lin q8) hqll, fun r11 h10 y => ?_, fun _ _ q => q.elim⟩
  · intro v hv
    rw [List.mem_map] at hv
    obtain ⟨k, hk, rfl⟩ := hv
    exact rl_lin (k8 _ _ (c2 k (List.mem_range.mp hk)))
  · obtain ⟨ow1, y1, y2, y3⟩ := y
    have kx : ∀ b k fs, h b = some (k, fs) → k ≠ 3 → k ≠ 103 → h10 b = some (k, fs) := fun b k fs e z1 z2 => y2 b _ (k8 _ _ e) z2 (fun y => by rw [y, ell] at e; cases e; exact z1 rfl)
    have f1 : fX h h10 := fun b cc e z1 z2 => by
      obtain ⟨k, fs⟩ := cc
      have z1 : 3 < k := z1
      exact kx b k fs e (by omega) z2
    have hql : ∀ j, j < nl → la j ≠ q := fun j hj y => by have := c2 j hj; rw [y, hq] at this; cases this
    have ez : ∀ j, j < nl → j ≠ nl := fun j hj => by omega
    obtain ⟨A1, eA1⟩ : ∃ A1, A1 = st_up (st_up (st_up (st_up (st_up (st_up A 14 nl g) 15 nl (-1)) 16 nl rk) 17 nl n) 21 nl 1) 13 nl (nI i) := ⟨_, rfl⟩
    have a10 : ∀ y, A1 10 y = A 10 y := fun y => by rw [eA1]; simp (config := { decide := true }) only [st_up_s, st_up_n, ne_eq, not_false_eq_true, not_true_eq_false, true_and, and_true, and_self, or_self, or_false, false_or, or_true, true_or, false_and, and_false, if_false, if_true, true_implies, false_implies, implies_true, exists_eq_left', exists_eq_left, forall_eq, forall_eq', ev_b0, Classical.not_not, reduceIte]
    have a11 : ∀ y, A1 11 y = A 11 y := fun y => by rw [eA1]; simp (config := { decide := true }) only [st_up_s, st_up_n, ne_eq, not_false_eq_true, not_true_eq_false, true_and, and_true, and_self, or_self, or_false, false_or, or_true, true_or, false_and, and_false, if_false, if_true, true_implies, false_implies, implies_true, exists_eq_left', exists_eq_left, forall_eq, forall_eq', ev_b0, Classical.not_not, reduceIte]
    have a13 : A1 13 nl = nI i := by rw [eA1]; simp (config := { decide := true }) only [st_up_s, st_up_n, ne_eq, not_false_eq_true, not_true_eq_false, true_and, and_true, and_self, or_self, or_false, false_or, or_true, true_or, false_and, and_false, if_false, if_true, true_implies, false_implies, implies_true, exists_eq_left', exists_eq_left, forall_eq, forall_eq', ev_b0, Classical.not_not, reduceIte]
    have a8 : A1 8 i = A 8 i := by rw [eA1]; simp (config := { decide := true }) only [st_up_s, st_up_n, ne_eq, not_false_eq_true, not_true_eq_false, true_and, and_true, and_self, or_self, or_false, false_or, or_true, true_or, false_and, and_false, if_false, if_true, true_implies, false_implies, implies_true, exists_eq_left', exists_eq_left, forall_eq, forall_eq', ev_b0, Classical.not_not, reduceIte]
    have as1 : ∀ y, st_s A1 y = st_s A y := fun y => by unfold st_s; rw [a10]
    have al1 : ∀ y k, st_l A1 y k = st_l A y k := fun y k => by unfold st_l; rw [a11]
    have ah : st_h A1 nl = i := by unfold st_h; rw [a13]; exact nI_clamp (by omega)
    have co : ∀ i', i' < no → h10 (oa i') = some (1, xo_c lo A1 i') := fun i' hi' => by
      rw [kx _ _ _ (c1 i' hi') (by decide) (by decide), eA1]
      simp (config := { decide := true }) only [xo_c, st_up_s, st_up_n, ne_eq, not_false_eq_true, not_true_eq_false, true_and, and_true, and_self, or_self, or_false, false_or, or_true, true_or, false_and, and_false, if_false, if_true, true_implies, false_implies, implies_true, exists_eq_left', exists_eq_left, forall_eq, forall_eq', ev_b0, Classical.not_not, reduceIte]
    have cl : ∀ j, j < nl + 1 → h10 (ex la nl q j) = some (2, xl_c oa A1 j) := fun j hj => by
      by_cases e : j = nl
      · subst e
        rw [ex_at, y2 _ _ q8 (show (2 : Nat) ≠ 103 by decide) hqll]
        unfold xl_c
        rw [ah, eA1]
        simp (config := { decide := true }) only [e0, st_up_s, st_up_n, ne_eq, not_false_eq_true, not_true_eq_false, true_and, and_true, and_self, or_self, or_false, false_or, or_true, true_or, false_and, and_false, if_false, if_true, true_implies, false_implies, implies_true, exists_eq_left', exists_eq_left, forall_eq, forall_eq', ev_b0, Classical.not_not, reduceIte]
      · have e' : ¬ j = nl := e
        have eh : st_h A1 j = st_h A j := by unfold st_h; rw [eA1]; simp (config := { decide := true }) only [st_sn e']
        rw [ex_ne e, kx _ _ _ (c2 j (by omega)) (by decide) (by decide)]
        unfold xl_c
        rw [eh, eA1]
        simp (config := { decide := true }) only [st_sn e']
    have rx1 : rx G x ol ll oa (ex la nl q) lo ow1 no (nl + 1) A1 h10 := by
      refine ⟨⟨⟨b1.1, fun j hj j' hj' e => ?_⟩, kx _ _ _ b2 (by decide) (by decide), fun i hi => ⟨_, co i hi⟩, fun j hj => ⟨_, cl j hj⟩, y3 _ _ b8.1 (rl_mono k8 b5), ?_, fun i' hi' => ?_, b8⟩, co, cl⟩
      · by_cases e1 : j = nl
        · by_cases e2 : j' = nl
          · rw [e1, e2]
          · rw [e1, ex_at, ex_ne e2] at e
            exact absurd e.symm (hql j' (by omega))
        · by_cases e2 : j' = nl
          · rw [e2, ex_at, ex_ne e1] at e
            exact absurd e (hql j (by omega))
          · rw [ex_ne e1, ex_ne e2] at e
            exact b1.2 j (by omega) j' (by omega) e
      · rw [List.range_succ, List.map_append, List.map_cons, List.map_nil, ex_at]
        have em : (List.range nl).map (ex la nl q) = (List.range nl).map la := List.map_congr_left (fun k hk => ex_ne (ez k (List.mem_range.mp hk)))
        rw [em]
        exact y1
      · rw [as1]
        obtain ⟨si, hsi⟩ := hz.2.2 i' hi'
        have em : (List.range (st_s A i')).map (fun k => ex la nl q (st_l A1 i' k)) = (List.range (st_s A i')).map (fun k => la (st_l A i' k)) := List.map_congr_left (fun k hk => by
          rw [al1, ex_ne (ez _ (hsi.2 k (by have := List.mem_range.mp hk; rw [hsi.s] at this; exact this)))])
        rw [em]
        exact y3 _ _ (b8.2.1 i' hi').2 (rl_mono k8 (b7 i' hi'))
    have sx1 : ∀ i' si, sx_ok A i' si nl → sx_ok A1 i' si (nl + 1) := fun i' si z => ⟨⟨z.1.1, z.1.2.1, by rw [a10]; exact z.1.2.2.1, fun k hk => by rw [a11]; exact z.1.2.2.2 k hk⟩, fun k hk => by rw [al1]; have := z.2 k hk; omega⟩
    have zz1 : zz no (nl + 1) A1 := ⟨hz.1, by omega, fun i' hi' => (hz.2.2 i' hi').imp fun si z => sx1 i' si z⟩
    obtain ⟨P1, X1, hm1, hp1, hx1⟩ := rx_add (l := l) rx1 zz1 hi (by omega : nl < nl + 1) (sx1 i s hs) s8 a13
    rw [ex_at] at hm1
    refine ⟨lo i, by rw [ev_f_at (co i hi)]; rfl, rx_lo rx1 hi, P1, X1, hm1, fun r14 h13 y => ?_, fun E h9 y => (hx1 E h9 y).elim⟩
    obtain ⟨ow2, rx2, f2⟩ := hp1 _ _ y
    have e15 : ev_f h13 (oa i) 1 8 = some (.int (A 8 i)) := by
      rw [ev_f_at (rx2.2.1 i hi)]
      show some (Value.int (st_hang A1 i nl 8 i)) = _
      rw [st_hang_n (by decide) (by decide) (by decide), a8]
    refine ⟨A 8 i, e15, _, e15, fun h17 e17 => ?_⟩
    obtain ⟨rx3, f3⟩ := rx_o8 (v := A 8 i + 1) rx2 hi
    rw [← e17] at rx3 f3
    have en : st_nl A nl i g n rk = st_up (st_hang A1 i nl) 8 i (A 8 i + 1) := by rw [eA1, st_hang_13u]; rfl
    exact ⟨ow2, by rw [en]; exact rx3, (f1.trans f2).trans f3⟩
end NEW
