/-! THE CLASS: the orders' and lines' cells as a function of the state -/
def xo_c (lo : Nat → Nat) (A : st_A) (i : Nat) : List Value := [.int (nI i), .int (A 2 i), .int (A 3 i), .int (A 4 i), .ref (lo i), .int (A 5 i), .int (A 6 i), .int (A 7 i), .int (A 8 i), .int (A 9 i)]
def xl_c (oa : Nat → Nat) (A : st_A) (j : Nat) : List Value := [.int (nI j), .int (A 14 j), .ref (oa (st_h A j)), .int (A 17 j), .int (A 16 j), .int (A 18 j), .int (A 19 j), .int (A 20 j), .int (A 15 j), .int (A 21 j), .int (A 22 j)]
def XH (oa la lo : Nat → Nat) (no nl : Nat) (A : st_A) (h : ev_AH) : ev_AH := fun b => match (List.range no).find? (fun i => oa i == b) with
  | some i => some (1, xo_c lo A i)
  | none => match (List.range nl).find? (fun j => la j == b) with
    | some j => some (2, xl_c oa A j)
    | none => h b
/-- what stands in the base -/
def xb (G : ev_G) (x ol ll : Nat) (oa la lo ow : Nat → Nat) (no nl : Nat) (A : st_A) (h : ev_AH) : Prop :=
  ((∀ i, i < no → ∀ i', i' < no → oa i = oa i' → i = i') ∧ (∀ j, j < nl → ∀ j', j' < nl → la j = la j' → j = j')) ∧
  h x = some (0, [.ref ol, .ref ll]) ∧
  (∀ i, i < no → ∃ fs, h (oa i) = some (1, fs)) ∧ (∀ j, j < nl → ∃ fs, h (la j) = some (2, fs)) ∧
  rl G h ow ol ((List.range no).map oa) ∧ rl G h ow ll ((List.range nl).map la) ∧
  (∀ i, i < no → rl G h ow (lo i) ((List.range (st_s A i)).map (fun k => la (st_l A i k)))) ∧
  (ol ≠ ll ∧ (∀ i, i < no → lo i ≠ ol ∧ lo i ≠ ll) ∧ ∀ i, i < no → ∀ i', i' < no → lo i = lo i' → i = i')
theorem fd_at {f : Nat → Nat} {n i : Nat} (hf : ∀ i, i < n → ∀ i', i' < n → f i = f i' → i = i') (hi : i < n) : (List.range n).find? (fun g => f g == f i) = some i := by
  cases e : (List.range n).find? (fun g => f g == f i) with
  | none =>
    have := List.find?_eq_none.mp e i (List.mem_range.mpr hi)
    simp at this
  | some g =>
    have h1 := List.find?_some e
    have h2 := List.mem_range.mp (List.mem_of_find?_eq_some e)
    rw [hf g h2 i hi (by simpa using h1)]
theorem fd_no {f : Nat → Nat} {n b : Nat} (hf : ∀ i, i < n → ¬ f i = b) : (List.range n).find? (fun g => f g == b) = none := by
  refine List.find?_eq_none.mpr (fun i hi => ?_)
  have := hf i (List.mem_range.mp hi)
  simpa using this
theorem fd_in {f : Nat → Nat} {n b i : Nat} (e : (List.range n).find? (fun g => f g == b) = some i) : i < n ∧ f i = b := by
  have h1 := List.find?_some e
  exact ⟨List.mem_range.mp (List.mem_of_find?_eq_some e), by simpa using h1⟩
section CLS
variable {G : ev_G} {x ol ll : Nat} {oa la lo ow : Nat → Nat} {no nl : Nat} {A B : st_A} {h : ev_AH}
theorem xh_o (hb : xb G x ol ll oa la lo ow no nl B h) {i : Nat} (hi : i < no) : XH oa la lo no nl A h (oa i) = some (1, xo_c lo A i) := by
  unfold XH
  rw [fd_at hb.1.1 hi]
theorem xh_ol (hb : xb G x ol ll oa la lo ow no nl B h) {i j : Nat} (hi : i < no) (hj : j < nl) : ¬ oa i = la j := by
  obtain ⟨fs, e1⟩ := hb.2.2.1 i hi
  obtain ⟨gs, e2⟩ := hb.2.2.2.1 j hj
  intro y
  rw [y, e2] at e1
  cases e1
theorem xh_l (hb : xb G x ol ll oa la lo ow no nl B h) {j : Nat} (hj : j < nl) : XH oa la lo no nl A h (la j) = some (2, xl_c oa A j) := by
  unfold XH
  rw [fd_no (fun i hi => xh_ol hb hi hj), fd_at hb.1.2 hj]
theorem xh_b {b : Nat} (h1 : ∀ i, i < no → ¬ oa i = b) (h2 : ∀ j, j < nl → ¬ la j = b) : XH oa la lo no nl A h b = h b := by
  unfold XH
  rw [fd_no h1, fd_no h2]
/-- what is neither an order nor a line stands as in the base -/
theorem xh_k (hb : xb G x ol ll oa la lo ow no nl B h) {b k : Nat} {fs : List Value} (e : h b = some (k, fs)) (h1 : k ≠ 1) (h2 : k ≠ 2) : XH oa la lo no nl A h b = some (k, fs) := by
  rw [xh_b, e]
  · intro i hi y
    obtain ⟨gs, e1⟩ := hb.2.2.1 i hi
    rw [y, e] at e1
    cases e1
    exact h1 rfl
  · intro i hi y
    obtain ⟨gs, e1⟩ := hb.2.2.2.1 i hi
    rw [y, e] at e1
    cases e1
    exact h2 rfl
theorem xh_rl (hb : xb G x ol ll oa la lo ow no nl B h) {a : Nat} {vs : List Nat} (r : rl G h ow a vs) : rl G (XH oa la lo no nl A h) ow a vs := by
  obtain ⟨r, m, e, z⟩ := r
  refine ⟨r, m, xh_k hb e (by decide) (by decide), ?_⟩
  rcases z with z | ⟨z1, z2, k, z3, z4, z5⟩
  · exact Or.inl z
  · exact Or.inr ⟨z1, z2, k, z3, z4, xh_k hb z5 (by decide) (by decide)⟩
theorem xh_ext {A' : st_A} (ho : ∀ i, i < no → xo_c lo A i = xo_c lo A' i) (hl : ∀ j, j < nl → xl_c oa A j = xl_c oa A' j) : XH oa la lo no nl A h = XH oa la lo no nl A' h := by
  funext b
  unfold XH
  split
  · next i e => rw [ho i (fd_in e).1]
  · split
    · next j e => rw [hl j (fd_in e).1]
    · rfl
theorem xs_o (hb : xb G x ol ll oa la lo ow no nl B h) {i k : Nat} {v : Value} {A' : st_A} (hi : i < no) (h1 : xo_c lo A' i = (xo_c lo A i).set k v) (h2 : ∀ i', i' < no → ¬ i' = i → xo_c lo A' i' = xo_c lo A i') (h3 : ∀ j, j < nl → xl_c oa A' j = xl_c oa A j) : ev_s (XH oa la lo no nl A h) (oa i) k v = XH oa la lo no nl A' h := by
  funext b
  by_cases e : b = oa i
  · subst e
    rw [ev_s_at (xh_o hb hi), xh_o hb hi, h1]
  · rw [ev_s_ne e]
    unfold XH
    split
    · next i' e' => rw [h2 i' (fd_in e').1 (fun y => e (by rw [← y]; exact (fd_in e').2.symm))]
    · split
      · next j e' => rw [h3 j (fd_in e').1]
      · rfl
theorem xs_l (hb : xb G x ol ll oa la lo ow no nl B h) {j k : Nat} {v : Value} {A' : st_A} (hj : j < nl) (h1 : xl_c oa A' j = (xl_c oa A j).set k v) (h2 : ∀ j', j' < nl → ¬ j' = j → xl_c oa A' j' = xl_c oa A j') (h3 : ∀ i, i < no → xo_c lo A' i = xo_c lo A i) : ev_s (XH oa la lo no nl A h) (la j) k v = XH oa la lo no nl A' h := by
  funext b
  by_cases e : b = la j
  · subst e
    rw [ev_s_at (xh_l hb hj), xh_l hb hj, h1]
  · rw [ev_s_ne e]
    unfold XH
    split
    · next i e' => rw [h3 i (fd_in e').1]
    · split
      · next j' e' => rw [h2 j' (fd_in e').1 (fun y => e (by rw [← y]; exact (fd_in e').2.symm))]
      · rfl
theorem st_h_n {A : st_A} {f i j : Nat} {v : Int32} (e : f ≠ 13) : st_h (st_up A f i v) j = st_h A j := by unfold st_h; rw [st_up_n (Ne.symm e)]
theorem rl_get {a : Nat} {vs : List Nat} (r : rl G h ow a vs) (hv : vs.length ≤ 60) {k v : Nat} (hk : vs[k]? = some v) (w : Nat) : ev_get h a (nI k) w ↔ v = w := by
  obtain ⟨r, m, e, z⟩ := r
  have hkl := (List.getElem?_eq_some_iff.mp hk).1
  rcases z with ⟨-, z⟩ | ⟨z1, z2, n, z3, z4, z5⟩
  · rw [z] at hk; cases hk
  · have kc : (nI k).toNatClampNeg = k := nI_clamp (by omega)
    have eg : ev_f h r 103 (nI k).toNatClampNeg = some (.ref v) := by
      rw [kc, ev_f_at z5, List.getElem?_append_left (by rw [List.length_map]; exact hkl), List.getElem?_map, hk]
      rfl
    unfold ev_get
    constructor
    · rintro ⟨n, r', y1, y2, y3, y4, y5⟩
      rw [ev_f_at e] at y4
      cases y4
      rw [eg] at y5
      cases y5
      rfl
    · rintro rfl
      exact ⟨nI vs.length, r, by rw [ev_f_at e]; rfl, nI_pos (by omega), nI_lt hkl (by omega), by rw [ev_f_at e]; rfl, eg⟩
theorem rl_sz {a : Nat} {vs : List Nat} (r : rl G h ow a vs) : ev_f h a 3 1 = some (.int (nI vs.length)) := by
  obtain ⟨r, m, e, z⟩ := r
  rw [ev_f_at e]
  rfl
theorem rl_fs {a : Nat} {vs : List Nat} (r : rl G h ow a vs) : (∃ fs : List Value, h a = some (3, fs)) ↔ True := by
  obtain ⟨r, m, e, z⟩ := r
  exact ⟨fun _ => trivial, fun _ => ⟨_, e⟩⟩
/-! reads -/
theorem xx_0 (hb : xb G x ol ll oa la lo ow no nl B h) : ev_f (XH oa la lo no nl A h) x 0 0 = some (.ref ol) := by rw [ev_f_at (xh_k hb hb.2.1 (by decide) (by decide))]; rfl
theorem xx_1 (hb : xb G x ol ll oa la lo ow no nl B h) : ev_f (XH oa la lo no nl A h) x 0 1 = some (.ref ll) := by rw [ev_f_at (xh_k hb hb.2.1 (by decide) (by decide))]; rfl
theorem xx_f (hb : xb G x ol ll oa la lo ow no nl B h) : (∃ fs : List Value, XH oa la lo no nl A h x = some (0, fs)) ↔ True := ⟨fun _ => trivial, fun _ => ⟨_, xh_k hb hb.2.1 (by decide) (by decide)⟩⟩
theorem xo_f (hb : xb G x ol ll oa la lo ow no nl B h) {i : Nat} (hi : i < no) : (∃ fs : List Value, XH oa la lo no nl A h (oa i) = some (1, fs)) ↔ True := ⟨fun _ => trivial, fun _ => ⟨_, xh_o hb hi⟩⟩
theorem xl_f (hb : xb G x ol ll oa la lo ow no nl B h) {j : Nat} (hj : j < nl) : (∃ fs : List Value, XH oa la lo no nl A h (la j) = some (2, fs)) ↔ True := ⟨fun _ => trivial, fun _ => ⟨_, xh_l hb hj⟩⟩
theorem xg_o (hb : xb G x ol ll oa la lo ow no nl B h) (hno : no ≤ 20) {k v : Nat} (hk : k < no) : ev_get (XH oa la lo no nl A h) ol (nI k) v ↔ oa k = v :=
  rl_get (xh_rl hb hb.2.2.2.2.1) (by simp; omega) (by simp [hk]) v
theorem xg_l (hb : xb G x ol ll oa la lo ow no nl B h) (hnl : nl ≤ 60) {k v : Nat} (hk : k < nl) : ev_get (XH oa la lo no nl A h) ll (nI k) v ↔ la k = v :=
  rl_get (xh_rl hb hb.2.2.2.2.2.1) (by simp; omega) (by simp [hk]) v
theorem xn_o (hb : xb G x ol ll oa la lo ow no nl B h) : ev_f (XH oa la lo no nl A h) ol 3 1 = some (.int (nI no)) := by
  rw [rl_sz (xh_rl hb hb.2.2.2.2.1)]; simp
theorem xn_l (hb : xb G x ol ll oa la lo ow no nl B h) : ev_f (XH oa la lo no nl A h) ll 3 1 = some (.int (nI nl)) := by
  rw [rl_sz (xh_rl hb hb.2.2.2.2.2.1)]; simp
theorem xn_i (hb : xb G x ol ll oa la lo ow no nl B h) {i : Nat} (hi : i < no) : ev_f (XH oa la lo no nl A h) (lo i) 3 1 = some (.int (nI (st_s B i))) := by
  rw [rl_sz (xh_rl hb (hb.2.2.2.2.2.2.1 i hi))]; simp
theorem xg_i (hb : xb G x ol ll oa la lo ow no nl B h) {i k v : Nat} (hi : i < no) (h8 : st_s B i ≤ 8) (hk : k < st_s B i) : ev_get (XH oa la lo no nl A h) (lo i) (nI k) v ↔ la (st_l B i k) = v :=
  rl_get (xh_rl hb (hb.2.2.2.2.2.2.1 i hi)) (by simp; omega) (by simp [hk]) v
theorem xf_o (hb : xb G x ol ll oa la lo ow no nl B h) : (∃ fs : List Value, XH oa la lo no nl A h ol = some (3, fs)) ↔ True := rl_fs (xh_rl hb hb.2.2.2.2.1)
theorem xf_l (hb : xb G x ol ll oa la lo ow no nl B h) : (∃ fs : List Value, XH oa la lo no nl A h ll = some (3, fs)) ↔ True := rl_fs (xh_rl hb hb.2.2.2.2.2.1)
theorem xf_i (hb : xb G x ol ll oa la lo ow no nl B h) {i : Nat} (hi : i < no) : (∃ fs : List Value, XH oa la lo no nl A h (lo i) = some (3, fs)) ↔ True := rl_fs (xh_rl hb (hb.2.2.2.2.2.2.1 i hi))
theorem xo_0 (hb : xb G x ol ll oa la lo ow no nl B h) {i : Nat} (hi : i < no) : ev_f (XH oa la lo no nl A h) (oa i) 1 0 = some (.int (nI i)) := by rw [ev_f_at (xh_o hb hi)]; rfl
theorem xo_1 (hb : xb G x ol ll oa la lo ow no nl B h) {i : Nat} (hi : i < no) : ev_f (XH oa la lo no nl A h) (oa i) 1 1 = some (.int (A 2 i)) := by rw [ev_f_at (xh_o hb hi)]; rfl
theorem xo_2 (hb : xb G x ol ll oa la lo ow no nl B h) {i : Nat} (hi : i < no) : ev_f (XH oa la lo no nl A h) (oa i) 1 2 = some (.int (A 3 i)) := by rw [ev_f_at (xh_o hb hi)]; rfl
theorem xo_3 (hb : xb G x ol ll oa la lo ow no nl B h) {i : Nat} (hi : i < no) : ev_f (XH oa la lo no nl A h) (oa i) 1 3 = some (.int (A 4 i)) := by rw [ev_f_at (xh_o hb hi)]; rfl
theorem xo_4 (hb : xb G x ol ll oa la lo ow no nl B h) {i : Nat} (hi : i < no) : ev_f (XH oa la lo no nl A h) (oa i) 1 4 = some (.ref (lo i)) := by rw [ev_f_at (xh_o hb hi)]; rfl
theorem xo_5 (hb : xb G x ol ll oa la lo ow no nl B h) {i : Nat} (hi : i < no) : ev_f (XH oa la lo no nl A h) (oa i) 1 5 = some (.int (A 5 i)) := by rw [ev_f_at (xh_o hb hi)]; rfl
theorem xo_6 (hb : xb G x ol ll oa la lo ow no nl B h) {i : Nat} (hi : i < no) : ev_f (XH oa la lo no nl A h) (oa i) 1 6 = some (.int (A 6 i)) := by rw [ev_f_at (xh_o hb hi)]; rfl
theorem xo_7 (hb : xb G x ol ll oa la lo ow no nl B h) {i : Nat} (hi : i < no) : ev_f (XH oa la lo no nl A h) (oa i) 1 7 = some (.int (A 7 i)) := by rw [ev_f_at (xh_o hb hi)]; rfl
theorem xo_8 (hb : xb G x ol ll oa la lo ow no nl B h) {i : Nat} (hi : i < no) : ev_f (XH oa la lo no nl A h) (oa i) 1 8 = some (.int (A 8 i)) := by rw [ev_f_at (xh_o hb hi)]; rfl
theorem xo_9 (hb : xb G x ol ll oa la lo ow no nl B h) {i : Nat} (hi : i < no) : ev_f (XH oa la lo no nl A h) (oa i) 1 9 = some (.int (A 9 i)) := by rw [ev_f_at (xh_o hb hi)]; rfl
theorem xl_0 (hb : xb G x ol ll oa la lo ow no nl B h) {j : Nat} (hj : j < nl) : ev_f (XH oa la lo no nl A h) (la j) 2 0 = some (.int (nI j)) := by rw [ev_f_at (xh_l hb hj)]; rfl
theorem xl_1 (hb : xb G x ol ll oa la lo ow no nl B h) {j : Nat} (hj : j < nl) : ev_f (XH oa la lo no nl A h) (la j) 2 1 = some (.int (A 14 j)) := by rw [ev_f_at (xh_l hb hj)]; rfl
theorem xl_2 (hb : xb G x ol ll oa la lo ow no nl B h) {j : Nat} (hj : j < nl) : ev_f (XH oa la lo no nl A h) (la j) 2 2 = some (.ref (oa (st_h A j))) := by rw [ev_f_at (xh_l hb hj)]; rfl
theorem xl_3 (hb : xb G x ol ll oa la lo ow no nl B h) {j : Nat} (hj : j < nl) : ev_f (XH oa la lo no nl A h) (la j) 2 3 = some (.int (A 17 j)) := by rw [ev_f_at (xh_l hb hj)]; rfl
theorem xl_4 (hb : xb G x ol ll oa la lo ow no nl B h) {j : Nat} (hj : j < nl) : ev_f (XH oa la lo no nl A h) (la j) 2 4 = some (.int (A 16 j)) := by rw [ev_f_at (xh_l hb hj)]; rfl
theorem xl_5 (hb : xb G x ol ll oa la lo ow no nl B h) {j : Nat} (hj : j < nl) : ev_f (XH oa la lo no nl A h) (la j) 2 5 = some (.int (A 18 j)) := by rw [ev_f_at (xh_l hb hj)]; rfl
theorem xl_6 (hb : xb G x ol ll oa la lo ow no nl B h) {j : Nat} (hj : j < nl) : ev_f (XH oa la lo no nl A h) (la j) 2 6 = some (.int (A 19 j)) := by rw [ev_f_at (xh_l hb hj)]; rfl
theorem xl_7 (hb : xb G x ol ll oa la lo ow no nl B h) {j : Nat} (hj : j < nl) : ev_f (XH oa la lo no nl A h) (la j) 2 7 = some (.int (A 20 j)) := by rw [ev_f_at (xh_l hb hj)]; rfl
theorem xl_8 (hb : xb G x ol ll oa la lo ow no nl B h) {j : Nat} (hj : j < nl) : ev_f (XH oa la lo no nl A h) (la j) 2 8 = some (.int (A 15 j)) := by rw [ev_f_at (xh_l hb hj)]; rfl
theorem xl_9 (hb : xb G x ol ll oa la lo ow no nl B h) {j : Nat} (hj : j < nl) : ev_f (XH oa la lo no nl A h) (la j) 2 9 = some (.int (A 21 j)) := by rw [ev_f_at (xh_l hb hj)]; rfl
theorem xl_10 (hb : xb G x ol ll oa la lo ow no nl B h) {j : Nat} (hj : j < nl) : ev_f (XH oa la lo no nl A h) (la j) 2 10 = some (.int (A 22 j)) := by rw [ev_f_at (xh_l hb hj)]; rfl
theorem st_sn {A : st_A} {f i i' g : Nat} {v : Int32} (e : ¬ i' = i) : st_up A f i v g i' = A g i' := by unfold st_up; rw [if_neg (fun y => e y.2)]
theorem ws_5 (hb : xb G x ol ll oa la lo ow no nl B h) {i : Nat} {v : Int32} (hi : i < no) : ev_s (XH oa la lo no nl A h) (oa i) 5 (.int v) = XH oa la lo no nl (st_up A 5 i v) h :=
  xs_o hb hi (by simp (config := { decide := true }) only [xo_c, st_up_s, st_up_n, ne_eq, not_false_eq_true]; rfl) (fun i' _ e => by simp (config := { decide := true }) only [xo_c, st_sn e]) (fun j _ => by simp (config := { decide := true }) only [xl_c, st_up_n, st_h_n, ne_eq, not_false_eq_true])
theorem ws_6 (hb : xb G x ol ll oa la lo ow no nl B h) {i : Nat} {v : Int32} (hi : i < no) : ev_s (XH oa la lo no nl A h) (oa i) 6 (.int v) = XH oa la lo no nl (st_up A 6 i v) h :=
  xs_o hb hi (by simp (config := { decide := true }) only [xo_c, st_up_s, st_up_n, ne_eq, not_false_eq_true]; rfl) (fun i' _ e => by simp (config := { decide := true }) only [xo_c, st_sn e]) (fun j _ => by simp (config := { decide := true }) only [xl_c, st_up_n, st_h_n, ne_eq, not_false_eq_true])
theorem ws_7 (hb : xb G x ol ll oa la lo ow no nl B h) {i : Nat} {v : Int32} (hi : i < no) : ev_s (XH oa la lo no nl A h) (oa i) 7 (.int v) = XH oa la lo no nl (st_up A 7 i v) h :=
  xs_o hb hi (by simp (config := { decide := true }) only [xo_c, st_up_s, st_up_n, ne_eq, not_false_eq_true]; rfl) (fun i' _ e => by simp (config := { decide := true }) only [xo_c, st_sn e]) (fun j _ => by simp (config := { decide := true }) only [xl_c, st_up_n, st_h_n, ne_eq, not_false_eq_true])
theorem ws_8 (hb : xb G x ol ll oa la lo ow no nl B h) {i : Nat} {v : Int32} (hi : i < no) : ev_s (XH oa la lo no nl A h) (oa i) 8 (.int v) = XH oa la lo no nl (st_up A 8 i v) h :=
  xs_o hb hi (by simp (config := { decide := true }) only [xo_c, st_up_s, st_up_n, ne_eq, not_false_eq_true]; rfl) (fun i' _ e => by simp (config := { decide := true }) only [xo_c, st_sn e]) (fun j _ => by simp (config := { decide := true }) only [xl_c, st_up_n, st_h_n, ne_eq, not_false_eq_true])
theorem ws_9 (hb : xb G x ol ll oa la lo ow no nl B h) {i : Nat} {v : Int32} (hi : i < no) : ev_s (XH oa la lo no nl A h) (oa i) 9 (.int v) = XH oa la lo no nl (st_up A 9 i v) h :=
  xs_o hb hi (by simp (config := { decide := true }) only [xo_c, st_up_s, st_up_n, ne_eq, not_false_eq_true]; rfl) (fun i' _ e => by simp (config := { decide := true }) only [xo_c, st_sn e]) (fun j _ => by simp (config := { decide := true }) only [xl_c, st_up_n, st_h_n, ne_eq, not_false_eq_true])
theorem wl_3 (hb : xb G x ol ll oa la lo ow no nl B h) {j : Nat} {v : Int32} (hj : j < nl) : ev_s (XH oa la lo no nl A h) (la j) 3 (.int v) = XH oa la lo no nl (st_up A 17 j v) h :=
  xs_l hb hj (by simp (config := { decide := true }) only [xl_c, st_up_s, st_up_n, st_h_n, ne_eq, not_false_eq_true]; rfl) (fun j' _ e => by simp (config := { decide := true }) only [xl_c, st_h_n, st_sn e, ne_eq, not_false_eq_true]) (fun i _ => by simp (config := { decide := true }) only [xo_c, st_up_n, ne_eq, not_false_eq_true])
theorem wl_4 (hb : xb G x ol ll oa la lo ow no nl B h) {j : Nat} {v : Int32} (hj : j < nl) : ev_s (XH oa la lo no nl A h) (la j) 4 (.int v) = XH oa la lo no nl (st_up A 16 j v) h :=
  xs_l hb hj (by simp (config := { decide := true }) only [xl_c, st_up_s, st_up_n, st_h_n, ne_eq, not_false_eq_true]; rfl) (fun j' _ e => by simp (config := { decide := true }) only [xl_c, st_h_n, st_sn e, ne_eq, not_false_eq_true]) (fun i _ => by simp (config := { decide := true }) only [xo_c, st_up_n, ne_eq, not_false_eq_true])
theorem wl_5 (hb : xb G x ol ll oa la lo ow no nl B h) {j : Nat} {v : Int32} (hj : j < nl) : ev_s (XH oa la lo no nl A h) (la j) 5 (.int v) = XH oa la lo no nl (st_up A 18 j v) h :=
  xs_l hb hj (by simp (config := { decide := true }) only [xl_c, st_up_s, st_up_n, st_h_n, ne_eq, not_false_eq_true]; rfl) (fun j' _ e => by simp (config := { decide := true }) only [xl_c, st_h_n, st_sn e, ne_eq, not_false_eq_true]) (fun i _ => by simp (config := { decide := true }) only [xo_c, st_up_n, ne_eq, not_false_eq_true])
theorem wl_6 (hb : xb G x ol ll oa la lo ow no nl B h) {j : Nat} {v : Int32} (hj : j < nl) : ev_s (XH oa la lo no nl A h) (la j) 6 (.int v) = XH oa la lo no nl (st_up A 19 j v) h :=
  xs_l hb hj (by simp (config := { decide := true }) only [xl_c, st_up_s, st_up_n, st_h_n, ne_eq, not_false_eq_true]; rfl) (fun j' _ e => by simp (config := { decide := true }) only [xl_c, st_h_n, st_sn e, ne_eq, not_false_eq_true]) (fun i _ => by simp (config := { decide := true }) only [xo_c, st_up_n, ne_eq, not_false_eq_true])
theorem wl_7 (hb : xb G x ol ll oa la lo ow no nl B h) {j : Nat} {v : Int32} (hj : j < nl) : ev_s (XH oa la lo no nl A h) (la j) 7 (.int v) = XH oa la lo no nl (st_up A 20 j v) h :=
  xs_l hb hj (by simp (config := { decide := true }) only [xl_c, st_up_s, st_up_n, st_h_n, ne_eq, not_false_eq_true]; rfl) (fun j' _ e => by simp (config := { decide := true }) only [xl_c, st_h_n, st_sn e, ne_eq, not_false_eq_true]) (fun i _ => by simp (config := { decide := true }) only [xo_c, st_up_n, ne_eq, not_false_eq_true])
theorem wl_8 (hb : xb G x ol ll oa la lo ow no nl B h) {j : Nat} {v : Int32} (hj : j < nl) : ev_s (XH oa la lo no nl A h) (la j) 8 (.int v) = XH oa la lo no nl (st_up A 15 j v) h :=
  xs_l hb hj (by simp (config := { decide := true }) only [xl_c, st_up_s, st_up_n, st_h_n, ne_eq, not_false_eq_true]; rfl) (fun j' _ e => by simp (config := { decide := true }) only [xl_c, st_h_n, st_sn e, ne_eq, not_false_eq_true]) (fun i _ => by simp (config := { decide := true }) only [xo_c, st_up_n, ne_eq, not_false_eq_true])
theorem wl_9 (hb : xb G x ol ll oa la lo ow no nl B h) {j : Nat} {v : Int32} (hj : j < nl) : ev_s (XH oa la lo no nl A h) (la j) 9 (.int v) = XH oa la lo no nl (st_up A 21 j v) h :=
  xs_l hb hj (by simp (config := { decide := true }) only [xl_c, st_up_s, st_up_n, st_h_n, ne_eq, not_false_eq_true]; rfl) (fun j' _ e => by simp (config := { decide := true }) only [xl_c, st_h_n, st_sn e, ne_eq, not_false_eq_true]) (fun i _ => by simp (config := { decide := true }) only [xo_c, st_up_n, ne_eq, not_false_eq_true])
theorem wl_10 (hb : xb G x ol ll oa la lo ow no nl B h) {j : Nat} {v : Int32} (hj : j < nl) : ev_s (XH oa la lo no nl A h) (la j) 10 (.int v) = XH oa la lo no nl (st_up A 22 j v) h :=
  xs_l hb hj (by simp (config := { decide := true }) only [xl_c, st_up_s, st_up_n, st_h_n, ne_eq, not_false_eq_true]; rfl) (fun j' _ e => by simp (config := { decide := true }) only [xl_c, st_h_n, st_sn e, ne_eq, not_false_eq_true]) (fun i _ => by simp (config := { decide := true }) only [xo_c, st_up_n, ne_eq, not_false_eq_true])
end CLS
