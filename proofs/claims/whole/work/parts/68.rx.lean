/-! THE CLASS: what holds of its cells; what making adds -/
/-- what a call of the class leaves as it was -/
def fX (h h' : ev_AH) : Prop := ∀ b c, h b = some c → 3 < c.1 → c.1 ≠ 103 → h' b = some c
theorem fX.rfl {h : ev_AH} : fX h h := fun _ _ e _ _ => e
theorem fX.trans {h h' h'' : ev_AH} (a : fX h h') (b : fX h' h'') : fX h h'' := fun q c e h1 h2 => b q c (a q c e h1 h2) h1 h2
def rx (G : ev_G) (x ol ll : Nat) (oa la lo ow : Nat → Nat) (no nl : Nat) (A : st_A) (h : ev_AH) : Prop :=
  xb G x ol ll oa la lo ow no nl A h ∧ (∀ i, i < no → h (oa i) = some (1, xo_c lo A i)) ∧ ∀ j, j < nl → h (la j) = some (2, xl_c oa A j)
/-- lists of lines are lists of lines -/
def zz (no nl : Nat) (A : st_A) : Prop := no ≤ 20 ∧ nl ≤ 60 ∧ ∀ i, i < no → ∃ s, sx_ok A i s nl
theorem zz_of {no nl : Nat} {A : st_A} (hI : st_I no nl A) : zz no nl A := ⟨hI.1.1, hI.1.2, fun _ hi => sx_of hI hi⟩
theorem sx_ok.s {A : st_A} {i s nl : Nat} (h : sx_ok A i s nl) : st_s A i = s := st_s_of h.1.2.2.1 h.1.2.1
theorem st_hang_11s {A : st_A} {o l : Nat} : st_hang A o l 11 (8 * o + st_s A o) = nI l := by unfold st_hang; rw [st_up_n (by decide), st_up_n (by decide), st_up_s]
theorem st_hang_13 {A : st_A} {o l : Nat} : st_hang A o l 13 l = nI o := by unfold st_hang; rw [st_up_s]
theorem st_hang_13n {A : st_A} {o l y : Nat} (e : ¬ y = l) : st_hang A o l 13 y = A 13 y := by unfold st_hang; rw [st_up_j e, st_up_n (by decide), st_up_n (by decide)]
theorem sl_hang {A : st_A} {o j s i nl si : Nat} (hs : sx_ok A o s nl) (s8 : s < 8) (hj : j < nl) (hj6 : j < 60) (hi : sx_ok A i si nl) : (i = o ∧ sx_ok (st_hang A o j) o (s + 1) nl ∧ (∀ k, k < s → st_l (st_hang A o j) o k = st_l A o k) ∧ st_l (st_hang A o j) o s = j) ∨ (¬ i = o ∧ sx_ok (st_hang A o j) i si nl ∧ ∀ k, k < si → st_l (st_hang A o j) i k = st_l A i k) := by
  have es := hs.s
  by_cases e : i = o
  · subst e
    have z1 : ∀ k, k < s → st_hang A i j 11 (8 * i + k) = A 11 (8 * i + k) := fun k hk => st_hang_11 (by rw [es]; omega)
    have z2 : st_hang A i j 11 (8 * i + s) = nI j := by rw [← es]; exact st_hang_11s
    have z3 : ∀ k, k < s → st_l (st_hang A i j) i k = st_l A i k := fun k hk => by unfold st_l; rw [z1 k hk]
    have z4 : st_l (st_hang A i j) i s = j := st_l_of z2 hj6
    refine Or.inl ⟨rfl, ⟨⟨hs.1.1, by omega, by rw [st_hang_10, hs.1.2.2.1, nI_1], fun k hk => ?_⟩, fun k hk => ?_⟩, z3, z4⟩
    · rcases Nat.lt_or_ge k s with y | y
      · rw [z1 k y]; exact hs.1.2.2.2 k y
      · obtain rfl : k = s := by omega
        exact ⟨j, hj6, z2⟩
    · rcases Nat.lt_or_ge k s with y | y
      · rw [z3 k y]; exact hs.2 k y
      · obtain rfl : k = s := by omega
        rw [z4]; exact hj
  · have h8 := hi.1.2.1
    have z1 : ∀ k, k < si → st_hang A o j 11 (8 * i + k) = A 11 (8 * i + k) := fun k hk => st_hang_11 (by rw [es]; omega)
    have z3 : ∀ k, k < si → st_l (st_hang A o j) i k = st_l A i k := fun k hk => by unfold st_l; rw [z1 k hk]
    refine Or.inr ⟨e, ⟨⟨hi.1.1, h8, by rw [st_hang_10n e]; exact hi.1.2.2.1, fun k hk => by rw [z1 k hk]; exact hi.1.2.2.2 k hk⟩, fun k hk => by rw [z3 k hk]; exact hi.2 k hk⟩, z3⟩
theorem zz_hang {no nl : Nat} {A : st_A} {o j s : Nat} (hz : zz no nl A) (hs : sx_ok A o s nl) (s8 : s < 8) (hj : j < nl) : zz no nl (st_hang A o j) := by
  refine ⟨hz.1, hz.2.1, fun i hi => ?_⟩
  obtain ⟨si, h⟩ := hz.2.2 i hi
  rcases sl_hang hs s8 hj (by have := hz.2.1; omega) h with ⟨rfl, h, -⟩ | ⟨-, h, -⟩
  · exact ⟨_, h⟩
  · exact ⟨_, h⟩
theorem sx_ok.up {A : st_A} {i s nl f y : Nat} {v : Int32} (h : sx_ok A i s nl) (h1 : f ≠ 10) (h2 : f ≠ 11) : sx_ok (st_up A f y v) i s nl :=
  ⟨h.1.up h1 h2, fun k hk => by unfold st_l; rw [st_up_n (Ne.symm h2)]; exact h.2 k hk⟩
theorem zz.up {no nl f y : Nat} {v : Int32} {A : st_A} (hz : zz no nl A) (h1 : f ≠ 10) (h2 : f ≠ 11) : zz no nl (st_up A f y v) :=
  ⟨hz.1, hz.2.1, fun i hi => (hz.2.2 i hi).imp fun _ h => h.up h1 h2⟩
section RX
variable {l : Launch} {G : ev_G} {x ol ll : Nat} {oa la lo ow : Nat → Nat} {no nl : Nat} {A : st_A} {h : ev_AH}
theorem rx_xh (r : rx G x ol ll oa la lo ow no nl A h) : XH oa la lo no nl A h = h := by
  funext b
  unfold XH
  split
  · next i e =>
    obtain ⟨hi, rfl⟩ := fd_in e
    exact (r.2.1 i hi).symm
  · split
    · next j e =>
      obtain ⟨hj, rfl⟩ := fd_in e
      exact (r.2.2 j hj).symm
    · rfl
theorem rx_mk {A' : st_A} (hb : xb G x ol ll oa la lo ow no nl A h) (e10 : ∀ y, A' 10 y = A 10 y) (e11 : ∀ y, A' 11 y = A 11 y) : rx G x ol ll oa la lo ow no nl A' (XH oa la lo no nl A' h) := by
  have hb' := hb
  obtain ⟨b1, b2, b3, b4, b5, b6, b7, b8⟩ := hb
  refine ⟨⟨b1, xh_k hb' b2 (by decide) (by decide), fun i hi => ⟨_, xh_o hb' hi⟩, fun j hj => ⟨_, xh_l hb' hj⟩, xh_rl hb' b5, xh_rl hb' b6, fun i hi => ?_, b8⟩, fun i hi => xh_o hb' hi, fun j hj => xh_l hb' hj⟩
  have es : st_s A' i = st_s A i := by unfold st_s; rw [e10]
  have el : (fun k => la (st_l A' i k)) = (fun k => la (st_l A i k)) := by funext k; unfold st_l; rw [e11]
  rw [es, el]
  exact xh_rl hb' (b7 i hi)
theorem rx_fX {A' : st_A} (hb : xb G x ol ll oa la lo ow no nl A h) : fX h (XH oa la lo no nl A' h) := fun b c e h1 _ => by
  obtain ⟨k, fs⟩ := c
  have h1 : 3 < k := h1
  exact xh_k hb e (by omega) (by omega)
/-- one order's field -/
theorem rx_o8 (r : rx G x ol ll oa la lo ow no nl A h) {i : Nat} {v : Int32} (hi : i < no) : rx G x ol ll oa la lo ow no nl (st_up A 8 i v) (ev_s h (oa i) 8 (.int v)) ∧ fX h (ev_s h (oa i) 8 (.int v)) := by
  have e : ev_s h (oa i) 8 (.int v) = XH oa la lo no nl (st_up A 8 i v) h := by
    have := ws_8 (A := A) (v := v) r.1 hi
    rw [rx_xh r] at this
    exact this
  rw [e]
  exact ⟨rx_mk r.1 (fun _ => st_up_n (by decide)) (fun _ => st_up_n (by decide)), rx_fX r.1⟩
/-- a line's home -/
theorem rx_home (r : rx G x ol ll oa la lo ow no nl A h) {o j : Nat} (ho : o < 20) (hj : j < nl) : rx G x ol ll oa la lo ow no nl (st_up A 13 j (nI o)) (ev_s h (la j) 2 (.ref (oa o))) ∧ fX h (ev_s h (la j) 2 (.ref (oa o))) := by
  have eh : st_h (st_up A 13 j (nI o)) j = o := by unfold st_h; rw [st_up_s]; exact nI_clamp (by omega)
  have e : ev_s h (la j) 2 (.ref (oa o)) = XH oa la lo no nl (st_up A 13 j (nI o)) h := by
    have := xs_l (A := A) (A' := st_up A 13 j (nI o)) (v := .ref (oa o)) (k := 2) r.1 hj (by simp (config := { decide := true }) only [xl_c, eh, st_up_n, ne_eq, not_false_eq_true]; rfl) (fun j' _ e => by
      have eh' : st_h (st_up A 13 j (nI o)) j' = st_h A j' := by unfold st_h; rw [st_sn e]
      simp (config := { decide := true }) only [xl_c, eh', st_sn e]) (fun i _ => by simp (config := { decide := true }) only [xo_c, st_up_n, ne_eq, not_false_eq_true])
    rw [rx_xh r] at this
    exact this
  rw [e]
  exact ⟨rx_mk r.1 (fun _ => st_up_n (by decide)) (fun _ => st_up_n (by decide)), rx_fX r.1⟩
theorem rx_lo (r : rx G x ol ll oa la lo ow no nl A h) {i : Nat} (hi : i < no) : ∃ fs, h (lo i) = some (3, fs) := by
  obtain ⟨r1, m, e, -⟩ := r.1.2.2.2.2.2.2.1 i hi
  exact ⟨_, e⟩
/-- a line is hung behind an order's last -/
theorem rx_add (r : rx G x ol ll oa la lo ow no nl A h) (hz : zz no nl A) {o j s : Nat} (ho : o < no) (hj : j < nl) (hs : sx_ok A o s nl) (s8 : s < 8) (h13 : A 13 j = nI o) :
    ∃ (P : Int32 → ev_AH → Prop) (X : String → ev_AH → Prop), Mt l G M_A_add0 [.ref (lo o), .ref (la j)] h (ev_pi P X) ∧ (∀ q h', P q h' → ∃ ow', rx G x ol ll oa la lo ow' no nl (st_hang A o j) h' ∧ fX h h') ∧ ∀ E h', X E h' → False := by
  obtain ⟨⟨b1, b2, b3, b4, b5, b6, b7, b8⟩, c1, c2⟩ := r
  have es := hs.s
  have hl := b7 o ho
  rw [es] at hl
  obtain ⟨r1, m1, elo, -⟩ := b7 o ho
  refine ⟨_, _, sp_A_add0 (v := la j) hl (by simp; omega) ?_ (rl_lin (c2 j hj)) (fun y => by rw [← y, c2 j hj] at elo; cases elo), fun q h' y => ?_, fun _ _ q => q⟩
  · intro v hv
    rw [List.mem_map] at hv
    obtain ⟨k, hk, rfl⟩ := hv
    exact rl_lin (c2 _ (hs.2 k (List.mem_range.mp hk)))
  · obtain ⟨ow', y1, y2, y3⟩ := y
    have kx : ∀ b k fs, h b = some (k, fs) → k ≠ 3 → k ≠ 103 → h' b = some (k, fs) := fun b k fs e z1 z2 => y2 b _ e z2 (fun y => by rw [y, elo] at e; cases e; exact z1 rfl)
    have co : ∀ i, i < no → h' (oa i) = some (1, xo_c lo (st_hang A o j) i) := fun i hi => by
      rw [kx _ _ _ (c1 i hi) (by decide) (by decide)]
      simp (config := { decide := true }) only [xo_c, st_hang_n, ne_eq, not_false_eq_true]
    have cl : ∀ j', j' < nl → h' (la j') = some (2, xl_c oa (st_hang A o j) j') := fun j' hj' => by
      rw [kx _ _ _ (c2 j' hj') (by decide) (by decide)]
      have eh : st_h (st_hang A o j) j' = st_h A j' := by
        unfold st_h
        by_cases e : j' = j
        · subst e; rw [st_hang_13, h13]
        · rw [st_hang_13n e]
      simp (config := { decide := true }) only [xl_c, eh, st_hang_n, ne_eq, not_false_eq_true]
    refine ⟨ow', ⟨⟨b1, kx _ _ _ b2 (by decide) (by decide), fun i hi => ⟨_, co i hi⟩, fun j' hj' => ⟨_, cl j' hj'⟩, y3 _ _ (fun y => (b8.2.1 o ho).1 y.symm) b5, y3 _ _ (fun y => (b8.2.1 o ho).2 y.symm) b6, fun i hi => ?_, b8⟩, co, cl⟩, fun b c e z1 z2 => ?_⟩
    · obtain ⟨si, hsi⟩ := hz.2.2 i hi
      rcases sl_hang hs s8 hj (by have := hz.2.1; omega) hsi with ⟨rfl, g1, g2, g3⟩ | ⟨g0, g1, g2⟩
      · rw [g1.s, List.range_succ, List.map_append, List.map_cons, List.map_nil, g3]
        have em : (List.range s).map (fun k => la (st_l (st_hang A i j) i k)) = (List.range s).map (fun k => la (st_l A i k)) := List.map_congr_left (fun k hk => by rw [g2 k (List.mem_range.mp hk)])
        rw [em]
        exact y1
      · rw [g1.s]
        have em : (List.range si).map (fun k => la (st_l (st_hang A o j) i k)) = (List.range si).map (fun k => la (st_l A i k)) := List.map_congr_left (fun k hk => by rw [g2 k (List.mem_range.mp hk)])
        rw [em]
        have := b7 i hi
        rw [hsi.s] at this
        exact y3 _ _ (fun y => g0 (b8.2.2 i hi o ho y)) this
    · obtain ⟨k, fs⟩ := c
      have z1 : 3 < k := z1
      exact kx b k fs e (by omega) z2
/-- an order's lines are cleared away -/
theorem rx_clear (r : rx G x ol ll oa la lo ow no nl A h) (hz : zz no nl A) {o s : Nat} (ho : o < no) (hs : sx_ok A o s nl) :
    ∃ (P : ev_AH → Prop) (X : String → ev_AH → Prop), Mt l G M_A_clear [.ref (lo o)] h (ev_pv P X) ∧ (∀ h', P h' → rx G x ol ll oa la lo ow no nl (st_up A 10 o 0) h' ∧ fX h h') ∧ ∀ E h', X E h' → False := by
  obtain ⟨⟨b1, b2, b3, b4, b5, b6, b7, b8⟩, c1, c2⟩ := r
  have h8 := hs.1.2.1
  have hl := b7 o ho
  rw [hs.s] at hl
  obtain ⟨r1, m1, elo, -⟩ := b7 o ho
  refine ⟨_, _, sp_A_clear hl (by simp; omega), fun h' y => ?_, fun _ _ q => q⟩
  obtain ⟨y1, y2, y3⟩ := y
  have kx : ∀ b k fs, h b = some (k, fs) → k ≠ 3 → k ≠ 103 → h' b = some (k, fs) := fun b k fs e z1 z2 => y2 b _ e z2 (fun y => by rw [y, elo] at e; cases e; exact z1 rfl)
  have co : ∀ i, i < no → h' (oa i) = some (1, xo_c lo (st_up A 10 o 0) i) := fun i hi => by
    rw [kx _ _ _ (c1 i hi) (by decide) (by decide)]
    simp (config := { decide := true }) only [xo_c, st_up_n, ne_eq, not_false_eq_true]
  have cl : ∀ j', j' < nl → h' (la j') = some (2, xl_c oa (st_up A 10 o 0) j') := fun j' hj' => by
    rw [kx _ _ _ (c2 j' hj') (by decide) (by decide)]
    simp (config := { decide := true }) only [xl_c, st_h_n, st_up_n, ne_eq, not_false_eq_true]
  refine ⟨⟨⟨b1, kx _ _ _ b2 (by decide) (by decide), fun i hi => ⟨_, co i hi⟩, fun j' hj' => ⟨_, cl j' hj'⟩, y3 _ _ (fun y => (b8.2.1 o ho).1 y.symm) b5, y3 _ _ (fun y => (b8.2.1 o ho).2 y.symm) b6, fun i hi => ?_, b8⟩, co, cl⟩, fun b c e z1 z2 => ?_⟩
  · by_cases e : i = o
    · subst e
      have : st_s (st_up A 10 i 0) i = 0 := by unfold st_s; rw [st_up_s]; rfl
      rw [this]
      exact y1
    · have e1 : st_s (st_up A 10 o 0) i = st_s A i := by unfold st_s; rw [st_up_j e]
      have e2 : (fun k => la (st_l (st_up A 10 o 0) i k)) = (fun k => la (st_l A i k)) := by funext k; unfold st_l; rw [st_up_n (by decide)]
      rw [e1, e2]
      exact y3 _ _ (fun y => e (b8.2.2 i hi o ho y)) (b7 i hi)
  · obtain ⟨k, fs⟩ := c
    have z1 : 3 < k := z1
    exact kx b k fs e (by omega) z2
end RX
