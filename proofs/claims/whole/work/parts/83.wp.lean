/-! THE LAW's helpers -/
theorem RX.keep {G : ev_G} {x no nl : Nat} {A : st_A} {h h' : ev_AH} (r : RX G x no nl A h) (f : ∀ b c, h b = some c → c.1 < 4 ∨ c.1 = 103 → h' b = some c) : RX G x no nl A h' := by
  obtain ⟨ol, ll, oa, la, lo, ow, ⟨b1, b2, b3, b4, b5, b6, b7, b8⟩, c1, c2⟩ := r
  have f1 : ∀ b fs, h b = some (1, fs) → h' b = some (1, fs) := fun b fs e => f b _ e (Or.inl (show (1 : Nat) < 4 by decide))
  have f2 : ∀ b fs, h b = some (2, fs) → h' b = some (2, fs) := fun b fs e => f b _ e (Or.inl (show (2 : Nat) < 4 by decide))
  have fl : ∀ a vs, rl G h ow a vs → rl G h' ow a vs := fun a vs r => by
    obtain ⟨r, k, e, z⟩ := r
    refine ⟨r, k, f _ _ e (Or.inl (show (3 : Nat) < 4 by decide)), ?_⟩
    rcases z with z | ⟨z1, z2, n, z3, z4, z5⟩
    · exact Or.inl z
    · exact Or.inr ⟨z1, z2, n, z3, z4, f _ _ z5 (Or.inr rfl)⟩
  exact ⟨ol, ll, oa, la, lo, ow, ⟨b1, f _ _ b2 (Or.inl (show (0 : Nat) < 4 by decide)), fun i hi => ⟨_, f1 _ _ (c1 i hi)⟩, fun j hj => ⟨_, f2 _ _ (c2 j hj)⟩, fl _ _ b5, fl _ _ b6, fun i hi => fl _ _ (b7 i hi), b8⟩, fun i hi => f1 _ _ (c1 i hi), fun j hj => f2 _ _ (c2 j hj)⟩
theorem RX.x {G : ev_G} {x no nl : Nat} {A : st_A} {h : ev_AH} (r : RX G x no nl A h) : ∃ fs : List Value, h x = some (0, fs) := by
  obtain ⟨ol, ll, oa, la, lo, ow, r⟩ := r
  exact ⟨_, r.1.2.1⟩
def fW (h h' : ev_AH) : Prop := ∀ b c, h b = some c → c.1 = 4 ∨ c.1 = 100 ∨ c.1 = 101 → h' b = some c
/-- behind a helper: its code, the class, the answer in the array u -/
def wQ (G : ev_G) (x u : Nat) (h : ev_AH) (o : st_O) (v : Int64) (k : Int32) (h' : ev_AH) : Prop := k = o.1 ∧ RX G x o.2.2.1 o.2.2.2.1 o.2.2.2.2 h' ∧ fW h h' ∧ ∃ v' : Int64, h' u = some (102, [.long v']) ∧ (o.1 = 0 → v' = v)
section WQ
variable {l : Launch} {G : ev_G} {x u no nl : Nat} {A : st_A} {h h1 : ev_AH} {o : st_O} {v L : Int64} {k : Int32}
theorem w_u (hu : h u = some (102, [.long v])) (y : xR G x h o h1) : h1 u = some (102, [.long v]) := y.2 _ _ hu (show 3 < 102 by decide) (show 102 ≠ 103 by decide)
theorem w_ok (hu : h u = some (102, [.long v])) (e : o.1 = 0) (y : xR G x h o h1) : ∃ w3 : Value, ¬ (0 : Int32) < 0 ∧ ev_f h1 u 102 (Int32.toNatClampNeg 0) = some w3 ∧ ∀ h4 : ev_AH, h4 = ev_s h1 u (Int32.toNatClampNeg 0) (.long L) → wQ G x u h o L 0 h4 := by
  have hu1 := w_u hu y
  refine ⟨.long v, by decide, by rw [ev_f_at hu1]; rfl, fun h4 e4 => ⟨e.symm, ?_, ?_, L, ?_, fun _ => rfl⟩⟩
  · refine y.1.keep (fun b c e z => ?_)
    rw [e4, ev_s_ne (fun q => by rw [q, hu1] at e; cases e; exact absurd z (show ¬ ((102 : Nat) < 4 ∨ (102 : Nat) = 103) by decide))]
    exact e
  · intro b c e z
    have e1 := y.2 b c e (by omega) (by omega)
    rw [e4, ev_s_ne (fun q => by rw [q, hu1] at e1; cases e1; exact absurd z (show ¬ ((102 : Nat) = 4 ∨ (102 : Nat) = 100 ∨ (102 : Nat) = 101) by decide))]
    exact e1
  · rw [e4, ev_s_at hu1]
    rfl
theorem w_bad (hu : h u = some (102, [.long v])) (e : o.1 = k) (hk : ¬ k = 0) (y : xR G x h o h1) : wQ G x u h o L k h1 :=
  ⟨e.symm, y.1, fun b c z w => y.2 b c z (by omega) (by omega), v, w_u hu y, fun z => absurd (e.symm.trans z) hk⟩
theorem wp_order (hX : RX G x no nl A h) (hI : st_I no nl A) (hu : h u = some (102, [.long v])) {c n r d : Int32} : Mt l G M_W_order [.ref x, .int c, .int n, .int r, .int d, .ref u] h (ev_pi (wQ G x u h (op_order no nl A c n r d) (Int32.toInt64 (op_order no nl A c n r d).2.1)) (fun _ _ => False)) := by
  obtain ⟨P, X, hm, hp, hx⟩ := cx_order (l := l) (c := c) (n := n) (r := r) (d := d) hX hI
  refine vW_order ⟨hX.x, P, X, hm, fun r2 h1 y => ?_, fun E h9 y => ?_⟩
  · obtain ⟨y1, y2, y3⟩ := hp _ _ y
    subst y2
    exact w_ok hu y1 y3
  · obtain ⟨y1, y2⟩ := hx _ _ y
    simp only [List.mem_cons, Prod.mk.injEq, List.not_mem_nil, or_false] at y1
    rcases y1 with ⟨rfl, e⟩ | ⟨rfl, e⟩
    · exact Or.inl ⟨rfl, w_bad hu e (by decide) y2⟩
    · exact (Or.inr ⟨rfl, w_bad hu e (by decide) y2⟩)
theorem wp_line (hX : RX G x no nl A h) (hI : st_I no nl A) (hu : h u = some (102, [.long v])) {p g n r : Int32} : Mt l G M_W_line [.ref x, .int p, .int g, .int n, .int r, .ref u] h (ev_pi (wQ G x u h (op_line no nl A p g n r) (Int32.toInt64 (op_line no nl A p g n r).2.1)) (fun _ _ => False)) := by
  obtain ⟨P, X, hm, hp, hx⟩ := cx_line (l := l) (p := p) (g := g) (n := n) (r := r) hX hI
  refine vW_line ⟨hX.x, P, X, hm, fun r2 h1 y => ?_, fun E h9 y => ?_⟩
  · obtain ⟨y1, y2, y3⟩ := hp _ _ y
    subst y2
    exact w_ok hu y1 y3
  · obtain ⟨y1, y2⟩ := hx _ _ y
    simp only [List.mem_cons, Prod.mk.injEq, List.not_mem_nil, or_false] at y1
    rcases y1 with ⟨rfl, e⟩ | ⟨rfl, e⟩ | ⟨rfl, e⟩ | ⟨rfl, e⟩
    · exact Or.inl ⟨rfl, w_bad hu e (by decide) y2⟩
    · exact (Or.inr (Or.inl ⟨rfl, w_bad hu e (by decide) y2⟩))
    · exact (Or.inr (Or.inr (Or.inl ⟨rfl, w_bad hu e (by decide) y2⟩)))
    · exact (Or.inr (Or.inr (Or.inr ⟨rfl, w_bad hu e (by decide) y2⟩)))
theorem wp_hold (hX : RX G x no nl A h) (hI : st_I no nl A) (hu : h u = some (102, [.long v])) {p n : Int32} : Mt l G M_W_hold [.ref x, .int p, .int n, .ref u] h (ev_pi (wQ G x u h (op_hold no nl A p n) (Int32.toInt64 (op_hold no nl A p n).2.1)) (fun _ _ => False)) := by
  obtain ⟨P, X, hm, hp, hx⟩ := cx_hold (l := l) (p := p) (n := n) hX hI
  refine vW_hold ⟨hX.x, P, X, hm, fun r2 h1 y => ?_, fun E h9 y => ?_⟩
  · obtain ⟨y1, y2, y3⟩ := hp _ _ y
    subst y2
    exact w_ok hu y1 y3
  · obtain ⟨y1, y2⟩ := hx _ _ y
    simp only [List.mem_cons, Prod.mk.injEq, List.not_mem_nil, or_false] at y1
    rcases y1 with ⟨rfl, e⟩ | ⟨rfl, e⟩ | ⟨rfl, e⟩
    · exact Or.inl ⟨rfl, w_bad hu e (by decide) y2⟩
    · exact (Or.inr (Or.inl ⟨rfl, w_bad hu e (by decide) y2⟩))
    · exact (Or.inr (Or.inr ⟨rfl, w_bad hu e (by decide) y2⟩))
theorem wp_pick (hX : RX G x no nl A h) (hI : st_I no nl A) (hu : h u = some (102, [.long v])) {p n : Int32} : Mt l G M_W_pick [.ref x, .int p, .int n, .ref u] h (ev_pi (wQ G x u h (op_pick no nl A p n) (Int32.toInt64 (op_pick no nl A p n).2.1)) (fun _ _ => False)) := by
  obtain ⟨P, X, hm, hp, hx⟩ := cx_pick (l := l) (p := p) (n := n) hX hI
  refine vW_pick ⟨hX.x, P, X, hm, fun r2 h1 y => ?_, fun E h9 y => ?_⟩
  · obtain ⟨y1, y2, y3⟩ := hp _ _ y
    subst y2
    exact w_ok hu y1 y3
  · obtain ⟨y1, y2⟩ := hx _ _ y
    simp only [List.mem_cons, Prod.mk.injEq, List.not_mem_nil, or_false] at y1
    rcases y1 with ⟨rfl, e⟩ | ⟨rfl, e⟩ | ⟨rfl, e⟩
    · exact Or.inl ⟨rfl, w_bad hu e (by decide) y2⟩
    · exact (Or.inr (Or.inl ⟨rfl, w_bad hu e (by decide) y2⟩))
    · exact (Or.inr (Or.inr ⟨rfl, w_bad hu e (by decide) y2⟩))
theorem wp_goOn (hX : RX G x no nl A h) (hI : st_I no nl A) (hu : h u = some (102, [.long v])) {p : Int32} : Mt l G M_W_goOn [.ref x, .int p, .ref u] h (ev_pi (wQ G x u h (op_goOn no nl A p) (Int32.toInt64 (op_goOn no nl A p).2.1)) (fun _ _ => False)) := by
  obtain ⟨P, X, hm, hp, hx⟩ := cx_goOn (l := l) (p := p) hX hI
  refine vW_goOn ⟨hX.x, P, X, hm, fun r2 h1 y => ?_, fun E h9 y => ?_⟩
  · obtain ⟨y1, y2, y3⟩ := hp _ _ y
    subst y2
    exact w_ok hu y1 y3
  · obtain ⟨y1, y2⟩ := hx _ _ y
    simp only [List.mem_cons, Prod.mk.injEq, List.not_mem_nil, or_false] at y1
    rcases y1 with ⟨rfl, e⟩ | ⟨rfl, e⟩
    · exact Or.inl ⟨rfl, w_bad hu e (by decide) y2⟩
    · exact (Or.inr ⟨rfl, w_bad hu e (by decide) y2⟩)
theorem wp_change (hX : RX G x no nl A h) (hI : st_I no nl A) (hu : h u = some (102, [.long v])) {p w v : Int32} : Mt l G M_W_change [.ref x, .int p, .int w, .int v, .ref u] h (ev_pi (wQ G x u h (op_change no nl A p w v) (if (op_change no nl A p w v).2.1 = 0 then 0 else 1)) (fun _ _ => False)) := by
  obtain ⟨P, X, hm, hp, hx⟩ := cx_change (l := l) (p := p) (w := w) (v := v) hX hI
  refine vW_change ⟨hX.x, P, X, hm, fun r2 h1 y => ?_, fun E h9 y => ?_⟩
  · obtain ⟨y1, y2, y3⟩ := hp _ _ y
    subst y2
    refine ⟨fun z => ?_, fun z => ?_⟩
    · rw [if_pos z]; exact w_ok hu y1 y3
    · rw [if_neg z]; exact w_ok hu y1 y3
  · obtain ⟨y1, y2⟩ := hx _ _ y
    simp only [List.mem_cons, Prod.mk.injEq, List.not_mem_nil, or_false] at y1
    rcases y1 with ⟨rfl, e⟩ | ⟨rfl, e⟩ | ⟨rfl, e⟩
    · exact Or.inl ⟨rfl, w_bad hu e (by decide) y2⟩
    · exact (Or.inr (Or.inl ⟨rfl, w_bad hu e (by decide) y2⟩))
    · exact (Or.inr (Or.inr ⟨rfl, w_bad hu e (by decide) y2⟩))
theorem wp_move (hX : RX G x no nl A h) (hI : st_I no nl A) (hu : h u = some (102, [.long v])) {p d : Int32} : Mt l G M_W_move [.ref x, .int p, .int d, .ref u] h (ev_pi (wQ G x u h (op_move no nl A p d) (if (op_move no nl A p d).2.1 = 0 then 0 else 1)) (fun _ _ => False)) := by
  obtain ⟨P, X, hm, hp, hx⟩ := cx_move (l := l) (p := p) (d := d) hX hI
  refine vW_move ⟨hX.x, P, X, hm, fun r2 h1 y => ?_, fun E h9 y => ?_⟩
  · obtain ⟨y1, y2, y3⟩ := hp _ _ y
    subst y2
    refine ⟨fun z => ?_, fun z => ?_⟩
    · rw [if_pos z]; exact w_ok hu y1 y3
    · rw [if_neg z]; exact w_ok hu y1 y3
  · obtain ⟨y1, y2⟩ := hx _ _ y
    simp only [List.mem_cons, Prod.mk.injEq, List.not_mem_nil, or_false] at y1
    rcases y1 with ⟨rfl, e⟩ | ⟨rfl, e⟩
    · exact Or.inl ⟨rfl, w_bad hu e (by decide) y2⟩
    · exact (Or.inr ⟨rfl, w_bad hu e (by decide) y2⟩)
theorem wp_cancel (hX : RX G x no nl A h) (hI : st_I no nl A) (hu : h u = some (102, [.long v])) {p : Int32} : Mt l G M_W_cancel [.ref x, .int p, .ref u] h (ev_pi (wQ G x u h (op_cancel no nl A p) (Int32.toInt64 (op_cancel no nl A p).2.1)) (fun _ _ => False)) := by
  obtain ⟨P, X, hm, hp, hx⟩ := cx_cancel (l := l) (p := p) hX hI
  refine vW_cancel ⟨hX.x, P, X, hm, fun r2 h1 y => ?_, fun E h9 y => ?_⟩
  · obtain ⟨y1, y2, y3⟩ := hp _ _ y
    subst y2
    exact w_ok hu y1 y3
  · obtain ⟨y1, y2⟩ := hx _ _ y
    simp only [List.mem_cons, Prod.mk.injEq, List.not_mem_nil, or_false] at y1
    rcases y1 with ⟨rfl, e⟩ | ⟨rfl, e⟩
    · exact Or.inl ⟨rfl, w_bad hu e (by decide) y2⟩
    · exact (Or.inr ⟨rfl, w_bad hu e (by decide) y2⟩)
theorem wp_block (hX : RX G x no nl A h) (hI : st_I no nl A) (hu : h u = some (102, [.long v])) {p q b : Int32} (hb : b = 0 ∨ b = 1) : Mt l G M_W_block [.ref x, .int p, .int q, .int b, .ref u] h (ev_pi (wQ G x u h (op_block no nl A p q b) (Int32.toInt64 (op_block no nl A p q b).2.1)) (fun _ _ => False)) := by
  obtain ⟨P, X, hm, hp, hx⟩ := cx_block (l := l) (p := p) (q := q) hX hI hb
  refine vW_block ⟨hX.x, P, X, hm, fun r2 h1 y => ?_, fun E h9 y => ?_⟩
  · obtain ⟨y1, y2, y3⟩ := hp _ _ y
    subst y2
    exact w_ok hu y1 y3
  · obtain ⟨y1, y2⟩ := hx _ _ y
    simp only [List.mem_cons, Prod.mk.injEq, List.not_mem_nil, or_false] at y1
    rcases y1 with ⟨rfl, e⟩ | ⟨rfl, e⟩ | ⟨rfl, e⟩
    · exact Or.inl ⟨rfl, w_bad hu e (by decide) y2⟩
    · exact (Or.inr (Or.inl ⟨rfl, w_bad hu e (by decide) y2⟩))
    · exact (Or.inr (Or.inr ⟨rfl, w_bad hu e (by decide) y2⟩))
theorem wp_backorder (hX : RX G x no nl A h) (hI : st_I no nl A) (hu : h u = some (102, [.long v])) {p : Int32} : Mt l G M_W_backorder [.ref x, .int p, .ref u] h (ev_pi (wQ G x u h (op_backorder no nl A p) (Int32.toInt64 (op_backorder no nl A p).2.1)) (fun _ _ => False)) := by
  obtain ⟨P, X, hm, hp, hx⟩ := cx_backorder (l := l) (p := p) hX hI
  refine vW_backorder ⟨hX.x, P, X, hm, fun r2 h1 y => ?_, fun E h9 y => ?_⟩
  · obtain ⟨y1, y2, y3⟩ := hp _ _ y
    subst y2
    exact w_ok hu y1 y3
  · obtain ⟨y1, y2⟩ := hx _ _ y
    simp only [List.mem_cons, Prod.mk.injEq, List.not_mem_nil, or_false] at y1
    rcases y1 with ⟨rfl, e⟩ | ⟨rfl, e⟩ | ⟨rfl, e⟩
    · exact Or.inl ⟨rfl, w_bad hu e (by decide) y2⟩
    · exact (Or.inr (Or.inl ⟨rfl, w_bad hu e (by decide) y2⟩))
    · exact (Or.inr (Or.inr ⟨rfl, w_bad hu e (by decide) y2⟩))
theorem wp_ready (hX : RX G x no nl A h) (hI : st_I no nl A) (hu : h u = some (102, [.long v])) {i : Int32} : Mt l G M_W_ready [.ref x, .int i, .ref u] h (ev_pi (wQ G x u h (op_ready no nl A i) (Int32.toInt64 (op_ready no nl A i).2.1)) (fun _ _ => False)) := by
  obtain ⟨P, X, hm, hp, hx⟩ := cx_ready (l := l) (i := i) hX hI
  refine vW_ready ⟨hX.x, P, X, hm, fun r2 h1 y => ?_, fun E h9 y => ?_⟩
  · obtain ⟨y1, y2, y3⟩ := hp _ _ y
    subst y2
    exact w_ok hu y1 y3
  · obtain ⟨y1, y2⟩ := hx _ _ y
    simp only [List.mem_cons, Prod.mk.injEq, List.not_mem_nil, or_false] at y1
    rcases y1 with ⟨rfl, e⟩
    · exact ⟨rfl, w_bad hu e (by decide) y2⟩
theorem wp_told (hX : RX G x no nl A h) (hI : st_I no nl A) (hu : h u = some (102, [.long v])) {p w : Int32} : Mt l G M_W_told [.ref x, .int p, .int w, .ref u] h (ev_pi (wQ G x u h (op_told no nl A p w) (Int32.toInt64 (op_told no nl A p w).2.1)) (fun _ _ => False)) := by
  obtain ⟨P, X, hm, hp, hx⟩ := cx_told (l := l) (p := p) (w := w) hX hI
  refine vW_told ⟨hX.x, P, X, hm, fun r2 h1 y => ?_, fun E h9 y => ?_⟩
  · obtain ⟨y1, y2, y3⟩ := hp _ _ y
    subst y2
    exact w_ok hu y1 y3
  · obtain ⟨y1, y2⟩ := hx _ _ y
    simp only [List.mem_cons, Prod.mk.injEq, List.not_mem_nil, or_false] at y1
    rcases y1 with ⟨rfl, e⟩ | ⟨rfl, e⟩
    · exact Or.inl ⟨rfl, w_bad hu e (by decide) y2⟩
    · exact (Or.inr ⟨rfl, w_bad hu e (by decide) y2⟩)
theorem wp_lineOf (hX : RX G x no nl A h) (hI : st_I no nl A) (hu : h u = some (102, [.long v])) {p w : Int32} : Mt l G M_W_lineOf [.ref x, .int p, .int w, .ref u] h (ev_pi (wQ G x u h (op_lineOf no nl A p w) (Int32.toInt64 (op_lineOf no nl A p w).2.1)) (fun _ _ => False)) := by
  obtain ⟨P, X, hm, hp, hx⟩ := cx_lineOf (l := l) (p := p) (w := w) hX hI
  refine vW_lineOf ⟨hX.x, P, X, hm, fun r2 h1 y => ?_, fun E h9 y => ?_⟩
  · obtain ⟨y1, y2, y3⟩ := hp _ _ y
    subst y2
    exact w_ok hu y1 y3
  · obtain ⟨y1, y2⟩ := hx _ _ y
    simp only [List.mem_cons, Prod.mk.injEq, List.not_mem_nil, or_false] at y1
    rcases y1 with ⟨rfl, e⟩ | ⟨rfl, e⟩
    · exact Or.inl ⟨rfl, w_bad hu e (by decide) y2⟩
    · exact (Or.inr ⟨rfl, w_bad hu e (by decide) y2⟩)
/-- join answers nothing: the array keeps what it held -/
def wJ (G : ev_G) (x u : Nat) (h : ev_AH) (o : st_O) (k : Int32) (h' : ev_AH) : Prop := k = o.1 ∧ RX G x o.2.2.1 o.2.2.2.1 o.2.2.2.2 h' ∧ fW h h' ∧ ∃ v' : Int64, h' u = some (102, [.long v'])
theorem wj (hu : h u = some (102, [.long v])) (e : o.1 = k) (y : xR G x h o h1) : wJ G x u h o k h1 := ⟨e.symm, y.1, fun b c z w => y.2 b c z (by omega) (by omega), v, w_u hu y⟩
theorem wp_join (hX : RX G x no nl A h) (hI : st_I no nl A) (hu : h u = some (102, [.long v])) {p q : Int32} : Mt l G M_W_join [.ref x, .int p, .int q] h (ev_pi (wJ G x u h (op_join no nl A p q)) (fun _ _ => False)) := by
  obtain ⟨P, X, hm, hp, hx⟩ := cx_join (l := l) (p := p) (q := q) hX hI
  refine vW_join ⟨hX.x, P, X, hm, fun h1 y => ?_, fun E h9 y => ?_⟩
  · obtain ⟨y1, y3⟩ := hp _ y
    exact wj hu y1 y3
  · obtain ⟨y1, y2⟩ := hx _ _ y
    simp only [List.mem_cons, Prod.mk.injEq, List.not_mem_nil, or_false] at y1
    rcases y1 with ⟨rfl, e⟩ | ⟨rfl, e⟩ | ⟨rfl, e⟩
    · exact Or.inl ⟨rfl, wj hu e y2⟩
    · exact Or.inr (Or.inl ⟨rfl, wj hu e y2⟩)
    · exact Or.inr (Or.inr ⟨rfl, wj hu e y2⟩)
theorem wp_packed (hX : RX G x no nl A h) (hI : st_I no nl A) (hu : h u = some (102, [.long v])) {p : Int32} : Mt l G M_W_packed [.ref x, .int p, .ref u] h (ev_pi (wQ G x u h ((op_packed nl A p).1, 0, no, nl, A) (op_packed nl A p).2) (fun _ _ => False)) := by
  obtain ⟨P, X, hm, hp, hx⟩ := cx_packed (l := l) (p := p) hX hI
  have same : xR G x h ((op_packed nl A p).1, 0, no, nl, A) h := ⟨hX, fX.rfl⟩
  refine vW_packed ⟨hX.x, P, X, hm, fun r2 h1 y => ?_, fun E h9 y => ?_⟩
  · obtain ⟨y1, y2, rfl⟩ := hp _ _ y
    subst y2
    exact w_ok hu y1 same
  · obtain ⟨y1, rfl⟩ := hx _ _ y
    simp only [List.mem_cons, Prod.mk.injEq, List.not_mem_nil, or_false] at y1
    obtain ⟨rfl, e⟩ := y1
    exact ⟨rfl, w_bad hu e (by decide) same⟩
end WQ
