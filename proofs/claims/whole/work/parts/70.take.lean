/-! THE CLASS: join's lines; contracts in one form -/
theorem join_ok {no nl : Nat} {A : st_A} {o y so s : Nat} (hz : zz no nl A) (hso : sx_ok A o so nl) (hs : sx_ok A y s nl) (hoy : ¬ y = o) (h8 : so + s ≤ 8) : ∀ k, k ≤ s → zz no nl (st_join A o y k) ∧ sx_ok (st_join A o y k) o (so + k) nl ∧ sx_ok (st_join A o y k) y s nl ∧ ∀ k', k' < s → st_l (st_join A o y k) y k' = st_l A y k' := by
  intro k
  induction k with
  | zero => intro _; exact ⟨hz, hso, hs, fun _ _ => rfl⟩
  | succ k ih =>
    intro hk
    obtain ⟨z1, z2, z3, z4⟩ := ih (by omega)
    have hj := hs.2 k (by omega)
    have hj6 : st_l A y k < 60 := by have := hz.2.1; omega
    refine ⟨zz_hang z1 z2 (by omega) hj, ?_, ?_, ?_⟩
    · rcases sl_hang z2 (by omega) hj hj6 z2 with ⟨-, g, -⟩ | ⟨g, -⟩
      · exact g
      · exact absurd rfl g
    · rcases sl_hang z2 (by omega) hj hj6 z3 with ⟨g, -⟩ | ⟨-, g, -⟩
      · exact absurd g hoy
      · exact g
    · rcases sl_hang z2 (by omega) hj hj6 z3 with ⟨g, -⟩ | ⟨-, -, g⟩
      · exact absurd g hoy
      · intro k' hk'
        rw [st_join, g k' hk', z4 k' hk']
def RX (G : ev_G) (x no nl : Nat) (A : st_A) (h : ev_AH) : Prop := ∃ ol ll oa la lo ow, rx G x ol ll oa la lo ow no nl A h
/-- what a call of the class leaves -/
def xR (G : ev_G) (x : Nat) (h : ev_AH) (o : st_O) (h' : ev_AH) : Prop := RX G x o.2.2.1 o.2.2.2.1 o.2.2.2.2 h' ∧ fX h h'
def cX (l : Launch) (G : ev_G) (M : ev_M) (as : List Value) (x : Nat) (h : ev_AH) (cs : List (String × Int32)) (o : st_O) : Prop :=
  ∃ (P : Int32 → ev_AH → Prop) (X : String → ev_AH → Prop), Mt l G M as h (ev_pi P X) ∧ (∀ r h', P r h' → o.1 = 0 ∧ r = o.2.1 ∧ xR G x h o h') ∧ ∀ E h', X E h' → (E, o.1) ∈ cs ∧ xR G x h o h'
/-- an operation that leaves lists alone -/
def keep (no nl : Nat) (A : st_A) (o : st_O) : Prop := o.2.2.1 = no ∧ o.2.2.2.1 = nl ∧ (∀ y, o.2.2.2.2 10 y = A 10 y) ∧ ∀ y, o.2.2.2.2 11 y = A 11 y
theorem keep.id {no nl : Nat} {A : st_A} {k v : Int32} : keep no nl A (k, v, no, nl, A) := ⟨rfl, rfl, fun _ => rfl, fun _ => rfl⟩
theorem keep.up {no nl : Nat} {A B : st_A} {k v w : Int32} {f y : Nat} (h : keep no nl A (k, v, no, nl, B)) (h1 : f ≠ 10) (h2 : f ≠ 11) : keep no nl A (k, v, no, nl, st_up B f y w) :=
  ⟨rfl, rfl, fun z => by show st_up B f y w 10 z = _; rw [st_up_n (Ne.symm h1)]; exact h.2.2.1 z, fun z => by show st_up B f y w 11 z = _; rw [st_up_n (Ne.symm h2)]; exact h.2.2.2 z⟩
section CX
variable {l : Launch} {G : ev_G} {M : ev_M} {as : List Value} {x ol ll : Nat} {oa la lo ow : Nat → Nat} {no nl : Nat} {A : st_A} {h : ev_AH} {cs : List (String × Int32)} {o : st_O}
theorem xR_of (r : rx G x ol ll oa la lo ow no nl A h) (he : keep no nl A o) {h' : ev_AH} (e : h' = XH oa la lo o.2.2.1 o.2.2.2.1 o.2.2.2.2 h) : xR G x h o h' := by
  obtain ⟨e1, e2, e3, e4⟩ := he
  unfold xR
  rw [e, e1, e2]
  exact ⟨⟨ol, ll, oa, la, lo, ow, rx_mk r.1 e3 e4⟩, rx_fX r.1⟩
theorem cx_of (r : rx G x ol ll oa la lo ow no nl A h) (he : keep no nl A o) (hm : Mt l G M as (XH oa la lo no nl A h) (xP oa la lo h cs o)) : cX l G M as x h cs o := by
  rw [rx_xh r] at hm
  exact ⟨_, _, hm, fun q h' y => ⟨y.1, y.2.1, xR_of r he y.2.2⟩, fun E h' y => ⟨y.1, xR_of r he y.2⟩⟩
theorem kp_hold {p n : Int32} : keep no nl A (op_hold no nl A p n) := by
  unfold op_hold op_hold1
  split
  · exact keep.id
  · split
    · exact keep.id
    · split
      · exact keep.id
      · exact (keep.id.up (by decide) (by decide)).up (by decide) (by decide)
theorem kp_pick {p n : Int32} : keep no nl A (op_pick no nl A p n) := by
  unfold op_pick op_pick1
  split
  · exact keep.id
  · split
    · exact keep.id
    · split
      · exact keep.id
      · exact (keep.id.up (by decide) (by decide)).up (by decide) (by decide)
theorem kp_ship {i : Nat} {B : st_A} {k v : Int32} (h : keep no nl A (k, v, no, nl, B)) : ∀ s, keep no nl A (k, v, no, nl, st_ship B i s) := by
  intro s
  induction s with
  | zero => exact h
  | succ s ih => exact ih.up (by decide) (by decide)
theorem kp_goOn {p : Int32} : keep no nl A (op_goOn no nl A p) := by
  unfold op_goOn op_goOn1
  split
  · exact keep.id
  · split
    · exact keep.id
    · split
      · exact keep.id
      · split
        · exact kp_ship ((keep.id.up (by decide) (by decide)).up (by decide) (by decide)) _
        · exact (keep.id.up (by decide) (by decide)).up (by decide) (by decide)
theorem kp_change {p w v : Int32} : keep no nl A (op_change no nl A p w v) := by
  unfold op_change op_change1
  split
  · exact keep.id
  · split
    · exact keep.id
    · split
      · exact keep.id
      · split
        · exact keep.id
        · split
          · exact keep.id
          · refine keep.up ?_ (by decide) (by decide)
            split
            · exact (keep.id.up (by decide) (by decide)).up (by decide) (by decide)
            · split
              · exact keep.id.up (by decide) (by decide)
              · exact keep.id.up (by decide) (by decide)
theorem kp_move {p d : Int32} : keep no nl A (op_move no nl A p d) := by
  unfold op_move op_move1
  split
  · exact keep.id
  · split
    · exact keep.id
    · split
      · exact keep.id
      · exact (keep.id.up (by decide) (by decide)).up (by decide) (by decide)
theorem kp_cancel {p : Int32} : keep no nl A (op_cancel no nl A p) := by
  have T : ∀ (j i : Nat) (k v : Int32), keep no nl A (k, v, no, nl, st_cancel A j i) := fun j i k v => ((((keep.id.up (by decide) (by decide)).up (by decide) (by decide)).up (by decide) (by decide)).up (by decide) (by decide)).up (by decide) (by decide)
  unfold op_cancel op_cancel1
  split
  · exact keep.id
  · split
    · exact keep.id
    · split
      · exact (T _ _ _ _).up (by decide) (by decide)
      · exact T _ _ _ _
theorem kp_block {p q b : Int32} : keep no nl A (op_block no nl A p q b) := by
  unfold op_block op_block1
  generalize (if b = 0 then (0 : Int32) else 1) = bb
  split
  · exact keep.id
  · split
    · exact keep.id
    · split
      · exact keep.id
      · exact (keep.id.up (by decide) (by decide)).up (by decide) (by decide)
theorem kp_ready {i : Int32} : keep no nl A (op_ready no nl A i) := by
  unfold op_ready
  split
  · exact keep.id
  · split <;> exact keep.id
theorem kp_told {p w : Int32} : keep no nl A (op_told no nl A p w) := by
  by_cases c : p < 0 ∨ nI no ≤ p
  · rw [op_told, if_pos c]; exact keep.id
  · rw [op_told, if_neg c]
    by_cases c1 : ¬ (0 ≤ w ∧ w ≤ 9)
    · rw [op_told1, if_pos c1]; exact keep.id
    · rw [op_told1, if_neg c1]; exact keep.id
theorem kp_lineOf {p w : Int32} : keep no nl A (op_lineOf no nl A p w) := by
  unfold op_lineOf op_lineOf1
  split
  · exact keep.id
  · split <;> exact keep.id
theorem cx_hold (hX : RX G x no nl A h) (hI : st_I no nl A) {p n : Int32} : cX l G M_X_hold [.ref x, .int p, .int n] x h x_NAS (op_hold no nl A p n) := by
  obtain ⟨ol, ll, oa, la, lo, ow, r⟩ := hX; exact cx_of r kp_hold (xp_hold r.1 hI)
theorem cx_pick (hX : RX G x no nl A h) (hI : st_I no nl A) {p n : Int32} : cX l G M_X_pick [.ref x, .int p, .int n] x h x_NAS (op_pick no nl A p n) := by
  obtain ⟨ol, ll, oa, la, lo, ow, r⟩ := hX; exact cx_of r kp_pick (xp_pick r.1 hI)
theorem cx_goOn (hX : RX G x no nl A h) (hI : st_I no nl A) {p : Int32} : cX l G M_X_goOn [.ref x, .int p] x h x_NS (op_goOn no nl A p) := by
  obtain ⟨ol, ll, oa, la, lo, ow, r⟩ := hX; exact cx_of r kp_goOn (xp_goOn r.1 hI)
theorem cx_change (hX : RX G x no nl A h) (hI : st_I no nl A) {p w v : Int32} : cX l G M_X_change [.ref x, .int p, .int w, .int v] x h x_NAS (op_change no nl A p w v) := by
  obtain ⟨ol, ll, oa, la, lo, ow, r⟩ := hX; exact cx_of r kp_change (xp_change r.1 hI)
theorem cx_move (hX : RX G x no nl A h) (hI : st_I no nl A) {p d : Int32} : cX l G M_X_move [.ref x, .int p, .int d] x h x_NA (op_move no nl A p d) := by
  obtain ⟨ol, ll, oa, la, lo, ow, r⟩ := hX; exact cx_of r kp_move (xp_move r.1 hI)
theorem cx_cancel (hX : RX G x no nl A h) (hI : st_I no nl A) {p : Int32} : cX l G M_X_cancel [.ref x, .int p] x h x_NS (op_cancel no nl A p) := by
  obtain ⟨ol, ll, oa, la, lo, ow, r⟩ := hX; exact cx_of r kp_cancel (xp_cancel r.1 hI)
theorem cx_block (hX : RX G x no nl A h) (hI : st_I no nl A) {p q b : Int32} (hb : b = 0 ∨ b = 1) : cX l G M_X_block [.ref x, .int p, .int q, .int b] x h x_NAS (op_block no nl A p q b) := by
  obtain ⟨ol, ll, oa, la, lo, ow, r⟩ := hX; exact cx_of r kp_block (xp_block r.1 hI hb)
theorem cx_ready (hX : RX G x no nl A h) (hI : st_I no nl A) {i : Int32} : cX l G M_X_ready [.ref x, .int i] x h x_A (op_ready no nl A i) := by
  obtain ⟨ol, ll, oa, la, lo, ow, r⟩ := hX; exact cx_of r kp_ready (xp_ready r.1 hI)
theorem cx_told (hX : RX G x no nl A h) (hI : st_I no nl A) {p w : Int32} : cX l G M_X_told [.ref x, .int p, .int w] x h x_NA (op_told no nl A p w) := by
  obtain ⟨ol, ll, oa, la, lo, ow, r⟩ := hX; exact cx_of r kp_told (xp_told r.1 hI)
theorem cx_lineOf (hX : RX G x no nl A h) (hI : st_I no nl A) {p w : Int32} : cX l G M_X_lineOf [.ref x, .int p, .int w] x h x_NA (op_lineOf no nl A p w) := by
  obtain ⟨ol, ll, oa, la, lo, ow, r⟩ := hX; exact cx_of r kp_lineOf (xp_lineOf r.1 hI)
theorem cx_count (hX : RX G x no nl A h) (hI : st_I no nl A) {w : Int32} : cX l G M_X_count [.ref x, .int w] x h [] (op_count no nl A w) := by
  obtain ⟨ol, ll, oa, la, lo, ow, r⟩ := hX; exact cx_of r keep.id (xp_count r.1 hI)
theorem cx_packed (hX : RX G x no nl A h) (hI : st_I no nl A) {p : Int32} : ∃ (P : Int64 → ev_AH → Prop) (X : String → ev_AH → Prop), Mt l G M_X_packed [.ref x, .int p] h (ev_pl P X) ∧ (∀ r h', P r h' → (op_packed nl A p).1 = 0 ∧ r = (op_packed nl A p).2 ∧ h' = h) ∧ ∀ E h', X E h' → (E, (op_packed nl A p).1) ∈ x_N ∧ h' = h := by
  obtain ⟨ol, ll, oa, la, lo, ow, r⟩ := hX
  have := xp_packed (l := l) (p := p) r.1 hI
  rw [rx_xh r] at this
  exact ⟨_, _, this, fun _ _ y => y, fun _ _ y => y⟩
/-- takeLinesOf's loop -/
theorem rx_take {u y so s : Nat} (hz : zz no nl A) (hu : u < no) (hy : y < no) (hso : sx_ok A u so nl) (hs : sx_ok A y s nl) (hoy : ¬ y = u) (h8 : so + s ≤ 8) {h0 : ev_AH} {P : ev_Post} (hP : ∀ h' ow', rx G x ol ll oa la lo ow' no nl (st_up (st_join A u y s) 10 y 0) h' → fX h0 h' → P (.inl none) h') :
    ∀ (d k uc us : Nat) (h : ev_AH) (ow : Nat → Nat), k + d = s → 2 * d ≤ uc → 100 * d ≤ us → rx G x ol ll oa la lo ow no nl (st_join A u y k) h → fX h0 h → Ev l G M_O_takeLinesOf 10 [(0, .ref (oa u)), (1, .ref (oa y)), (2, .int (nI s)), (3, .int (nI k))] [] h uc us (ev_fin G M_O_takeLinesOf P) := by
  intro d
  induction d with
  | zero =>
    intro k uc us h ow e1 e2 e3 r f
    obtain rfl : k = s := by omega
    obtain ⟨z1, z2, z3, z4⟩ := join_ok hz hso hs hoy h8 k (Nat.le_refl _)
    have e4 : ev_f h (oa y) 1 4 = some (.ref (lo y)) := by rw [ev_f_at (r.2.1 y hy)]; rfl
    refine vO_takeLinesOf_10 ⟨fun _ => ⟨lo y, e4, rx_lo r hy, ⟨Nat.zero_le _, Nat.zero_le _⟩, ?_⟩, fun z => absurd (Int32.le_refl _) z⟩
    obtain ⟨P1, X1, m1, p1, x1⟩ := rx_clear (l := l) r z1 hy z3
    exact ⟨P1, X1, m1, fun h7 q => hP h7 ow (p1 h7 q).1 (f.trans (p1 h7 q).2), fun E h9 q => (x1 E h9 q).elim⟩
  | succ d ih =>
    intro k uc us h ow e1 e2 e3 r f
    obtain ⟨z1, z2, z3, z4⟩ := join_ok hz hso hs hoy h8 k (by omega)
    have hl := r.1.2.2.2.2.2.2.1 y hy
    have s8 := hs.1.2.1
    have hj := hs.2 k (by omega)
    have e4 : ev_f h (oa y) 1 4 = some (.ref (lo y)) := by rw [ev_f_at (r.2.1 y hy)]; rfl
    have e6 : ev_get h (lo y) (nI k) (la (st_l A y k)) := by
      refine (rl_get hl (by rw [List.length_map, List.length_range, z3.s]; omega) (k := k) (v := la (st_l A y k)) ?_ _).mpr rfl
      rw [List.getElem?_map, List.getElem?_range (by rw [z3.s]; omega)]
      show some (la (st_l (st_join A u y k) y k)) = _
      rw [z4 k (by omega)]
    refine vO_takeLinesOf_10 ⟨fun z => absurd z (nI_ge (by omega) (by omega)), fun _ => ⟨lo y, e4, la (st_l A y k), e6, rx_lo r hy, ⟨_, r.2.2 _ hj⟩, ?_⟩⟩
    obtain ⟨r2, f2⟩ := rx_home (o := u) r (by have := hz.1; omega) hj
    have sx2 : sx_ok (st_up (st_join A u y k) 13 (st_l A y k) (nI u)) u (so + k) nl := z2.up (by decide) (by decide)
    have zz2 : zz no nl (st_up (st_join A u y k) 13 (st_l A y k) (nI u)) := z1.up (by decide) (by decide)
    obtain ⟨P1, X1, m1, p1, x1⟩ := rx_add (l := l) r2 zz2 hu hj sx2 (by omega) st_up_s
    refine ⟨_, by rw [ev_f_at (r.2.2 _ hj)]; rfl, fun h14 e14 => ?_⟩
    subst e14
    refine ⟨lo u, by rw [ev_f_at (r2.2.1 u hu)]; rfl, rx_lo r2 hu, ⟨by omega, by omega⟩, P1, X1, m1, fun r17 h16 q x18 e18 => ?_, fun E h9 q => (x1 E h9 q).elim⟩
    obtain ⟨ow2, r3, f3⟩ := p1 _ _ q
    rw [st_hang_13u] at r3
    rw [nI_1] at e18
    subst e18
    exact ih (k + 1) (uc - 2) (us - 100) h16 ow2 (by omega) (by omega) (by omega) r3 ((f.trans f2).trans f3)
end CX
