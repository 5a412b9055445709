/-! THE REFERENCE: contracts in one form; what one side leaves of the other's -/
def fM (h h' : ev_AH) : Prop := ∀ b c, h b = some c → c.1 ≠ 4 → c.1 ≠ 100 → c.1 ≠ 101 → h' b = some c
def RM (m no nl : Nat) (A : st_A) (c : Int32) (h : ev_AH) : Prop := ∃ ma, rm_ok m ma ∧ RH m ma c (nI no) (nI nl) A h = h
theorem rm_k2 (f : Nat) : rm_k f = 100 ∨ rm_k f = 101 := by
  unfold rm_k
  split
  · exact Or.inr rfl
  · exact Or.inl rfl
section RMS
variable {m : Nat} {ma : Nat → Nat} {c no nl : Int32} {A A' : st_A} {h h' : ev_AH}
theorem rh_idem {c' no' nl' : Int32} : RH m ma c no nl A (RH m ma c' no' nl' A' h) = RH m ma c no nl A h := by
  funext b
  unfold RH
  split
  · rfl
  · split <;> rfl
theorem rh_fM {c' no' nl' : Int32} (e : RH m ma c no nl A h = h) : fM h (RH m ma c' no' nl' A' h) := by
  intro b q hq h4 h100 h101
  have e1 : RH m ma c no nl A h b = some q := by rw [e]; exact hq
  unfold RH at e1 ⊢
  split at e1
  · cases e1
    exact absurd rfl h4
  · next hb =>
    rw [if_neg hb]
    split at e1
    · next f _ =>
      cases e1
      rcases rm_k2 f with y | y
      · exact absurd y h100
      · exact absurd y h101
    · exact e1
/-- the reference's cells, one by one -/
theorem rm_iff (hg : rm_ok m ma) : RH m ma c no nl A h = h ↔ (h m = some (4, rm_c ma c no nl) ∧ ∀ f ∈ rm_F, h (ma f) = some (rm_a A f)) := by
  constructor
  · intro e
    rw [← e]
    exact ⟨rh_m, fun f hf => rh_at hg hf⟩
  · rintro ⟨e1, e2⟩
    funext b
    unfold RH
    split
    · next y => rw [y, e1]
    · split
      · next f y =>
        have h1 := List.find?_some y
        have h2 := List.mem_of_find?_eq_some y
        have : ma f = b := by simpa using h1
        rw [← this, e2 f h2]
      · rfl
end RMS
theorem RM.keep {m no nl : Nat} {A : st_A} {c : Int32} {h h' : ev_AH} (r : RM m no nl A c h) (f : ∀ b q, h b = some q → q.1 = 4 ∨ q.1 = 100 ∨ q.1 = 101 → h' b = some q) : RM m no nl A c h' := by
  obtain ⟨ma, hg, e⟩ := r
  obtain ⟨e1, e2⟩ := (rm_iff hg).mp e
  refine ⟨ma, hg, (rm_iff hg).mpr ⟨f _ _ e1 (Or.inl rfl), fun g hgf => f _ _ (e2 g hgf) (Or.inr (rm_k2 g))⟩⟩
theorem fX.RM {m no nl : Nat} {A : st_A} {c : Int32} {h h' : ev_AH} (f : fX h h') (r : RM m no nl A c h) : RM m no nl A c h' :=
  r.keep (fun b q e z => f b q e (by omega) (by omega))
theorem rl_fM {G : ev_G} {h h' : ev_AH} {ow : Nat → Nat} {a : Nat} {vs : List Nat} (f : fM h h') (r : rl G h ow a vs) : rl G h' ow a vs := by
  obtain ⟨r, k, e, z⟩ := r
  refine ⟨r, k, f _ _ e (show (3 : Nat) ≠ 4 by decide) (show (3 : Nat) ≠ 100 by decide) (show (3 : Nat) ≠ 101 by decide), ?_⟩
  rcases z with z | ⟨z1, z2, n, z3, z4, z5⟩
  · exact Or.inl z
  · exact Or.inr ⟨z1, z2, n, z3, z4, f _ _ z5 (show (103 : Nat) ≠ 4 by decide) (show (103 : Nat) ≠ 100 by decide) (show (103 : Nat) ≠ 101 by decide)⟩
theorem fM.RX {G : ev_G} {x no nl : Nat} {A : st_A} {h h' : ev_AH} (f : fM h h') (r : RX G x no nl A h) : RX G x no nl A h' := by
  obtain ⟨ol, ll, oa, la, lo, ow, ⟨b1, b2, b3, b4, b5, b6, b7, b8⟩, c1, c2⟩ := r
  have f1 : ∀ b fs, h b = some (1, fs) → h' b = some (1, fs) := fun b fs e => f b _ e (show (1 : Nat) ≠ 4 by decide) (show (1 : Nat) ≠ 100 by decide) (show (1 : Nat) ≠ 101 by decide)
  have f2 : ∀ b fs, h b = some (2, fs) → h' b = some (2, fs) := fun b fs e => f b _ e (show (2 : Nat) ≠ 4 by decide) (show (2 : Nat) ≠ 100 by decide) (show (2 : Nat) ≠ 101 by decide)
  exact ⟨ol, ll, oa, la, lo, ow, ⟨b1, f _ _ b2 (show (0 : Nat) ≠ 4 by decide) (show (0 : Nat) ≠ 100 by decide) (show (0 : Nat) ≠ 101 by decide), fun i hi => ⟨_, f1 _ _ (c1 i hi)⟩, fun j hj => ⟨_, f2 _ _ (c2 j hj)⟩, rl_fM f b5, rl_fM f b6, fun i hi => rl_fM f (b7 i hi), b8⟩, fun i hi => f1 _ _ (c1 i hi), fun j hj => f2 _ _ (c2 j hj)⟩
/-- what a call of the reference leaves -/
def mR (m : Nat) (h : ev_AH) (o : st_O) (h' : ev_AH) : Prop := RM m o.2.2.1 o.2.2.2.1 o.2.2.2.2 o.1 h' ∧ fM h h'
def cM (l : Launch) (G : ev_G) (M : ev_M) (as : List Value) (m : Nat) (h : ev_AH) (o : st_O) : Prop :=
  ∃ (P : Int32 → ev_AH → Prop) (X : String → ev_AH → Prop), Mt l G M as h (ev_pi P X) ∧ (∀ r h', P r h' → (o.1 = 0 → r = o.2.1) ∧ mR m h o h') ∧ ∀ E h', X E h' → False
section CM
variable {l : Launch} {G : ev_G} {M : ev_M} {as : List Value} {m no nl : Nat} {ma : Nat → Nat} {A : st_A} {c : Int32} {h : ev_AH} {o : st_O}
theorem cm_of (hg : rm_ok m ma) (e : RH m ma c (nI no) (nI nl) A h = h) (hm : Mt l G M as (RH m ma c (nI no) (nI nl) A h) (rm_P m ma h o)) : cM l G M as m h o := by
  rw [e] at hm
  refine ⟨_, _, hm, fun r h' y => ⟨y.2, ⟨ma, hg, ?_⟩, ?_⟩, fun _ _ y => y⟩
  · rw [y.1, rh_idem]
  · rw [y.1]; exact rh_fM e
theorem cm_hold (hM : RM m no nl A c h) (hI : st_I no nl A) {p n : Int32} : cM l G M_R_hold [.ref m, .int p, .int n] m h (op_hold no nl A p n) := by
  obtain ⟨ma, hg, e⟩ := hM; exact cm_of hg e (rp_hold hg hI)
theorem cm_pick (hM : RM m no nl A c h) (hI : st_I no nl A) {p n : Int32} : cM l G M_R_pick [.ref m, .int p, .int n] m h (op_pick no nl A p n) := by
  obtain ⟨ma, hg, e⟩ := hM; exact cm_of hg e (rp_pick hg hI)
theorem cm_goOn (hM : RM m no nl A c h) (hI : st_I no nl A) {p : Int32} : cM l G M_R_goOn [.ref m, .int p] m h (op_goOn no nl A p) := by
  obtain ⟨ma, hg, e⟩ := hM; exact cm_of hg e (rp_goOn hg hI)
theorem cm_change (hM : RM m no nl A c h) (hI : st_I no nl A) {p w v : Int32} : cM l G M_R_change [.ref m, .int p, .int w, .int v] m h (op_change no nl A p w v) := by
  obtain ⟨ma, hg, e⟩ := hM; exact cm_of hg e (rp_change hg hI)
theorem cm_move (hM : RM m no nl A c h) (hI : st_I no nl A) {p d : Int32} : cM l G M_R_move [.ref m, .int p, .int d] m h (op_move no nl A p d) := by
  obtain ⟨ma, hg, e⟩ := hM; exact cm_of hg e (rp_move hg hI)
theorem cm_cancel (hM : RM m no nl A c h) (hI : st_I no nl A) {p : Int32} : cM l G M_R_cancel [.ref m, .int p] m h (op_cancel no nl A p) := by
  obtain ⟨ma, hg, e⟩ := hM; exact cm_of hg e (rp_cancel hg hI)
theorem cm_block (hM : RM m no nl A c h) (hI : st_I no nl A) {p q b : Int32} : cM l G M_R_block [.ref m, .int p, .int q, .int b] m h (op_block no nl A p q b) := by
  obtain ⟨ma, hg, e⟩ := hM; exact cm_of hg e (rp_block hg hI)
theorem cm_ready (hM : RM m no nl A c h) (hI : st_I no nl A) {i : Int32} : cM l G M_R_ready [.ref m, .int i] m h (op_ready no nl A i) := by
  obtain ⟨ma, hg, e⟩ := hM; exact cm_of hg e (rp_ready hg hI)
theorem cm_told (hM : RM m no nl A c h) (hI : st_I no nl A) {p w : Int32} : cM l G M_R_told [.ref m, .int p, .int w] m h (op_told no nl A p w) := by
  obtain ⟨ma, hg, e⟩ := hM; exact cm_of hg e (rp_told hg hI)
theorem cm_lineOf (hM : RM m no nl A c h) (hI : st_I no nl A) {p k : Int32} : cM l G M_R_lineOf [.ref m, .int p, .int k] m h (op_lineOf no nl A p k) := by
  obtain ⟨ma, hg, e⟩ := hM; exact cm_of hg e (rp_lineOf hg hI)
theorem cm_count (hM : RM m no nl A c h) (hI : st_I no nl A) {w : Int32} : cM l G M_R_count [.ref m, .int w] m h (op_count no nl A w) := by
  obtain ⟨ma, hg, e⟩ := hM; exact cm_of hg e (rp_count hg hI)
theorem cm_order (hM : RM m no nl A c h) (hI : st_I no nl A) {x n r d : Int32} : cM l G M_R_order [.ref m, .int x, .int n, .int r, .int d] m h (op_order no nl A x n r d) := by
  obtain ⟨ma, hg, e⟩ := hM; exact cm_of hg e (rp_order hg hI)
theorem cm_line (hM : RM m no nl A c h) (hI : st_I no nl A) {p g n r : Int32} : cM l G M_R_line [.ref m, .int p, .int g, .int n, .int r] m h (op_line no nl A p g n r) := by
  obtain ⟨ma, hg, e⟩ := hM; exact cm_of hg e (rp_line hg hI)
theorem cm_backorder (hM : RM m no nl A c h) (hI : st_I no nl A) {p : Int32} : cM l G M_R_backorder [.ref m, .int p] m h (op_backorder no nl A p) := by
  obtain ⟨ma, hg, e⟩ := hM; exact cm_of hg e (rp_backorder hg hI)
theorem cm_join (hM : RM m no nl A c h) (hI : st_I no nl A) {p q : Int32} : ∃ (P : ev_AH → Prop) (X : String → ev_AH → Prop), Mt l G M_R_join [.ref m, .int p, .int q] h (ev_pv P X) ∧ (∀ h', P h' → mR m h (op_join no nl A p q) h') ∧ ∀ E h', X E h' → False := by
  obtain ⟨ma, hg, e⟩ := hM
  have hm := rp_join (l := l) (G := G) (c := c) (h := h) (p := p) (q := q) hg hI
  rw [e] at hm
  refine ⟨_, _, hm, fun h' y => ⟨⟨ma, hg, ?_⟩, ?_⟩, fun _ _ y => y⟩
  · rw [y, rh_idem]
  · rw [y]; exact rh_fM e
theorem cm_packed (hM : RM m no nl A c h) (hI : st_I no nl A) {p : Int32} : ∃ (P : Int64 → ev_AH → Prop) (X : String → ev_AH → Prop), Mt l G M_R_packed [.ref m, .int p] h (ev_pl P X) ∧ (∀ r h', P r h' → ((op_packed nl A p).1 = 0 → r = (op_packed nl A p).2) ∧ RM m no nl A (op_packed nl A p).1 h' ∧ fM h h') ∧ ∀ E h', X E h' → False := by
  obtain ⟨ma, hg, e⟩ := hM
  have hm := rp_packed (l := l) (G := G) (c := c) (h := h) (p := p) hg hI
  rw [e] at hm
  refine ⟨_, _, hm, fun r h' y => ⟨y.2, ⟨ma, hg, ?_⟩, ?_⟩, fun _ _ y => y⟩
  · rw [y.1, rh_idem]
  · rw [y.1]; exact rh_fM e
end CM
