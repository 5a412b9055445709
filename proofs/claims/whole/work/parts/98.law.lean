/-! THE LAW: one call on both sides -/
theorem law_c0 (a : Int64) : lg_cmp a a = 0 := by
  unfold lg_cmp
  simp
def CC (G : ev_G) (x m u no nl : Nat) (A : st_A) (h : ev_AH) : Prop := RX G x no nl A h ∧ (∃ c, RM m no nl A c h) ∧ (∃ v : Int64, h u = some (102, [.long v])) ∧ st_I no nl A
theorem RM.m4 {m no nl : Nat} {A : st_A} {c : Int32} {h : ev_AH} (r : RM m no nl A c h) : (∃ fs : List Value, h m = some (4, fs)) ∧ ev_f h m 4 0 = some (.int c) := by
  obtain ⟨ma, hg, e⟩ := r
  have := ((rm_iff hg).mp e).1
  exact ⟨⟨_, this⟩, by rw [ev_f_at this]; rfl⟩
section LAW
variable {l : Launch} {G : ev_G} {MR : ev_M} {as : List Value} {x m u no nl : Nat} {A : st_A} {h h7 : ev_AH} {o : st_O} {c r8 a : Int32} {uc us : Nat} {T : Int32 → ev_AH → Prop}
theorem law_tail (hy : wQ G x u h o (Int32.toInt64 o.2.1) r8 h7) (hM : RM m no nl A c h) (hr : ∀ h7, RM m no nl A c h7 → cM l G MR as m h7 o) (hI : st_I o.2.2.1 o.2.2.2.1 o.2.2.2.2) (hT : ∀ h', CC G x m u o.2.2.1 o.2.2.2.1 o.2.2.2.2 h' → ∀ z : Int32, z = a + 5 → T z h') :
    (∃ fs : List Value, h7 m = some (4, fs)) ∧ (0 ≤ uc ∧ 0 ≤ us) ∧ ∃ (A : Int32 → ev_AH → Prop) (X : String → ev_AH → Prop), Mt l G MR as h7 (ev_pi A X) ∧ (∀ (r14 : Int32) (h13 : ev_AH), A r14 h13 → ∃ v16 : Int32, ev_f h13 m 4 0 = some (.int v16) ∧ (∃ fs : List Value, h13 m = some (4, fs)) ∧ ((v16 = r8 → ((¬ r8 = 0 → ∀ z : Int32, z = a + 5 → T z h13) ∧ (r8 = 0 → ∃ v20 : Int64, ¬ (0 : Int32) < 0 ∧ ev_f h13 u 102 (Int32.toNatClampNeg 0) = some (.long v20) ∧ (((lg_cmp v20 (Int32.toInt64 r14)) = 0 → ∀ z : Int32, z = a + 5 → T z h13) ∧ (¬ (lg_cmp v20 (Int32.toInt64 r14)) = 0 → (0 : Int32) = 1))))) ∧ (¬ v16 = r8 → (0 : Int32) = 1))) ∧ (∀ (E : String) (h9 : ev_AH), X E h9 → False) := by
  obtain ⟨rfl, y1, y2, v, y3, y4⟩ := hy
  have hM7 : RM m no nl A c h7 := hM.keep y2
  obtain ⟨P, X, m1, p1, x1⟩ := hr h7 hM7
  refine ⟨hM7.m4.1, ⟨Nat.zero_le _, Nat.zero_le _⟩, P, X, m1, fun r14 h13 y => ?_, x1⟩
  obtain ⟨q1, q2, q3⟩ := p1 r14 h13 y
  have hu : h13 u = some (102, [.long v]) := q3 _ _ y3 (show (102 : Nat) ≠ 4 by decide) (show (102 : Nat) ≠ 100 by decide) (show (102 : Nat) ≠ 101 by decide)
  have hC : CC G x m u o.2.2.1 o.2.2.2.1 o.2.2.2.2 h13 := ⟨q3.RX y1, ⟨_, q2⟩, ⟨v, hu⟩, hI⟩
  refine ⟨o.1, q2.m4.2, q2.m4.1, fun _ => ⟨fun _ => hT h13 hC, fun z => ⟨v, by decide, by rw [ev_f_at hu]; rfl, fun _ => hT h13 hC, fun w => absurd ?_ w⟩⟩, fun w => absurd rfl w⟩
  rw [y4 z, q1 z, law_c0]
theorem law_tailB (hy : wQ G x u h o (if o.2.1 = 0 then 0 else 1) r8 h7) (hM : RM m no nl A c h) (hr : ∀ h7, RM m no nl A c h7 → cM l G MR as m h7 o) (hI : st_I o.2.2.1 o.2.2.2.1 o.2.2.2.2) (hT : ∀ h', CC G x m u o.2.2.1 o.2.2.2.1 o.2.2.2.2 h' → ∀ z : Int32, z = a + 5 → T z h') :
    (∃ fs : List Value, h7 m = some (4, fs)) ∧ (0 ≤ uc ∧ 0 ≤ us) ∧ ∃ (A : Int32 → ev_AH → Prop) (X : String → ev_AH → Prop), Mt l G MR as h7 (ev_pi A X) ∧ (∀ (r14 : Int32) (h13 : ev_AH), A r14 h13 → ∃ v16 : Int32, ev_f h13 m 4 0 = some (.int v16) ∧ (∃ fs : List Value, h13 m = some (4, fs)) ∧ ((v16 = r8 → ((¬ r8 = 0 → ∀ z : Int32, z = a + 5 → T z h13) ∧ (r8 = 0 → ∃ v20 : Int64, ¬ (0 : Int32) < 0 ∧ ev_f h13 u 102 (Int32.toNatClampNeg 0) = some (.long v20) ∧ ∃ J : Int64 → Prop, J = (fun (j : Int64) => (((lg_cmp v20 j) = 0 → ∀ z : Int32, z = a + 5 → T z h13) ∧ (¬ (lg_cmp v20 j) = 0 → (0 : Int32) = 1))) ∧ ((r14 = 0 → J 0) ∧ (¬ r14 = 0 → J 1))))) ∧ (¬ v16 = r8 → (0 : Int32) = 1))) ∧ (∀ (E : String) (h9 : ev_AH), X E h9 → False) := by
  obtain ⟨rfl, y1, y2, v, y3, y4⟩ := hy
  have hM7 : RM m no nl A c h7 := hM.keep y2
  obtain ⟨P, X, m1, p1, x1⟩ := hr h7 hM7
  refine ⟨hM7.m4.1, ⟨Nat.zero_le _, Nat.zero_le _⟩, P, X, m1, fun r14 h13 y => ?_, x1⟩
  obtain ⟨q1, q2, q3⟩ := p1 r14 h13 y
  have hu : h13 u = some (102, [.long v]) := q3 _ _ y3 (show (102 : Nat) ≠ 4 by decide) (show (102 : Nat) ≠ 100 by decide) (show (102 : Nat) ≠ 101 by decide)
  have hC : CC G x m u o.2.2.1 o.2.2.2.1 o.2.2.2.2 h13 := ⟨q3.RX y1, ⟨_, q2⟩, ⟨v, hu⟩, hI⟩
  refine ⟨o.1, q2.m4.2, q2.m4.1, fun _ => ⟨fun _ => hT h13 hC, fun z => ⟨v, by decide, by rw [ev_f_at hu]; rfl, _, rfl, fun w => ⟨fun _ => hT h13 hC, fun w' => absurd ?_ w'⟩, fun w => ⟨fun _ => hT h13 hC, fun w' => absurd ?_ w'⟩⟩⟩, fun w => absurd rfl w⟩
  · rw [q1 z] at w
    rw [y4 z, if_pos w, law_c0]
  · rw [q1 z] at w
    rw [y4 z, if_neg w, law_c0]
theorem law_tailP {p : Int32} (hy : wQ G x u h ((op_packed nl A p).1, 0, no, nl, A) (op_packed nl A p).2 r8 h7) (hM : RM m no nl A c h) (hI : st_I no nl A) (hT : ∀ h', CC G x m u no nl A h' → ∀ z : Int32, z = a + 5 → T z h') :
    (∃ fs : List Value, h7 m = some (4, fs)) ∧ (0 ≤ uc ∧ 0 ≤ us) ∧ ∃ (A : Int64 → ev_AH → Prop) (X : String → ev_AH → Prop), Mt l G M_R_packed [.ref m, .int p] h7 (ev_pl A X) ∧ (∀ (r14 : Int64) (h13 : ev_AH), A r14 h13 → ∃ v16 : Int32, ev_f h13 m 4 0 = some (.int v16) ∧ (∃ fs : List Value, h13 m = some (4, fs)) ∧ ((v16 = r8 → ((¬ r8 = 0 → ∀ z : Int32, z = a + 5 → T z h13) ∧ (r8 = 0 → ∃ v20 : Int64, ¬ (0 : Int32) < 0 ∧ ev_f h13 u 102 (Int32.toNatClampNeg 0) = some (.long v20) ∧ (((lg_cmp v20 r14) = 0 → ∀ z : Int32, z = a + 5 → T z h13) ∧ (¬ (lg_cmp v20 r14) = 0 → (0 : Int32) = 1))))) ∧ (¬ v16 = r8 → (0 : Int32) = 1))) ∧ (∀ (E : String) (h9 : ev_AH), X E h9 → False) := by
  obtain ⟨rfl, y1, y2, v, y3, y4⟩ := hy
  have hM7 : RM m no nl A c h7 := hM.keep y2
  obtain ⟨P, X, m1, p1, x1⟩ := cm_packed (l := l) (G := G) (p := p) hM7 hI
  refine ⟨hM7.m4.1, ⟨Nat.zero_le _, Nat.zero_le _⟩, P, X, m1, fun r14 h13 y => ?_, x1⟩
  obtain ⟨q1, q2, q3⟩ := p1 r14 h13 y
  have hu : h13 u = some (102, [.long v]) := q3 _ _ y3 (show (102 : Nat) ≠ 4 by decide) (show (102 : Nat) ≠ 100 by decide) (show (102 : Nat) ≠ 101 by decide)
  have hC : CC G x m u no nl A h13 := ⟨q3.RX y1, ⟨_, q2⟩, ⟨v, hu⟩, hI⟩
  refine ⟨(op_packed nl A p).1, q2.m4.2, q2.m4.1, fun _ => ⟨fun _ => hT h13 hC, fun z => ⟨v, by decide, by rw [ev_f_at hu]; rfl, fun _ => hT h13 hC, fun w => absurd ?_ w⟩⟩, fun w => absurd rfl w⟩
  rw [y4 z, q1 z, law_c0]
theorem law_tailJ {p q : Int32} (hy : wJ G x u h (op_join no nl A p q) r8 h7) (hM : RM m no nl A c h) (hI : st_I no nl A) (hT : ∀ h', CC G x m u (op_join no nl A p q).2.2.1 (op_join no nl A p q).2.2.2.1 (op_join no nl A p q).2.2.2.2 h' → ∀ z : Int32, z = a + 5 → T z h') :
    (∃ fs : List Value, h7 m = some (4, fs)) ∧ (0 ≤ uc ∧ 0 ≤ us) ∧ ∃ (A : ev_AH → Prop) (X : String → ev_AH → Prop), Mt l G M_R_join [.ref m, .int p, .int q] h7 (ev_pv A X) ∧ (∀ h13 : ev_AH, A h13 → ∃ v16 : Int32, ev_f h13 m 4 0 = some (.int v16) ∧ (∃ fs : List Value, h13 m = some (4, fs)) ∧ ((v16 = r8 → ∀ z : Int32, z = a + 5 → T z h13) ∧ (¬ v16 = r8 → (0 : Int32) = 1))) ∧ (∀ (E : String) (h9 : ev_AH), X E h9 → False) := by
  obtain ⟨rfl, y1, y2, v, y3⟩ := hy
  have hM7 : RM m no nl A c h7 := hM.keep y2
  obtain ⟨P, X, m1, p1, x1⟩ := cm_join (l := l) (G := G) (p := p) (q := q) hM7 hI
  refine ⟨hM7.m4.1, ⟨Nat.zero_le _, Nat.zero_le _⟩, P, X, m1, fun h13 y => ?_, x1⟩
  obtain ⟨q2, q3⟩ := p1 h13 y
  have hu : h13 u = some (102, [.long v]) := q3 _ _ y3 (show (102 : Nat) ≠ 4 by decide) (show (102 : Nat) ≠ 100 by decide) (show (102 : Nat) ≠ 101 by decide)
  exact ⟨_, q2.m4.2, q2.m4.1, fun _ => hT h13 ⟨q3.RX y1, ⟨_, q2⟩, ⟨v, hu⟩, I_join hI⟩, fun w => absurd rfl w⟩
end LAW
