/-! THE LAW: its loop -/
theorem law_same {no nl : Nat} {A : st_A} {o : st_O} (hI : st_I no nl A) (e : o.2.2.1 = no ∧ o.2.2.2.1 = nl ∧ o.2.2.2.2 = A) : st_I o.2.2.1 o.2.2.2.1 o.2.2.2.2 := by
  obtain ⟨e1, e2, e3⟩ := e
  rw [e1, e2, e3]
  exact hI
theorem I_ready {no nl : Nat} {A : st_A} (hI : st_I no nl A) {i : Int32} : st_I (op_ready no nl A i).2.2.1 (op_ready no nl A i).2.2.2.1 (op_ready no nl A i).2.2.2.2 := by
  unfold op_ready
  split
  · exact hI
  · split <;> exact hI
theorem I_told {no nl : Nat} {A : st_A} (hI : st_I no nl A) {p w : Int32} : st_I (op_told no nl A p w).2.2.1 (op_told no nl A p w).2.2.2.1 (op_told no nl A p w).2.2.2.2 := by
  by_cases c : p < 0 ∨ nI no ≤ p
  · rw [op_told, if_pos c]; exact hI
  · rw [op_told, if_neg c]
    by_cases c1 : ¬ (0 ≤ w ∧ w ≤ 9)
    · rw [op_told1, if_pos c1]; exact hI
    · rw [op_told1, if_neg c1]; exact hI
theorem I_lineOf {no nl : Nat} {A : st_A} (hI : st_I no nl A) {p w : Int32} : st_I (op_lineOf no nl A p w).2.2.1 (op_lineOf no nl A p w).2.2.2.1 (op_lineOf no nl A p w).2.2.2.2 := by
  unfold op_lineOf op_lineOf1
  split
  · exact hI
  · split <;> exact hI
section LOOP
variable {l : Launch} {G : ev_G} {x m u : Nat}
theorem law_loop (hL : g_sL G ≤ 2560) : ∀ (d t uc us no nl : Nat) (A : st_A) (h : ev_AH), CC G x m u no nl A h → 23 * d ≤ uc → 842 * d ≤ us → g_sL G < 5 * (t + d) + 5 → 5 * t ≤ 2560 →
    Ev l G M_W_law 23 [(0, .ref (g_sb G)), (1, .ref x), (2, .ref m), (3, .ref u), (4, .int (nI (5 * t)))] [] h uc us (lw_fin G) := by
  intro d
  induction d with
  | zero =>
    intro t uc us no nl A h hC b1 b2 b3 b4
    refine vW_law_23 ⟨fun _ => rfl, fun z => absurd ?_ z⟩
    show nI (g_sL G) - nI 5 < nI (5 * t)
    rw [Int32.lt_iff_toInt_lt, pk_sub_toInt (by omega) (by omega), nI_toInt (by omega)]
    omega
  | succ d ih =>
    intro t uc us no nl A h hC b1 b2 b3 b4
    refine vW_law_23 ⟨fun _ => rfl, fun z => ?_⟩
    have h5 : 5 * t + 5 ≤ g_sL G := by
      refine Nat.le_of_not_lt (fun y => z ?_)
      show nI (g_sL G) - nI 5 < nI (5 * t)
      rw [Int32.lt_iff_toInt_lt, pk_sub_toInt (by omega) (by omega), nI_toInt (by omega)]
      omega
    obtain ⟨hX, ⟨c, hM⟩, ⟨v, hu⟩, hI⟩ := hC
    have vin : ∀ k, k ≤ 4 → vp_in (nI (5 * t) + nI k) (g_sL G) := fun k hk => by
      rw [nI_add]
      exact pk_in (5 * t + k) (g_sL G) (by omega) rfl (by omega)
    have v0 : vp_in (nI (5 * t)) (g_sL G) := pk_in (5 * t) (g_sL G) (by omega) rfl (by omega)
    have v1 : vp_in (nI (5 * t) + 1) (g_sL G) := vin 1 (by decide)
    have v2 : vp_in (nI (5 * t) + 2) (g_sL G) := vin 2 (by decide)
    have v3 : vp_in (nI (5 * t) + 3) (g_sL G) := vin 3 (by decide)
    have v4 : vp_in (nI (5 * t) + 4) (g_sL G) := vin 4 (by decide)
    have e5 : nI (5 * t) + 5 = nI (5 * (t + 1)) := by
      have := nI_add (5 * t) 5
      rw [show 5 * (t + 1) = 5 * t + 5 by omega]
      exact this
    have K0 : ∀ (uc' us' : Nat), 23 * d ≤ uc' → 842 * d ≤ us' → ∀ (no nl : Nat) (A : st_A) (h : ev_AH), CC G x m u no nl A h → ∀ z : Int32, z = nI (5 * t) + 5 → Ev l G M_W_law 23 [(0, .ref (g_sb G)), (1, .ref x), (2, .ref m), (3, .ref u), (4, .int z)] [] h uc' us' (lw_fin G) := fun uc' us' k1 k2 no nl A h hC z ez => by
      rw [e5] at ez
      subst ez
      exact ih (t + 1) uc' us' no nl A h hC k1 k2 (by omega) (by omega)
    have K : ∀ (a b : Nat), a ≤ 23 → b ≤ 842 → ∀ (no nl : Nat) (A : st_A) (h : ev_AH), CC G x m u no nl A h → ∀ z : Int32, z = nI (5 * t) + 5 → Ev l G M_W_law 23 [(0, .ref (g_sb G)), (1, .ref x), (2, .ref m), (3, .ref u), (4, .int z)] [] h (uc - a) (us - b) (lw_fin G) := fun a b ha hb => K0 (uc - a) (us - b) (by omega) (by omega)
    refine ⟨v0, fun _ => ?_, fun _ => ?_, fun _ => ?_, fun _ => ?_, fun _ => ?_, fun _ => ?_, fun _ => ?_, fun _ => ?_, fun _ => ?_, fun _ => ?_, fun _ => ?_, fun _ => ?_, fun _ => ?_, fun _ => ?_, fun _ => ?_, fun _ => ?_, fun _ => ?_⟩
    · exact ⟨v1, v2, v3, v4, ⟨by omega, by omega⟩, _, _, wp_order hX hI hu, fun r8 h7 y => ⟨v1, v2, v3, v4, law_tail y hM (fun h7 q => cm_order q hI) (I_order hI) (fun h' hC => K 9 143 (by decide) (by decide) _ _ _ h' hC)⟩, fun _ _ q => q⟩
    · exact ⟨v1, v2, v3, v4, ⟨by omega, by omega⟩, _, _, wp_line hX hI hu, fun r8 h7 y => ⟨v1, v2, v3, v4, law_tail y hM (fun h7 q => cm_line q hI) (I_line hI) (fun h' hC => K 12 253 (by decide) (by decide) _ _ _ h' hC)⟩, fun _ _ q => q⟩
    · exact ⟨v1, v2, ⟨by omega, by omega⟩, _, _, wp_hold hX hI hu, fun r8 h7 y => ⟨v1, v2, law_tail y hM (fun h7 q => cm_hold q hI) (I_hold hI) (fun h' hC => K 5 30 (by decide) (by decide) _ _ _ h' hC)⟩, fun _ _ q => q⟩
    · exact ⟨v1, v2, ⟨by omega, by omega⟩, _, _, wp_pick hX hI hu, fun r8 h7 y => ⟨v1, v2, law_tail y hM (fun h7 q => cm_pick q hI) (I_pick hI) (fun h' hC => K 5 30 (by decide) (by decide) _ _ _ h' hC)⟩, fun _ _ q => q⟩
    · exact ⟨v1, ⟨by omega, by omega⟩, _, _, wp_goOn hX hI hu, fun r8 h7 y => ⟨v1, law_tail y hM (fun h7 q => cm_goOn q hI) (I_goOn hI) (fun h' hC => K 2 12 (by decide) (by decide) _ _ _ h' hC)⟩, fun _ _ q => q⟩
    · exact ⟨v1, v2, v3, ⟨by omega, by omega⟩, _, _, wp_change hX hI hu, fun r8 h7 y => ⟨v1, v2, v3, law_tailB y hM (fun h7 q => cm_change q hI) (I_change hI) (fun h' hC => K 8 48 (by decide) (by decide) _ _ _ h' hC)⟩, fun _ _ q => q⟩
    · exact ⟨v1, v2, ⟨by omega, by omega⟩, _, _, wp_move hX hI hu, fun r8 h7 y => ⟨v1, v2, law_tailB y hM (fun h7 q => cm_move q hI) (I_move hI) (fun h' hC => K 2 12 (by decide) (by decide) _ _ _ h' hC)⟩, fun _ _ q => q⟩
    · exact ⟨v1, ⟨by omega, by omega⟩, _, _, wp_cancel hX hI hu, fun r8 h7 y => ⟨v1, law_tail y hM (fun h7 q => cm_cancel q hI) (I_cancel hI) (fun h' hC => K 3 18 (by decide) (by decide) _ _ _ h' hC)⟩, fun _ _ q => q⟩
    · exact ⟨v1, v2, ⟨by omega, by omega⟩, _, _, wp_join hX hI hu, fun r8 h7 y => ⟨v1, v2, law_tailJ y hM hI (fun h' hC => K 23 842 (by decide) (by decide) _ _ _ h' hC)⟩, fun _ _ q => q⟩
    · refine ⟨v1, v2, v3, _, rfl, fun z0 => ?_, fun z1 => ?_⟩
      · exact ⟨⟨by omega, by omega⟩, _, _, wp_block hX hI hu (Or.inl rfl), fun r8 h7 y => ⟨v1, v2, v3, _, rfl, fun w0 => law_tail y hM (fun h7 q => cm_block q hI) (I_block hI) (fun h' hC => K 4 24 (by decide) (by decide) _ _ _ h' hC), fun w1 => absurd z0 w1⟩, fun _ _ q => q⟩
      · exact ⟨⟨by omega, by omega⟩, _, _, wp_block hX hI hu (Or.inr rfl), fun r8 h7 y => ⟨v1, v2, v3, _, rfl, fun w0 => absurd w0 z1, fun w1 => law_tail y hM (fun h7 q => cm_block q hI) (I_block hI) (fun h' hC => K 4 24 (by decide) (by decide) _ _ _ h' hC)⟩, fun _ _ q => q⟩
    · exact ⟨v1, ⟨by omega, by omega⟩, _, _, wp_backorder hX hI hu, fun r8 h7 y => ⟨v1, law_tail y hM (fun h7 q => cm_backorder q hI) (I_backorder hI) (fun h' hC => K 14 354 (by decide) (by decide) _ _ _ h' hC)⟩, fun _ _ q => q⟩
    · exact ⟨v1, ⟨by omega, by omega⟩, _, _, wp_ready hX hI hu, fun r8 h7 y => ⟨v1, law_tail y hM (fun h7 q => cm_ready q hI) (I_ready hI) (fun h' hC => K 1 6 (by decide) (by decide) _ _ _ h' hC)⟩, fun _ _ q => q⟩
    · exact ⟨v1, v2, ⟨by omega, by omega⟩, _, _, wp_told hX hI hu, fun r8 h7 y => ⟨v1, v2, law_tail y hM (fun h7 q => cm_told q hI) (I_told hI) (fun h' hC => K 2 12 (by decide) (by decide) _ _ _ h' hC)⟩, fun _ _ q => q⟩
    · exact ⟨v1, v2, ⟨by omega, by omega⟩, _, _, wp_lineOf hX hI hu, fun r8 h7 y => ⟨v1, v2, law_tail y hM (fun h7 q => cm_lineOf q hI) (I_lineOf hI) (fun h' hC => K 2 12 (by decide) (by decide) _ _ _ h' hC)⟩, fun _ _ q => q⟩
    · exact ⟨v1, ⟨by omega, by omega⟩, _, _, wp_packed hX hI hu, fun r8 h7 y => ⟨v1, law_tailP y hM hI (fun h' hC => K 1 6 (by decide) (by decide) _ _ _ h' hC)⟩, fun _ _ q => q⟩
    · obtain ⟨P, X, m1, p1, x1⟩ := cx_count (l := l) (w := g_xs G (Int32.toNatClampNeg (nI (5 * t) + 1))) hX hI
      refine ⟨v1, hX.x, ⟨Nat.zero_le _, Nat.zero_le _⟩, P, X, m1, fun r h1 y => ?_, fun E h9 y => absurd (x1 E h9 y).1 List.not_mem_nil⟩
      obtain ⟨y1, y2, y3, y4⟩ := p1 _ _ y
      have hM1 : RM m no nl A c h1 := y4.RM hM
      have hu1 : h1 u = some (102, [.long v]) := y4 _ _ hu (show (3 : Nat) < 102 by decide) (show (102 : Nat) ≠ 103 by decide)
      obtain ⟨P2, X2, m2, p2, x2⟩ := cm_count (l := l) (G := G) (w := g_xs G (Int32.toNatClampNeg (nI (5 * t) + 1))) hM1 hI
      refine ⟨v1, hM1.m4.1, ⟨Nat.zero_le _, Nat.zero_le _⟩, P2, X2, m2, fun r2 h2 w => ?_, x2⟩
      obtain ⟨q1, q2, q3⟩ := p2 _ _ w
      have hu2 : h2 u = some (102, [.long v]) := q3 _ _ hu1 (show (102 : Nat) ≠ 4 by decide) (show (102 : Nat) ≠ 100 by decide) (show (102 : Nat) ≠ 101 by decide)
      refine ⟨fun _ => K0 uc us (by omega) (by omega) no nl A h2 ⟨q3.RX y3, ⟨_, q2⟩, ⟨v, hu2⟩, hI⟩, fun z => absurd ?_ z⟩
      rw [y2, q1 y1]
    · exact K0 uc us (by omega) (by omega) no nl A h ⟨hX, ⟨c, hM⟩, ⟨v, hu⟩, hI⟩
/-- from the law's entry -/
theorem law_body (hL : g_sL G ≤ 2560) : Ev l G M_W_law 0 [(0, .ref (g_sb G))] [] (fun _ => none) 601024 7293034 (lw_fin G) := by
  refine vW_law (fun q1 g1 h2 e2 => ?_)
  subst e2
  obtain ⟨P1, m1, p1⟩ := sp_X_init (l := l) (G := G) (h := fun _ => none) (x := q1) rfl
  refine ⟨P1, m1, fun h3 y => ?_⟩
  obtain ⟨hX, -⟩ := p1 h3 y
  intro q4 g4 h5 e5
  subst e5
  obtain ⟨P2, m2, p2⟩ := sp_R_init (l := l) (G := G) g4
  refine ⟨P2, m2, fun h6 y => ?_⟩
  obtain ⟨hM, f6⟩ := p2 h6 y
  have hX6 : RX G q1 0 0 st_0 h6 := hX.keep (fun b c e _ => f6 b c e)
  intro q7 g7 h8 e8
  have f8 : ∀ b c, h6 b = some c → h8 b = some c := fun b c e => by rw [e8, ev_up_ne (fun z => by rw [z, g7] at e; cases e)]; exact e
  exact law_loop hL 512 0 600998 7292062 0 0 st_0 h8 ⟨hX6.keep (fun b c e _ => f8 b c e), ⟨0, hM.keep (fun b c e _ => f8 b c e)⟩, ⟨0, by rw [e8, ev_up_at]; rfl⟩, st_I_00⟩ (by omega) (by omega) (by omega) (by omega)
end LOOP
