/-! LAWS of the helpers -/
section S1
variable {l : Launch} {G : ev_G} {h : ev_AH}
theorem sp_X_requireRange {v lo hi : Int32} : Mt l G M_X_requireRange [.int v, .int lo, .int hi] h (ev_pv (fun h' => h = h' ∧ (¬ v < lo ∧ ¬ hi < v)) (fun E h' => h = h' ∧ (v < lo ∨ hi < v) ∧ "java/lang/IllegalArgumentException" = E)) :=
  vX_requireRange ⟨fun z => ⟨rfl, Or.inl z, rfl⟩, fun z => ⟨fun y => ⟨rfl, z, Int32.not_lt.mpr y⟩, fun y => ⟨rfl, Or.inr (Int32.not_le.mp y), rfl⟩⟩⟩
theorem sp_X_requireNotNegative {v : Int32} : Mt l G M_X_requireNotNegative [.int v] h (ev_pv (fun h' => h = h' ∧ ¬ v < 0) (fun E h' => h = h' ∧ v < 0 ∧ "java/lang/IllegalArgumentException" = E)) :=
  vX_requireNotNegative ⟨fun y => ⟨rfl, Int32.not_lt.mpr y⟩, fun y => ⟨rfl, Int32.not_le.mp y, rfl⟩⟩
theorem sp_X_requireState {v : Int32} : Mt l G M_X_requireState [.int v] h (ev_pv (fun h' => h = h' ∧ ¬ v = 0) (fun E h' => h = h' ∧ v = 0 ∧ "java/lang/IllegalStateException" = E)) :=
  vX_requireState ⟨fun y => ⟨rfl, y⟩, fun y => ⟨rfl, y, rfl⟩⟩
theorem sp_X_requireRoom {v : Int32} : Mt l G M_X_requireRoom [.int v] h (ev_pv (fun h' => h = h' ∧ ¬ v = 0) (fun E h' => h = h' ∧ v = 0 ∧ "java/lang/UnsupportedOperationException" = E)) :=
  vX_requireRoom ⟨fun y => ⟨rfl, y⟩, fun y => ⟨rfl, y, rfl⟩⟩
theorem sp_R_in {v lo hi : Int32} : Mt l G M_R_in [.int v, .int lo, .int hi] h (ev_pi (fun r h' => h = h' ∧ r = ev_b (lo ≤ v ∧ v ≤ hi)) (fun _ _ => False)) := by
  refine vR_in ?_
  unfold ev_b
  refine ⟨fun z => ⟨rfl, ?_⟩, fun z => ⟨fun y => ⟨rfl, ?_⟩, fun y => ⟨rfl, ?_⟩⟩⟩
  · rw [if_neg (fun q => absurd q.1 (Int32.not_le.mpr z))]
  · rw [if_neg (fun q => absurd q.2 (Int32.not_le.mpr y))]
  · rw [if_pos ⟨Int32.not_lt.mp z, Int32.not_lt.mp y⟩]
theorem sp_O_isBlocked {a : Nat} {b : Int32} (g : ev_f h a 1 7 = some (.int b)) : Mt l G M_O_isBlocked [.ref a] h (ev_pi (fun r h' => h = h' ∧ r = ev_b (¬ b = 0)) (fun _ _ => False)) := by
  refine vO_isBlocked ⟨b, g, fun z => ⟨rfl, ?_⟩, fun z => ⟨rfl, ?_⟩⟩ <;> simp [ev_b, z]
theorem sp_L_hasRule {a : Nat} {b k : Int32} (g : ev_f h a 2 4 = some (.int b)) : Mt l G M_L_hasRule [.ref a, .int k] h (ev_pi (fun r h' => h = h' ∧ r = ev_b (¬ (b &&& k) = 0)) (fun _ _ => False)) := by
  refine vL_hasRule ⟨b, g, fun z => ⟨rfl, ?_⟩, fun z => ⟨rfl, ?_⟩⟩ <;> simp [ev_b, z]
theorem sp_L_missing {a : Nat} {w s : Int32} (g : ev_f h a 2 3 = some (.int w)) (g' : ev_f h a 2 7 = some (.int s)) : Mt l G M_L_missing [.ref a] h (ev_pi (fun r h' => h = h' ∧ r = w - s) (fun _ _ => False)) :=
  vL_missing ⟨w, g, s, g', rfl, rfl⟩
theorem sp_X_phaseLetsChange {p w : Int32} : Mt l G M_X_phaseLetsChange [.int p, .int w] h (ev_pi (fun r h' => h = h' ∧ r = ev_b (p = 0 ∨ (p = 1 ∧ w = 2))) (fun _ _ => False)) := by
  refine vX_phaseLetsChange ?_
  simp only [ev_b]
  grind
end S1
