section S4
variable {l : Launch} {G : ev_G} {h : ev_AH}
theorem sp_A_get {a v : Nat} {i : Int32} (g : ev_get h a i v) : Mt l G M_A_get [.ref a, .int i] h (ev_pr (fun r h' => h = h' ∧ r = v) (fun _ _ => False)) := by
  obtain ⟨n, r, g1, g2, g3, g4, g5⟩ := g
  obtain ⟨fs, hfs, -⟩ := ev_f_of g1
  refine vA_get ⟨n, g1, _, _, sp_Jo_checkIndex g2 g3, ?_, fun _ _ q => q.elim⟩
  intro r2 h1 q
  obtain ⟨rfl, rfl⟩ := q
  exact ⟨⟨fs, hfs⟩, _, _, sp_A_elementData g4 g2 g5, fun _ _ q => q, fun _ _ q => q.elim⟩
theorem sp_R_isReady {m : Nat} {i w ru he : Int32} (g : ev_ar h m 17 i w) (g' : ev_ar h m 16 i ru) (g'' : ev_ar h m 18 i he) : Mt l G M_R_isReady [.ref m, .int i] h (ev_pi (fun r h' => h = h' ∧ r = ev_b (he = w ∨ (¬ (ru &&& 1) = 0 ∧ 0 < he) ∨ ¬ (ru &&& 4) = 0)) (fun _ _ => False)) := by
  obtain ⟨a1, p1, q1, s1⟩ := g
  obtain ⟨a3, p3, q3, s3⟩ := g''
  obtain ⟨fs, hfs, -⟩ := ev_f_of p1
  have u : ∀ v, ev_ar h m 16 i v ↔ v = ru := by
    intro v
    obtain ⟨a2, p2, q2, s2⟩ := g'
    unfold ev_ar
    simp only [p2, q2, Option.some.injEq, Value.ref.injEq, exists_eq_left', not_false_eq_true, true_and]
    rw [s2]
    simp [eq_comm]
  simp only [show ¬ ((17 : Nat) = 21 ∨ (17 : Nat) = 22) by decide, show ¬ ((18 : Nat) = 21 ∨ (18 : Nat) = 22) by decide, if_false] at s1 s3
  refine vR_isReady ?_
  simp only [p1, p3, q1, s1, s3, u, hfs, Option.some.injEq, Value.int.injEq, Value.ref.injEq, Prod.mk.injEq, exists_eq_left', exists_eq_left, exists_eq', true_and, not_false_eq_true, ev_b]
  grind
end S4
