/-! LAWS of the helpers of helpers -/
section S2
variable {l : Launch} {G : ev_G} {h : ev_AH}
theorem sp_O_isWaiting {a : Nat} {ph b : Int32} (g6 : ev_f h a 1 6 = some (.int ph)) (g7 : ev_f h a 1 7 = some (.int b)) : Mt l G M_O_isWaiting [.ref a] h (ev_pi (fun r h' => h = h' ∧ r = ev_b ((ph = 0 ∨ ph = 1) ∧ b = 0)) (fun _ _ => False)) := by
  obtain ⟨fs, hfs, -⟩ := ev_f_of g6
  refine vO_isWaiting ?_
  simp only [g6, g7, hfs, Option.some.injEq, Value.int.injEq, Prod.mk.injEq, exists_eq_left', true_and, exists_eq', ev_b]
  grind
theorem sp_L_isReady {a : Nat} {w ru he : Int32} (g3 : ev_f h a 2 3 = some (.int w)) (g4 : ev_f h a 2 4 = some (.int ru)) (g5 : ev_f h a 2 5 = some (.int he)) : Mt l G M_L_isReady [.ref a] h (ev_pi (fun r h' => h = h' ∧ r = ev_b (he = w ∨ (¬ (ru &&& 1) = 0 ∧ 0 < he) ∨ ¬ (ru &&& 4) = 0)) (fun _ _ => False)) := by
  obtain ⟨fs, hfs, -⟩ := ev_f_of g3
  refine vL_isReady ?_
  simp only [g3, g4, g5, hfs, Option.some.injEq, Value.int.injEq, Prod.mk.injEq, exists_eq_left', true_and, exists_eq', ev_b]
  grind
theorem sp_L_awaitsBackorder {a : Nat} {w ru sh li ba : Int32} (g3 : ev_f h a 2 3 = some (.int w)) (g4 : ev_f h a 2 4 = some (.int ru)) (g7 : ev_f h a 2 7 = some (.int sh)) (g9 : ev_f h a 2 9 = some (.int li)) (g10 : ev_f h a 2 10 = some (.int ba)) : Mt l G M_L_awaitsBackorder [.ref a] h (ev_pi (fun r h' => h = h' ∧ r = ev_b (¬ li = 0 ∧ ¬ (ru &&& 4) = 0 ∧ 0 < w - sh ∧ ba = 0)) (fun _ _ => False)) := by
  obtain ⟨fs, hfs, -⟩ := ev_f_of g3
  refine vL_awaitsBackorder ?_
  simp only [g3, g4, g7, g9, g10, hfs, Option.some.injEq, Value.int.injEq, Prod.mk.injEq, exists_eq_left', true_and, exists_eq', ev_b, ← Int32.not_lt (a := 0) (b := w - sh)]
  grind
end S2
