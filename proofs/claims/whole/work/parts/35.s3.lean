/-! LAWS of more helpers -/
section S3
variable {l : Launch} {G : ev_G} {h : ev_AH}
theorem sp_A_size {a : Nat} {n : Int32} (g : ev_f h a 3 1 = some (.int n)) : Mt l G M_A_size [.ref a] h (ev_pi (fun r h' => h = h' ∧ r = n) (fun _ _ => False)) := vA_size ⟨n, g, rfl, rfl⟩
theorem sp_Jp_checkIndex {i n : Int32} (h0 : ¬ i < 0) (h1 : i < n) : Mt l G M_Jp_checkIndex [.int i, .int n, .null] h (ev_pi (fun r h' => h = h' ∧ r = i) (fun _ _ => False)) := vJp_checkIndex ⟨fun z => absurd z h0, fun _ => ⟨fun _ => ⟨rfl, rfl⟩, fun z => absurd h1 z⟩⟩
theorem sp_Jo_checkIndex {i n : Int32} (h0 : ¬ i < 0) (h1 : i < n) : Mt l G M_Jo_checkIndex [.int i, .int n] h (ev_pi (fun r h' => h = h' ∧ r = i) (fun _ _ => False)) := vJo_checkIndex ⟨_, _, sp_Jp_checkIndex h0 h1, fun _ _ q => q, fun _ _ q => q.elim⟩
theorem sp_A_elementData {a r v : Nat} {i : Int32} (g : ev_f h a 3 0 = some (.ref r)) (h0 : ¬ i < 0) (g' : ev_f h r 103 i.toNatClampNeg = some (.ref v)) : Mt l G M_A_elementData [.ref a, .int i] h (ev_pr (fun r h' => h = h' ∧ r = v) (fun _ _ => False)) := vA_elementData ⟨r, g, v, h0, g', rfl, rfl⟩
theorem sp_O_comesBefore {a b : Nat} {r0 r1 d0 d1 i0 i1 : Int32} (g1 : ev_f h a 1 3 = some (.int r0)) (g2 : ev_f h b 1 3 = some (.int r1)) (g3 : ev_f h a 1 5 = some (.int d0)) (g4 : ev_f h b 1 5 = some (.int d1)) (g5 : ev_f h a 1 0 = some (.int i0)) (g6 : ev_f h b 1 0 = some (.int i1)) : Mt l G M_O_comesBefore [.ref a, .ref b] h (ev_pi (fun r h' => h = h' ∧ r = ev_b (ev_lex r0 r1 d0 d1 i0 i1)) (fun _ _ => False)) := by
  refine vO_comesBefore ?_
  simp only [g1, g2, g3, g4, g5, g6, Option.some.injEq, Value.int.injEq, exists_eq_left', true_and, ev_b, ← Int32.not_lt]
  grind
theorem sp_R_thrown {m : Nat} {c : Int32} (g : ev_f h m 4 0 = some (.int c)) : Mt l G M_R_thrown [.ref m] h (ev_pi (fun r h' => h = h' ∧ r = c) (fun _ _ => False)) := vR_thrown ⟨c, g, rfl, rfl⟩
theorem sp_R_isOrder {m : Nat} {n o : Int32} (g : ev_f h m 4 1 = some (.int n)) : Mt l G M_R_isOrder [.ref m, .int o] h (ev_pi (fun r h' => h = h' ∧ r = ev_b (0 ≤ o ∧ o ≤ n - 1)) (fun _ _ => False)) := vR_isOrder ⟨n, g, ev_b_nar _, rfl, rfl⟩
theorem sp_R_isLine {m : Nat} {n o : Int32} (g : ev_f h m 4 12 = some (.int n)) : Mt l G M_R_isLine [.ref m, .int o] h (ev_pi (fun r h' => h = h' ∧ r = ev_b (0 ≤ o ∧ o ≤ n - 1)) (fun _ _ => False)) := vR_isLine ⟨n, g, ev_b_nar _, rfl, rfl⟩
theorem sp_R_has {m : Nat} {i v k : Int32} (g : ev_ar h m 16 i v) : Mt l G M_R_has [.ref m, .int i, .int k] h (ev_pi (fun r h' => h = h' ∧ r = ev_b (¬ (v &&& k) = 0)) (fun _ _ => False)) := by
  obtain ⟨a, g1, g2, g3⟩ := g
  refine vR_has ⟨a, g1, v, g2, g3, fun z => ⟨rfl, ?_⟩, fun z => ⟨rfl, ?_⟩⟩ <;> simp [ev_b, z]
theorem sp_R_lineAt {m : Nat} {o i v : Int32} (g : ev_ar h m 11 (8 * o + i) v) : Mt l G M_R_lineAt [.ref m, .int o, .int i] h (ev_pi (fun r h' => h = h' ∧ r = v) (fun _ _ => False)) := by
  obtain ⟨a, g1, g2, g3⟩ := g
  exact vR_lineAt ⟨a, g1, v, g2, g3, rfl, rfl⟩
theorem sp_R_isWaiting {m : Nat} {o p b : Int32} (g : ev_ar h m 6 o p) (g' : ev_ar h m 7 o b) : Mt l G M_R_isWaiting [.ref m, .int o] h (ev_pi (fun r h' => h = h' ∧ r = ev_b (p ≤ 1 ∧ b = 0)) (fun _ _ => False)) := by
  obtain ⟨a, g1, g2, g3⟩ := g
  obtain ⟨a', g1', g2', g3'⟩ := g'
  simp only [show ¬ ((6 : Nat) = 21 ∨ (6 : Nat) = 22) by decide, show ¬ ((7 : Nat) = 21 ∨ (7 : Nat) = 22) by decide, if_false] at g3 g3'
  refine vR_isWaiting ?_
  simp only [g1, g2, g3, g1', g3', Option.some.injEq, Value.int.injEq, Value.ref.injEq, exists_eq_left', true_and, not_false_eq_true, ev_b, ← Int32.not_lt]
  grind
theorem sp_R_isBefore {m : Nat} {o x r0 r1 d0 d1 : Int32} (g : ev_ar h m 4 o r0) (g' : ev_ar h m 4 x r1) (g'' : ev_ar h m 5 o d0) (g''' : ev_ar h m 5 x d1) : Mt l G M_R_isBefore [.ref m, .int o, .int x] h (ev_pi (fun r h' => h = h' ∧ r = ev_b (ev_lex r0 r1 d0 d1 o x)) (fun _ _ => False)) := by
  obtain ⟨a1, p1, q1, s1⟩ := g
  obtain ⟨a2, p2, q2, s2⟩ := g'
  obtain ⟨a3, p3, q3, s3⟩ := g''
  obtain ⟨a4, p4, q4, s4⟩ := g'''
  cases Option.some.inj (p1.symm.trans p2)
  cases Option.some.inj (p3.symm.trans p4)
  simp only [show ¬ ((4 : Nat) = 21 ∨ (4 : Nat) = 22) by decide, show ¬ ((5 : Nat) = 21 ∨ (5 : Nat) = 22) by decide, if_false] at s1 s2 s3 s4
  refine vR_isBefore ?_
  simp only [p1, p3, q1, q2, s1, s2, s3, s4, Option.some.injEq, Value.int.injEq, Value.ref.injEq, exists_eq_left', true_and, not_false_eq_true, ev_b, ← Int32.not_lt]
  grind
theorem sp_R_shortOf {m : Nat} {i li w s : Int32} (g : ev_ar h m 21 i li) (g' : ev_ar h m 17 i w) (g'' : ev_ar h m 20 i s) : Mt l G M_R_shortOf [.ref m, .int i] h (ev_pi (fun r h' => h = h' ∧ r = if ¬ li = 0 then w - s else 0) (fun _ _ => False)) := by
  obtain ⟨a1, p1, q1, s1⟩ := g
  obtain ⟨a2, p2, q2, s2⟩ := g'
  obtain ⟨a3, p3, q3, s3⟩ := g''
  simp only [show ((21 : Nat) = 21 ∨ (21 : Nat) = 22) by decide, show ¬ ((17 : Nat) = 21 ∨ (17 : Nat) = 22) by decide, show ¬ ((20 : Nat) = 21 ∨ (20 : Nat) = 22) by decide, if_false, if_true] at s1 s2 s3
  refine vR_shortOf ?_
  simp only [p1, p2, p3, q1, s1, s2, s3, Option.some.injEq, Value.int.injEq, Value.ref.injEq, exists_eq_left', true_and, not_false_eq_true]
  grind
end S3
