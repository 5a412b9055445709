/-! LISTS: add, clear -/
/-- behind add1: the list's array j, new or its own; all else as it was -/
def rl_AP (G : ev_G) (h : ev_AH) (a r : Nat) (vs : List Nat) (v : Nat) (m : Int32) (h' : ev_AH) : Prop :=
  ∃ j k, vs.length + 1 + k ≤ 100 ∧ ¬ j = g_t0 G ∧ (h j = none ∨ (j = r ∧ ¬ r = g_t0 G ∧ ∃ ws, h r = some (103, ws))) ∧ h' j = some (103, (vs ++ [v]).map Value.ref ++ List.replicate k .null) ∧ h' a = some (3, [.ref j, .int (nI (vs.length + 1)), .int m]) ∧ ∀ b, b ≠ j → b ≠ a → h' b = h b
theorem rl_set (vs : List Nat) (v k : Nat) : (vs.map Value.ref ++ List.replicate (k + 1) Value.null).set vs.length (.ref v) = (vs ++ [v]).map Value.ref ++ List.replicate k .null := by
  rw [List.set_append_right _ _ (by rw [List.length_map]; exact Nat.le_refl _), List.length_map, Nat.sub_self, List.replicate_succ, List.set_cons_zero, List.map_append, List.append_assoc]
  rfl
section LISTS2
variable {l : Launch} {G : ev_G} {h : ev_AH}
theorem sp_A_grow0 {a r : Nat} {m : Int32} {vs : List Nat} (hc : h a = some (3, [.ref r, .int (nI vs.length), .int m])) (hf : (r = g_t0 G ∧ vs = []) ∨ (¬ r = g_t0 G ∧ 0 < vs.length ∧ h r = some (103, vs.map Value.ref))) (hn : vs.length ≤ 59) (ho : ∀ v ∈ vs, rl_obj h v) :
    Mt l G M_A_grow0 [.ref a] h (ev_pr (fun q h' => h q = none ∧ ¬ q = g_t0 G ∧ ∃ k, 0 < k ∧ vs.length + k ≤ 100 ∧ ev_up (ev_up h q (103, vs.map Value.ref ++ List.replicate k .null)) a (3, [.ref q, .int (nI vs.length), .int m]) = h') (fun _ _ => False)) :=
  vA_grow0 ⟨nI vs.length, by rw [ev_f_at hc]; rfl, ⟨_, hc⟩, _, _, sp_A_grow1 hc hf hn ho, fun _ _ q => q, fun _ _ q => q.elim⟩
theorem sp_A_add1 {a r v : Nat} {m : Int32} {vs : List Nat} (hc : h a = some (3, [.ref r, .int (nI vs.length), .int m])) (hf : (r = g_t0 G ∧ vs = []) ∨ (¬ r = g_t0 G ∧ ∃ k, 0 < vs.length + k ∧ vs.length + k ≤ 100 ∧ h r = some (103, vs.map Value.ref ++ List.replicate k .null))) (hn : vs.length ≤ 59) (ho : ∀ v ∈ vs, rl_obj h v) (hv : rl_obj h v) (hva : v ≠ a) :
    Mt l G M_A_add1 [.ref a, .ref v, .ref r, .int (nI vs.length)] h (ev_pv (rl_AP G h a r vs v m) (fun _ _ => False)) := by
  have hnc : (nI vs.length).toNatClampNeg = vs.length := nI_clamp (by omega)
  have hlen : ∃ n1, ev_len G h r = some n1 ∧ (nI vs.length = nI n1 → (r = g_t0 G ∧ vs = []) ∨ (¬ r = g_t0 G ∧ 0 < vs.length ∧ h r = some (103, vs.map Value.ref))) ∧ (¬ nI vs.length = nI n1 → ¬ r = g_t0 G ∧ ∃ k, 0 < k ∧ vs.length + k ≤ 100 ∧ h r = some (103, vs.map Value.ref ++ List.replicate k .null)) := by
    rcases hf with ⟨h1, h2⟩ | ⟨h1, k, h2, hk1, h3⟩
    · refine ⟨0, by unfold ev_len; rw [if_pos h1], fun _ => Or.inl ⟨h1, h2⟩, fun z => absurd (by rw [h2]; rfl) z⟩
    · refine ⟨vs.length + k, by unfold ev_len; rw [if_neg h1, ev_n_at h3]; simp, fun z => ?_, fun z => ⟨h1, k, ?_, hk1, h3⟩⟩
      · by_cases hk : k = 0
        · subst hk
          exact Or.inr ⟨h1, by omega, by simpa using h3⟩
        · exfalso
          have := (nI_eq (by omega) (by omega)).mp z
          omega
      · rcases Nat.eq_zero_or_pos k with hk | hk
        · subst hk
          exact absurd rfl z
        · exact hk
  obtain ⟨n1, hl1, hl2, hl3⟩ := hlen
  refine vA_add1 ⟨n1, hl1, fun j h3 => ¬ j = g_t0 G ∧ (h j = none ∨ (j = r ∧ ¬ r = g_t0 G ∧ ∃ ws, h r = some (103, ws))) ∧ ∃ k, vs.length + 1 + k ≤ 100 ∧ h3 j = some (103, vs.map Value.ref ++ List.replicate (k + 1) .null) ∧ h3 a = some (3, [.ref j, .int (nI vs.length), .int m]) ∧ ∀ b, b ≠ j → b ≠ a → h3 b = h b, ?_, ?_, ?_⟩
  · rintro j h3 ⟨j1, j2, k, jk, j3, j4, j5⟩
    have hja : j ≠ a := fun z => by rw [z, j4] at j3; cases j3
    have hvj : v ≠ j := fun z => by
      obtain ⟨ci, fs, r9, z1, z2, z3⟩ := hv
      rcases j2 with y | ⟨y1, y2, ws, y3⟩
      · rw [z, y] at z1; cases z1
      · rw [z, y1, y3] at z1
        cases z1
        have := (List.getElem?_eq_some_iff.mp z2).1
        have := ev_cl_len
        omega
    have hv3 : ∃ (ci : Nat) (fs : List Value) (r : vw_C), h3 v = some (ci, fs) ∧ ev_cl[ci]? = some r ∧ (r.1, "java/lang/Object") ∈ ev_casts := by
      rw [j5 v hvj hva]
      exact hv
    refine ⟨.null, nI_pos (by omega), ?_, hv3, fun h6 e6 => ?_⟩
    · rw [hnc, ev_f_at j3, List.getElem?_append_right (by rw [List.length_map]; exact Nat.le_refl _), List.length_map, Nat.sub_self]
      rfl
    · rw [hnc, ev_s_eq j3, rl_set] at e6
      have h6a : h6 a = some (3, [.ref j, .int (nI vs.length), .int m]) := by rw [e6, ev_up_ne (Ne.symm hja)]; exact j4
      refine ⟨.int (nI vs.length), by rw [ev_f_at h6a]; rfl, fun h8 e8 => ⟨j, k, jk, j1, j2, ?_, ?_, fun b b1 b2 => ?_⟩⟩
      · rw [e8, ev_s_ne hja, e6, ev_up_at]
      · rw [e8, ev_s_at h6a, nI_1]
        rfl
      · rw [e8, ev_s_ne b2, e6, ev_up_ne b1]
        exact j5 b b1 b2
  · intro z
    obtain ⟨z1, k, z2, zk, z3⟩ := hl3 z
    obtain ⟨k', rfl⟩ : ∃ k', k = k' + 1 := ⟨k - 1, by omega⟩
    exact ⟨z1, Or.inr ⟨rfl, z1, _, z3⟩, k', by omega, z3, hc, fun _ _ _ => rfl⟩
  · intro z
    refine ⟨⟨_, hc⟩, _, _, sp_A_grow0 hc (hl2 z) hn ho, fun q h9 y => ?_, fun _ _ q => q.elim⟩
    obtain ⟨y1, y2, k, y3, yk, rfl⟩ := y
    obtain ⟨k', rfl⟩ : ∃ k', k = k' + 1 := ⟨k - 1, by omega⟩
    have hqa : q ≠ a := fun z => by rw [z, hc] at y1; cases y1
    exact ⟨y2, Or.inl y1, k', by omega, by rw [ev_up_ne hqa, ev_up_at], ev_up_at, fun b b1 b2 => by rw [ev_up_ne b2, ev_up_ne b1]⟩
/-- what a call leaves as it was: all but lists and their arrays; the other lists -/
def rl_FR (G : ev_G) (h : ev_AH) (ow : Nat → Nat) (a : Nat) (h' : ev_AH) (ow' : Nat → Nat) : Prop :=
  (∀ b c, h b = some c → c.1 ≠ 103 → b ≠ a → h' b = some c) ∧ ∀ b ws, b ≠ a → rl G h ow b ws → rl G h' ow' b ws
/-- add: the object stands last -/
theorem sp_A_add0 {a v : Nat} {ow : Nat → Nat} {vs : List Nat} (hl : rl G h ow a vs) (hn : vs.length ≤ 59) (ho : ∀ v ∈ vs, rl_obj h v) (hv : rl_obj h v) (hva : v ≠ a) :
    Mt l G M_A_add0 [.ref a, .ref v] h (ev_pi (fun r h' => ∃ ow', rl G h' ow' a (vs ++ [v]) ∧ rl_FR G h ow a h' ow') (fun _ _ => False)) := by
  obtain ⟨r, m, hc, hf⟩ := hl
  have e0 : ev_s h a 2 (.int (m + 1)) = ev_up h a (3, [.ref r, .int (nI vs.length), .int (m + 1)]) := ev_s_eq hc
  refine vA_add0 ⟨m, by rw [ev_f_at hc]; rfl, _, by rw [ev_f_at hc]; rfl, fun h3 e3 => ?_⟩
  rw [e0] at e3
  have hc3 : h3 a = some (3, [.ref r, .int (nI vs.length), .int (m + 1)]) := by rw [e3, ev_up_at]
  have h3n : ∀ b, b ≠ a → h3 b = h b := fun b z => by rw [e3, ev_up_ne z]
  have hra : ∀ ws, h r = some (103, ws) → r ≠ a := fun ws z y => by rw [y, hc] at z; cases z
  have ho3 : ∀ v, rl_obj h v → v ≠ a → rl_obj h3 v := fun v z y => by
    obtain ⟨ci, fs, r9, z1, z2⟩ := z
    exact ⟨ci, fs, r9, by rw [h3n v y]; exact z1, z2⟩
  have hoa : ∀ v ∈ vs, rl_obj h3 v := fun v hv => by
    by_cases y : v = a
    · subst y
      obtain ⟨ci, fs, r9, z1, z2, z3⟩ := ho v hv
      rw [hc] at z1
      cases z1
      exact ⟨3, _, r9, hc3, z2, z3⟩
    · exact ho3 v (ho v hv) y
  refine ⟨r, by rw [ev_f_at hc3]; rfl, nI vs.length, by rw [ev_f_at hc3]; rfl, ⟨_, hc3⟩, _, _, sp_A_add1 (m := m + 1) hc3 ?_ hn hoa (ho3 v hv hva) hva, fun h6 y => ?_, fun _ _ q => q.elim⟩
  · rcases hf with z | ⟨z1, z2, k, z3, z4, z5⟩
    · exact Or.inl z
    · exact Or.inr ⟨z1, k, z3, z4, by rw [h3n r (hra _ z5)]; exact z5⟩
  · obtain ⟨j, k, y1, y2, y3, y4, y5, y6⟩ := y
    have hja : j ≠ a := fun z => by rw [z, y5] at y4; cases y4
    have hj : h j = none ∨ (ow j = a ∧ ∃ ws, h j = some (103, ws)) := by
      rcases y3 with z | ⟨rfl, z1, ws, z2⟩
      · rw [h3n j hja] at z
        exact Or.inl z
      · rw [h3n j hja] at z2
        rcases hf with ⟨q1, -⟩ | ⟨-, q2, -⟩
        · exact absurd q1 z1
        · exact Or.inr ⟨q2, ws, z2⟩
    refine ⟨fun b => if b = j then a else ow b, ⟨j, m + 1, by rw [y5, List.length_append]; rfl, Or.inr ⟨y2, if_pos rfl, k, ?_, by rw [List.length_append]; exact y1, y4⟩⟩, fun b c z1 z2 z3 => ?_, fun b ws z1 z2 => ?_⟩
    · rw [List.length_append, List.length_singleton]
      omega
    · have hbj : b ≠ j := fun y => by
        subst y
        rcases hj with q | ⟨-, ws, q⟩
        · rw [q] at z1; cases z1
        · rw [q] at z1; cases z1; exact z2 rfl
      rw [y6 b hbj z3, h3n b z3]
      exact z1
    · obtain ⟨r2, m2, q1, q2⟩ := z2
      have hbj : b ≠ j := fun y => by
        subst y
        rcases hj with q | ⟨-, ws, q⟩
        · rw [q] at q1; cases q1
        · rw [q] at q1; cases q1
      refine ⟨r2, m2, by rw [y6 b hbj z1, h3n b z1]; exact q1, ?_⟩
      rcases q2 with q2 | ⟨p1, p2, k2, p3, p4, p5⟩
      · exact Or.inl q2
      · have hrj : r2 ≠ j := fun y => by
          subst y
          rcases hj with q | ⟨q, -⟩
          · rw [q] at p5; cases p5
          · exact z1 (p2.symm.trans q)
        have hr2a : r2 ≠ a := fun y => by rw [y, hc] at p5; cases p5
        exact Or.inr ⟨p1, by show (if r2 = j then a else ow r2) = b; rw [if_neg hrj]; exact p2, k2, p3, p4, by rw [y6 r2 hrj hr2a, h3n r2 hr2a]; exact p5⟩
theorem rl_setN (i n : Nat) (vs : List Nat) (k : Nat) (hi : i < vs.length) : (List.replicate i Value.null ++ (vs.drop i).map Value.ref ++ List.replicate k Value.null).set i Value.null = List.replicate (i + 1) Value.null ++ (vs.drop (i + 1)).map Value.ref ++ List.replicate k Value.null := by
  rw [List.drop_eq_getElem_cons hi, List.append_assoc, List.set_append_right _ _ (by rw [List.length_replicate]; exact Nat.le_refl _), List.length_replicate, Nat.sub_self]
  rw [List.map_cons, List.cons_append, List.set_cons_zero, List.replicate_succ', List.append_assoc, List.append_assoc]
  rfl
/-- clear's loop -/
theorem rl_clear {a r : Nat} {vs : List Nat} {k : Nat} {P : ev_Post} : ∀ (d i : Nat) (h : ev_AH), i + d = vs.length → vs.length ≤ 60 → (vs = [] ∨ h r = some (103, List.replicate i Value.null ++ (vs.drop i).map Value.ref ++ List.replicate k .null)) →
    (∀ h' : ev_AH, (vs = [] ∨ h' r = some (103, List.replicate (vs.length + k) Value.null)) → (∀ b, b ≠ r → h' b = h b) → (vs = [] → h' = h) → P (.inl none) h') →
    Ev l G M_A_clear 27 [(0, .ref a), (1, .ref r), (2, .int (nI vs.length)), (3, .int (nI i))] [] h 0 0 (ev_fin G M_A_clear P) := by
  intro d
  induction d with
  | zero =>
    intro i h hi hb hr hP
    obtain rfl : i = vs.length := by omega
    refine vA_clear_27 ⟨fun _ => hP h ?_ (fun _ _ => rfl) (fun _ => rfl), fun z => absurd (Int32.le_refl _) z⟩
    rcases hr with z | z
    · exact Or.inl z
    · refine Or.inr ?_
      rw [z, List.drop_length, List.map_nil, List.append_nil, List.replicate_append_replicate]
  | succ d ih =>
    intro i h hi hb hr hP
    have hlt : i < vs.length := by omega
    have hic : (nI i).toNatClampNeg = i := nI_clamp (by omega)
    have hr : h r = some (103, List.replicate i Value.null ++ (vs.drop i).map Value.ref ++ List.replicate k .null) := by
      rcases hr with z | z
      · rw [z] at hlt; exact absurd hlt (by simp)
      · exact z
    refine vA_clear_27 ⟨fun z => absurd z (nI_ge hlt (by omega)), fun _ => ⟨.ref vs[i], nI_pos (by omega), ?_, fun h2 e2 x ex => ?_⟩⟩
    · rw [hic, ev_f_at hr, List.append_assoc, List.getElem?_append_right (by rw [List.length_replicate]; exact Nat.le_refl _), List.length_replicate, Nat.sub_self, List.drop_eq_getElem_cons hlt]
      rfl
    · rw [hic, ev_s_eq hr, rl_setN i vs.length vs k hlt] at e2
      rw [nI_1] at ex
      subst ex
      refine ih (i + 1) h2 (by omega) hb (Or.inr (by rw [e2, ev_up_at])) (fun h' z1 z2 z3 => hP h' z1 (fun b y => ?_) (fun y => by rw [y] at hlt; exact absurd hlt (by simp)))
      rw [z2 b y, e2, ev_up_ne y]
/-- clear: nothing stands in it -/
theorem sp_A_clear {a : Nat} {ow : Nat → Nat} {vs : List Nat} (hl : rl G h ow a vs) (hn : vs.length ≤ 60) :
    Mt l G M_A_clear [.ref a] h (ev_pv (fun h' => rl G h' ow a [] ∧ rl_FR G h ow a h' ow) (fun _ _ => False)) := by
  obtain ⟨r, m, hc, hf⟩ := hl
  have e0 : ev_s h a 2 (.int (m + 1)) = ev_up h a (3, [.ref r, .int (nI vs.length), .int (m + 1)]) := ev_s_eq hc
  refine vA_clear ⟨m, by rw [ev_f_at hc]; rfl, _, by rw [ev_f_at hc]; rfl, fun h3 e3 => ?_⟩
  rw [e0] at e3
  have hc3 : h3 a = some (3, [.ref r, .int (nI vs.length), .int (m + 1)]) := by rw [e3, ev_up_at]
  refine ⟨r, by rw [ev_f_at hc3]; rfl, nI vs.length, by rw [ev_f_at hc3]; rfl, _, by rw [ev_f_at hc3]; rfl, fun h7 e7 => ?_⟩
  have hc7 : h7 a = some (3, [.ref r, .int (nI 0), .int (m + 1)]) := by rw [e7, ev_s_at hc3]; rfl
  have h7n : ∀ b, b ≠ a → h7 b = h b := fun b z => by rw [e7, ev_s_ne z, e3, ev_up_ne z]
  have hra : ∀ ws, h r = some (103, ws) → r ≠ a := fun ws z y => by rw [y, hc] at z; cases z
  obtain ⟨k, hk⟩ : ∃ k, vs = [] ∨ (¬ r = g_t0 G ∧ ow r = a ∧ 0 < vs.length + k ∧ vs.length + k ≤ 100 ∧ h r = some (103, vs.map Value.ref ++ List.replicate k .null)) := by
    rcases hf with ⟨-, z⟩ | ⟨z1, z2, k, z3⟩
    · exact ⟨0, Or.inl z⟩
    · exact ⟨k, Or.inr ⟨z1, z2, z3⟩⟩
  refine rl_clear (k := k) vs.length 0 h7 (by omega) hn ?_ (fun h' z1 z2 z3 => ?_)
  · rcases hk with z | ⟨-, -, -, -, z⟩
    · exact Or.inl z
    · refine Or.inr ?_
      rw [h7n r (hra _ z), z]
      simp
  · have hca : h' a = some (3, [.ref r, .int (nI 0), .int (m + 1)]) := by
      by_cases y : a = r
      · rcases hk with q | ⟨-, -, -, -, q⟩
        · rw [z3 q]; exact hc7
        · exact absurd y.symm (hra _ q)
      · rw [z2 a y]; exact hc7
    have hb : ∀ b, b ≠ a → h b = none ∨ (ow b ≠ a ∨ ∃ c, h b = some c ∧ c.1 ≠ 103) → h' b = h b := by
      intro b y1 y2
      rcases hk with q | ⟨-, q1, -, -, q2⟩
      · rw [z3 q, h7n b y1]
      · have hbr : b ≠ r := fun y => by
          subst y
          rcases y2 with y2 | y2 | ⟨c, y2, y3⟩
          · rw [y2] at q2; cases q2
          · exact y2 q1
          · rw [y2] at q2; cases q2; exact y3 rfl
        rw [z2 b hbr, h7n b y1]
    refine ⟨⟨r, m + 1, hca, ?_⟩, fun b c y1 y2 y3 => by rw [hb b y3 (Or.inr (Or.inr ⟨c, y1, y2⟩))]; exact y1, fun b ws y1 y2 => ?_⟩
    · rcases hf with ⟨q1, q2⟩ | ⟨q1, q2, k2, q3, q4, q5⟩
      · exact Or.inl ⟨q1, rfl⟩
      · refine Or.inr ⟨q1, q2, vs.length + k2, by simpa using q3, by simpa using q4, ?_⟩
        rcases hk with q | ⟨-, -, -, -, q⟩
        · rw [z3 q, h7n r (hra _ q5), q5, q]
          simp
        · have hkk : k = k2 := by
            have e := q.symm.trans q5
            have e1 := congrArg (fun c => (Option.map (fun d => List.length d.2) c)) e
            simp at e1
            exact e1
          subst hkk
          rcases z1 with y | y
          · rw [z3 y, h7n r (hra _ q5), q5, y]
            simp
          · rw [y]; rfl
    · obtain ⟨r2, m2, p1, p2⟩ := y2
      refine ⟨r2, m2, by rw [hb b y1 (Or.inr (Or.inr ⟨_, p1, fun y => by cases y⟩))]; exact p1, ?_⟩
      rcases p2 with p2 | ⟨p3, p4, k2, p5, p6, p7⟩
      · exact Or.inl p2
      · exact Or.inr ⟨p3, p4, k2, p5, p6, by rw [hb r2 (fun y => by rw [y, hc] at p7; cases p7) (Or.inr (Or.inl (fun y => y1 (p4.symm.trans y))))]; exact p7⟩
end LISTS2
