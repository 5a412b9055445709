/-! LISTS: java/util/ArrayList as a list of references -/
/-- the list at a holds the objects vs; ow: whose an array is -/
def rl (G : ev_G) (h : ev_AH) (ow : Nat → Nat) (a : Nat) (vs : List Nat) : Prop :=
  ∃ (r : Nat) (m : Int32), h a = some (3, [.ref r, .int (nI vs.length), .int m]) ∧ ((r = g_t0 G ∧ vs = []) ∨ (¬ r = g_t0 G ∧ ow r = a ∧ ∃ k, 0 < vs.length + k ∧ vs.length + k ≤ 100 ∧ h r = some (103, vs.map Value.ref ++ List.replicate k .null)))
/-- objects that an Object[] may hold -/
def rl_obj (h : ev_AH) (v : Nat) : Prop := ∃ (ci : Nat) (fs : List Value) (r : vw_C), h v = some (ci, fs) ∧ ev_cl[ci]? = some r ∧ (r.1, "java/lang/Object") ∈ ev_casts
theorem rl_ord {h : ev_AH} {v : Nat} {fs : List Value} (e : h v = some (1, fs)) : rl_obj h v := ⟨1, fs, _, e, rfl, by decide +kernel⟩
theorem rl_lin {h : ev_AH} {v : Nat} {fs : List Value} (e : h v = some (2, fs)) : rl_obj h v := ⟨2, fs, _, e, rfl, by decide +kernel⟩
theorem ev_f_at {h : ev_AH} {a ci k : Nat} {fs : List Value} (e : h a = some (ci, fs)) : ev_f h a ci k = fs[k]? := by
  unfold ev_f
  rw [e]
  simp
theorem ev_n_at {h : ev_AH} {a ci : Nat} {fs : List Value} (e : h a = some (ci, fs)) : ev_n h a ci = some fs.length := by
  unfold ev_n
  rw [e]
  simp
theorem ev_up_at {h : ev_AH} {a : Nat} {c : ev_Cel} : ev_up h a c a = some c := by unfold ev_up; rw [if_pos rfl]
theorem ev_up_ne {h : ev_AH} {a b : Nat} {c : ev_Cel} (z : b ≠ a) : ev_up h a c b = h b := by unfold ev_up; rw [if_neg z]
theorem ev_up_up {h : ev_AH} {a : Nat} {c d : ev_Cel} : ev_up (ev_up h a c) a d = ev_up h a d := by
  funext b
  unfold ev_up
  split <;> rfl
theorem ev_s_at {h : ev_AH} {a ci k : Nat} {fs : List Value} {v : Value} (e : h a = some (ci, fs)) : ev_s h a k v a = some (ci, fs.set k v) := by
  unfold ev_s
  rw [if_pos rfl, e]
  rfl
theorem ev_s_ne {h : ev_AH} {a b k : Nat} {v : Value} (z : b ≠ a) : ev_s h a k v b = h b := by unfold ev_s; rw [if_neg z]
section LISTS
variable {l : Launch} {G : ev_G} {h : ev_AH}
theorem sp_Ac_init {a : Nat} : Mt l G M_Ac_init [.ref a] h (ev_pv (fun h' => h = h') (fun _ _ => False)) := vAc_init rfl
theorem sp_Al_init {a : Nat} {w : Value} (g : ev_f h a 3 2 = some w) : Mt l G M_Al_init [.ref a] h (ev_pv (fun h' => ev_s h a 2 (.int 0) = h') (fun _ _ => False)) :=
  vAl_init ⟨_, sp_Ac_init, fun h1 e => by subst e; exact ⟨w, g, fun h3 e => e.symm⟩⟩
/-- ArrayList(): an empty list -/
theorem sp_A_init {a : Nat} {x y z : Value} (e : h a = some (3, [x, y, z])) : Mt l G M_A_init [.ref a] h (ev_pv (fun h' => ev_up h a (3, [.ref (g_t0 G), y, .int 0]) = h') (fun _ _ => False)) := by
  refine vA_init ⟨_, sp_Al_init (w := z) (by rw [ev_f_at e]; rfl), fun h1 e1 => ?_⟩
  subst e1
  have e2 : ev_s h a 2 (.int 0) = ev_up h a (3, [x, y, .int 0]) := ev_s_eq e
  refine ⟨x, by rw [e2, ev_f_new]; rfl, fun h3 e3 => ?_⟩
  rw [e3, e2, ev_s_eq ev_up_at, ev_up_up]
  rfl
theorem sp_Js_newLength {n : Nat} (hn : 0 < n) (hm : n ≤ 59) : Mt l G M_Js_newLength [.int (nI n), .int (nI (n + 1) - nI n), .int (nI n >>> (1 &&& 31))] h (ev_pi (fun r h' => h = h' ∧ nI (n + max 1 (n / 2)) = r) (fun _ _ => False)) := by
  refine vJs_newLength ?_
  have e1 : nI (n + 1) - nI n = nI 1 := by
    have k := pk_sub (a := n + 1) (b := n) (by omega)
    rw [Nat.add_sub_cancel_left] at k
    exact k
  have e2 : nI n >>> ((1 : Int32) &&& 31) = nI (n / 2) := by
    have k := pk_shrN (n := n) (by omega) ((1 : Int32) &&& 31) 1 (by decide)
    rw [Nat.pow_one] at k
    exact k
  have e3 : nI n + (if nI 1 < nI (n / 2) then nI (n / 2) else nI 1) = nI (n + max 1 (n / 2)) := by
    by_cases z : 1 < n / 2
    · rw [if_pos (nI_lt z (by omega)), nI_add, Nat.max_eq_right (by omega)]
    · rw [if_neg (nI_nlt (by omega) (by decide)), nI_add, Nat.max_eq_left (by omega)]
  rw [e1, e2]
  intro x e
  rw [e3] at e
  subst e
  have hb : n + max 1 (n / 2) < 100 := by omega
  refine ⟨fun z => absurd z (nI_nle (by omega) (by omega)), fun _ => ⟨fun z => absurd z ?_, fun _ => ⟨rfl, rfl⟩⟩⟩
  exact (show ¬ nI 2147483639 < nI (n + max 1 (n / 2)) from nI_nlt (by omega) (by decide))
theorem ev_elems_new {ws : List Value} {k q : Nat} {c : ev_Cel} (hq : h q = none) (he : ev_elems h ws k) : ev_elems (ev_up h q c) ws k := by
  intro i hi
  rcases he i hi with z | ⟨v, ci, fs, r, z1, z2, z3, z4⟩
  · exact Or.inl z
  · refine Or.inr ⟨v, ci, fs, r, z1, ?_, z3, z4⟩
    rw [ev_up_ne (fun y => by rw [y, hq] at z2; cases z2)]
    exact z2
theorem sp_Ja_copyOf1 {r N : Nat} {ws : List Value} (hr : h r = some (103, ws)) (ht : ¬ r = g_t0 G) (h1 : ws.length ≤ N) (h2 : N ≤ 90) (he : ev_elems h ws ws.length) : Mt l G M_Ja_copyOf1 [.ref r, .int (nI N), .ref (g_mi G)] h (ev_pr (fun q h' => h q = none ∧ ¬ q = g_t0 G ∧ ev_up h q (103, ws ++ List.replicate (N - ws.length) .null) = h') (fun _ _ => False)) := by
  refine vJa_copyOf1 ⟨fun z => z rfl, fun _ => ⟨N, rfl, h2, fun q hq hqt h3 e3 => ?_⟩⟩
  subst e3
  have hrq : r ≠ q := fun y => by rw [y, hq] at hr; cases hr
  have hr3 : ev_up h q (103, List.replicate N .null) r = some (103, ws) := by rw [ev_up_ne hrq]; exact hr
  refine ⟨ws.length, ?_, ws.length, ws, List.replicate N .null, ?_, hr3, ev_up_at, Nat.le_refl _, by rw [List.length_replicate]; exact h1, by omega, ev_elems_new hq he, fun h5 e5 => ⟨hq, hqt, ?_⟩⟩
  · unfold ev_len
    rw [if_neg ht, ev_n_at hr3]
  · rw [if_neg (nI_nlt h1 (by omega))]
  · rw [e5, ev_up_up, List.take_length, List.drop_replicate]
theorem sp_Ja_copyOf0 {r N : Nat} {ws : List Value} (hr : h r = some (103, ws)) (ht : ¬ r = g_t0 G) (h1 : ws.length ≤ N) (h2 : N ≤ 90) (he : ev_elems h ws ws.length) : Mt l G M_Ja_copyOf0 [.ref r, .int (nI N)] h (ev_pr (fun q h' => h q = none ∧ ¬ q = g_t0 G ∧ ev_up h q (103, ws ++ List.replicate (N - ws.length) .null) = h') (fun _ _ => False)) :=
  vJa_copyOf0 ⟨ws.length, ev_n_at hr, _, _, sp_Ja_copyOf1 hr ht h1 h2 he, fun _ _ q => q, fun _ _ q => q.elim⟩
/-- a full list grows -/
theorem sp_A_grow1 {a r : Nat} {m : Int32} {vs : List Nat} (hc : h a = some (3, [.ref r, .int (nI vs.length), .int m])) (hf : (r = g_t0 G ∧ vs = []) ∨ (¬ r = g_t0 G ∧ 0 < vs.length ∧ h r = some (103, vs.map Value.ref))) (hn : vs.length ≤ 59) (ho : ∀ v ∈ vs, rl_obj h v) :
    Mt l G M_A_grow1 [.ref a, .int (nI vs.length + 1)] h (ev_pr (fun q h' => h q = none ∧ ¬ q = g_t0 G ∧ ∃ k, 0 < k ∧ vs.length + k ≤ 100 ∧ ev_up (ev_up h q (103, vs.map Value.ref ++ List.replicate k .null)) a (3, [.ref q, .int (nI vs.length), .int m]) = h') (fun _ _ => False)) := by
  have f0 : ev_f h a 3 0 = some (.ref r) := by rw [ev_f_at hc]; rfl
  have fin : ∀ (q : Nat) (c : ev_Cel), h q = none → ev_f (ev_up h q c) a 3 0 = some (.ref r) ∧ ev_s (ev_up h q c) a 0 (.ref q) = ev_up (ev_up h q c) a (3, [.ref q, .int (nI vs.length), .int m]) := by
    intro q c hq
    have haq : a ≠ q := fun y => by rw [y, hq] at hc; cases hc
    have hc' : ev_up h q c a = some (3, [.ref r, .int (nI vs.length), .int m]) := by rw [ev_up_ne haq]; exact hc
    exact ⟨by rw [ev_f_at hc']; rfl, ev_s_eq hc'⟩
  rcases hf with ⟨rfl, rfl⟩ | ⟨ht, hpos, hr⟩
  · refine vA_grow1 ⟨_, f0, 0, by unfold ev_len; rw [if_pos rfl], fun x e => ?_⟩
    subst e
    refine ⟨fun z => absurd z (by decide), fun _ => ⟨_, f0, fun _ => ⟨10, by decide, by decide, fun q hq hqt h1 e1 => ?_⟩, fun z => absurd rfl z⟩⟩
    subst e1
    obtain ⟨z1, z2⟩ := fin q (103, List.replicate 10 .null) hq
    refine ⟨_, z1, fun h2 e2 => ⟨hq, hqt, 10, by decide, by decide, ?_⟩⟩
    rw [e2, z2]
    rfl
  · refine vA_grow1 ⟨r, f0, vs.length, by unfold ev_len; rw [if_neg ht, ev_n_at hr, List.length_map], fun x e => ?_⟩
    subst e
    refine ⟨fun _ => ?_, fun z => absurd (show nI 0 < nI vs.length from nI_lt hpos (by omega)) z⟩
    have e1 : nI vs.length + 1 = nI (vs.length + 1) := nI_1 _
    rw [e1]
    refine ⟨_, _, sp_Js_newLength hpos hn, fun r5 h4 q => ?_, fun _ _ q => q.elim⟩
    obtain ⟨rfl, rfl⟩ := q
    have hel : ev_elems h (vs.map Value.ref) (vs.map Value.ref).length := by
      intro i hi
      rw [List.length_map] at hi
      obtain ⟨ci, fs, r9, z1, z2, z3⟩ := ho vs[i] (List.getElem_mem hi)
      exact Or.inr ⟨vs[i], ci, fs, r9, by rw [List.getElem?_map, List.getElem?_eq_getElem hi]; rfl, z1, z2, z3⟩
    refine ⟨r, f0, _, _, sp_Ja_copyOf0 (N := vs.length + max 1 (vs.length / 2)) hr ht (by rw [List.length_map]; omega) (by omega) hel, fun q h7 y => ?_, fun _ _ q => q.elim⟩
    obtain ⟨hq, hqt, rfl⟩ := y
    rw [List.length_map]
    obtain ⟨z1, z2⟩ := fin q (103, vs.map Value.ref ++ List.replicate (vs.length + max 1 (vs.length / 2) - vs.length) .null) hq
    refine ⟨_, z1, fun h2 e2 => ⟨hq, hqt, vs.length + max 1 (vs.length / 2) - vs.length, by omega, by omega, ?_⟩⟩
    rw [e2, z2]
end LISTS
