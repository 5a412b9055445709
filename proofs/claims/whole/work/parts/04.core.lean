/-! CORE: one heap of the mind for all methods. A cell is (kind, contents); kinds below 100 are places in ev_cl, 100 + j is an array of the type ev_ty j. -/
abbrev ev_Cel : Type := Nat × List Value
abbrev ev_AH : Type := Nat → Option ev_Cel
/-- where the law's own cells begin; class numbers; slots; array classes; the empty list's array; the mirror of Object[]; the script: cell, length, ints -/
abbrev ev_G : Type := Nat × (Nat → ClassId) × (Nat → Nat → Nat) × (Nat → ClassId) × Nat × Nat × Nat × Nat × (Nat → Int32)
def g_B (G : ev_G) : Nat := G.1
abbrev g_D (G : ev_G) : va_G := (G.2.1, G.2.2.1)
def g_A (G : ev_G) : Nat → Prop := fun q => g_B G ≤ q
def g_dA (G : ev_G) : Nat → ClassId := G.2.2.2.1
def g_t0 (G : ev_G) : Nat := G.2.2.2.2.1
def g_mi (G : ev_G) : Nat := G.2.2.2.2.2.1
def g_sb (G : ev_G) : Nat := G.2.2.2.2.2.2.1
def g_sL (G : ev_G) : Nat := G.2.2.2.2.2.2.2.1
def g_xs (G : ev_G) : Nat → Int32 := G.2.2.2.2.2.2.2.2
def g_tys (G : ev_G) : List (ClassId × FieldType) := [(g_dA G 0, .int), (g_dA G 1, .boolean), (g_dA G 2, .long), (g_dA G 3, .object "java/lang/Object")]
def ev_at (G : ev_G) (a : Nat) (c : ev_Cel) (H : Heap) : Prop :=
  (∃ r : vw_C, ev_cl[c.1]? = some r ∧ c.2.length = r.2.2 ∧ t_OB a (G.2.1 c.1) r.2.2 (G.2.2.1 c.1) H (vp_V c.2)) ∨
  (∃ j : Nat, j < 4 ∧ c.1 = 100 + j ∧ H[a]? = some (arrV (g_dA G j) c.2.length (vp_V c.2)))
theorem ev_at.kept {G : ev_G} {a : Nat} {c : ev_Cel} {H H1 : Heap} (h : ev_at G a c H) (hq : H1[a]? = H[a]?) : ev_at G a c H1 := by
  rcases h with ⟨r, h1, h2, h3⟩ | ⟨j, h1, h2, h3⟩
  · exact Or.inl ⟨r, h1, h2, h3.kept hq⟩
  · exact Or.inr ⟨j, h1, h2, hq.trans h3⟩
theorem ev_at.lt {G : ev_G} {a : Nat} {c : ev_Cel} {H : Heap} (h : ev_at G a c H) : a < H.size := by
  rcases h with ⟨r, h1, h2, cell, h3, -⟩ | ⟨j, h1, h2, h3⟩
  · exact (Array.getElem?_eq_some_iff.mp h3).1
  · exact (Array.getElem?_eq_some_iff.mp h3).1
def ev_H (G : ev_G) (h : ev_AH) (H : Heap) : Prop := ∀ (a : Nat) (c : ev_Cel), h a = some c → g_B G ≤ a ∧ ev_at G a c H
def ev_up (h : ev_AH) (a : Nat) (c : ev_Cel) : ev_AH := fun b => if b = a then some c else h b
theorem ev_H.up {G : ev_G} {h : ev_AH} {H H1 : Heap} {a : Nat} {c : ev_Cel} (hH : ev_H G h H) (hB : g_B G ≤ a) (he : ev_at G a c H1) (oq : ∀ q : Nat, q ≠ a → H1[q]? = H[q]?) : ev_H G (ev_up h a c) H1 := by
  intro b d hb
  unfold ev_up at hb
  by_cases e : b = a
  · rw [if_pos e] at hb
    cases hb
    subst e
    exact ⟨hB, he⟩
  · rw [if_neg e] at hb
    exact ⟨(hH b d hb).1, (hH b d hb).2.kept (oq b e)⟩
theorem ev_H.fresh {G : ev_G} {h : ev_AH} {H : Heap} (hH : ev_H G h H) {q : Nat} (hq : H.size ≤ q) : h q = none := by
  cases e : h q with
  | none => rfl
  | some c => exact absurd (hH q c e).2.lt (by omega)
theorem ev_H.new {G : ev_G} {h : ev_AH} {H H1 : Heap} {c : ev_Cel} (hH : ev_H G h H) (hB : g_B G ≤ H.size) (he : ev_at G H.size c H1) (o1 : ∀ q : Nat, q < H.size → H1[q]? = H[q]?) : ev_H G (ev_up h H.size c) H1 := by
  intro b d hb
  unfold ev_up at hb
  by_cases e : b = H.size
  · rw [if_pos e] at hb
    cases hb
    subst e
    exact ⟨hB, he⟩
  · rw [if_neg e] at hb
    exact ⟨(hH b d hb).1, (hH b d hb).2.kept (o1 b (hH b d hb).2.lt)⟩
theorem ev_H.keep {G : ev_G} {h : ev_AH} {H H1 : Heap} (hH : ev_H G h H) (o1 : ∀ q : Nat, q < H.size → H1[q]? = H[q]?) : ev_H G h H1 :=
  fun b d hb => ⟨(hH b d hb).1, (hH b d hb).2.kept (o1 b (hH b d hb).2.lt)⟩
/-- what a cell of the kind ci holds at its place k -/
def ev_f (h : ev_AH) (a ci k : Nat) : Option Value := match h a with
  | some c => if c.1 = ci then c.2[k]? else none
  | none => none
/-- how many places a cell of the kind ci has -/
def ev_n (h : ev_AH) (a ci : Nat) : Option Nat := match h a with
  | some c => if c.1 = ci then some c.2.length else none
  | none => none
/-- a place of a cell written -/
def ev_s (h : ev_AH) (a k : Nat) (v : Value) : ev_AH := fun b => if b = a then (h a).map (fun c => (c.1, c.2.set k v)) else h b
theorem ev_f_of {h : ev_AH} {a ci k : Nat} {v : Value} (e : ev_f h a ci k = some v) : ∃ fs : List Value, h a = some (ci, fs) ∧ fs[k]? = some v := by
  unfold ev_f at e
  cases q : h a with
  | none => rw [q] at e; cases e
  | some c =>
    rw [q] at e
    by_cases z : c.1 = ci
    · simp only [z, if_true] at e
      exact ⟨c.2, by rw [← z], e⟩
    · simp only [z, if_false] at e
      cases e
theorem ev_n_of {h : ev_AH} {a ci n : Nat} (e : ev_n h a ci = some n) : ∃ fs : List Value, h a = some (ci, fs) ∧ fs.length = n := by
  unfold ev_n at e
  cases q : h a with
  | none => rw [q] at e; cases e
  | some c =>
    rw [q] at e
    by_cases z : c.1 = ci
    · simp only [z, if_true, Option.some.injEq] at e
      exact ⟨c.2, by rw [← z], e⟩
    · simp only [z, if_false] at e
      cases e
theorem ev_s_eq {h : ev_AH} {a ci k : Nat} {fs : List Value} {v : Value} (e : h a = some (ci, fs)) : ev_s h a k v = ev_up h a (ci, fs.set k v) := by
  funext b
  unfold ev_s ev_up
  by_cases z : b = a
  · rw [if_pos z, if_pos z, e]; rfl
  · rw [if_neg z, if_neg z]
/-! reading behind writing -/
theorem ev_f_s {h : ev_AH} {a b ci k j : Nat} {v w : Value} (e : ev_f h a ci k = some w) : ev_f (ev_s h a k v) b ci j = if b = a ∧ j = k then some v else ev_f h b ci j := by
  obtain ⟨fs, h1, h2⟩ := ev_f_of e
  by_cases z : b = a
  · subst z
    unfold ev_f ev_s
    rw [if_pos rfl, h1]
    have hl : k < fs.length := (List.getElem?_eq_some_iff.mp h2).1
    by_cases y : j = k
    · subst y
      simp [hl]
    · simp [y, Ne.symm y]
  · unfold ev_f ev_s
    rw [if_neg z, if_neg (fun q => z q.1)]
theorem ev_f_so {h : ev_AH} {a b ci cj k j : Nat} {v w : Value} (e : ev_f h a ci k = some w) (hc : cj ≠ ci) : ev_f (ev_s h a k v) b cj j = ev_f h b cj j := by
  obtain ⟨fs, h1, h2⟩ := ev_f_of e
  by_cases z : b = a
  · subst z
    unfold ev_f ev_s
    rw [if_pos rfl, h1]
    simp [Ne.symm hc]
  · unfold ev_f ev_s
    rw [if_neg z]
theorem ev_n_s {h : ev_AH} {a b cj k : Nat} {v : Value} : ev_n (ev_s h a k v) b cj = ev_n h b cj := by
  unfold ev_n ev_s
  by_cases z : b = a
  · subst z
    rw [if_pos rfl]
    cases h b with
    | none => rfl
    | some c => simp
  · rw [if_neg z]
theorem ev_f_up {h : ev_AH} {a b ci j : Nat} {c : ev_Cel} (hb : b ≠ a) : ev_f (ev_up h a c) b ci j = ev_f h b ci j := by
  unfold ev_f ev_up
  rw [if_neg hb]
theorem ev_f_upn {h : ev_AH} {a b ci j : Nat} {c : ev_Cel} {v : Value} (hn : h a = none) (e : ev_f h b ci j = some v) : ev_f (ev_up h a c) b ci j = some v := by
  have hb : b ≠ a := fun z => by
    subst z
    unfold ev_f at e
    rw [hn] at e
    cases e
  rw [ev_f_up hb]
  exact e
theorem ev_f_new {h : ev_AH} {a ci j : Nat} {fs : List Value} : ev_f (ev_up h a (ci, fs)) a ci j = fs[j]? := by
  unfold ev_f ev_up
  rw [if_pos rfl]
  simp
/-! the start's own things: statics, strings, the script -/
def ev_Low (G : ev_G) (U : State) (H : Heap) : Prop :=
  va_Z "java/util/ArrayList" "DEFAULTCAPACITY_EMPTY_ELEMENTDATA" "[Ljava/lang/Object;" (.ref (g_t0 G)) (g_A G) U H ∧
  va_T (.object "java/lang/Object") (g_t0 G) 0 (fun _ => .null) (g_A G) U H ∧
  vx_Zq Bundle.tN "UNASSIGNED_STACK" Bundle.steD (g_A G) U H ∧ vx_Zq Bundle.tN "SUPPRESSED_SENTINEL" Bundle.listD (g_A G) U H ∧
  (∀ q ∈ ev_strs, ∃ a : Nat, vk_R q.1 q.2.1 q.2.2 a U) ∧ va_Mi "[Ljava/lang/Object;" (g_mi G) U ∧ va_X (g_sb G) (g_sL G) (g_xs G) U H ∧ g_sb G < g_B G ∧ g_t0 G < g_B G ∧
  (∀ q ∈ ev_casts, va_Nw (.castable q.1 q.2) U) ∧ (∀ q ∈ ev_nocasts, va_Nc q.1 q.2 U) ∧ va_AO "java/lang/Object" U ∧ va_Dc U ∧ (∀ x ∈ ev_decls, va_Nw (.declares x) U)
