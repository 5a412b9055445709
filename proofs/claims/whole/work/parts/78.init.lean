/-! THE BEGINNING: both constructors -/
def st_0 : st_A := fun _ _ => 0
def ri_c (ma : Nat → Nat) (D : List Nat) : List Value := (List.range 23).map (fun f => if f ∈ D then Value.ref (ma f) else if f = 0 ∨ f = 1 ∨ f = 12 then .int 0 else .null)
/-- the reference half made: the arrays of the fields D are there -/
def ri (m : Nat) (h0 h : ev_AH) (ma : Nat → Nat) (D : List Nat) : Prop := h m = some (4, ri_c ma D) ∧ (∀ f ∈ D, ma f ≠ m ∧ h (ma f) = some (rm_a st_0 f)) ∧ (∀ f ∈ D, ∀ g ∈ D, ma f = ma g → f = g) ∧ ∀ b c, h0 b = some c → b ≠ m → h b = some c
theorem ri_c_f {ma : Nat → Nat} {D : List Nat} {f : Nat} (hf : f < 23) : ∃ w, (ri_c ma D)[f]? = some w := by
  unfold ri_c
  rw [List.getElem?_map, List.getElem?_range hf]
  exact ⟨_, rfl⟩
theorem ri_c_set {ma : Nat → Nat} {D : List Nat} {f q : Nat} (hf : f < 23) (hD : f ∉ D) : (ri_c ma D).set f (.ref q) = ri_c (ex ma f q) (f :: D) := by
  unfold ri_c
  apply List.ext_getElem?
  intro j
  rw [List.getElem?_set]
  by_cases hj : j < 23
  · by_cases e : f = j
    · subst e
      simp [hj, ex_at]
    · have e' : ¬ j = f := fun y => e y.symm
      simp [hj, e, e', ex_ne e']
  · have e : ¬ f = j := by omega
    simp [hj, e]
theorem ri_step {m : Nat} {h0 h : ev_AH} {ma : Nat → Nat} {D : List Nat} (r : ri m h0 h ma D) {f q : Nat} {c : ev_Cel} (hq : h q = none) {h2 : ev_AH} (e2 : h2 = ev_up h q c) (hf : f < 23) (hD : f ∉ D) (hc : c = rm_a st_0 f) : (∃ w, ev_f h2 m 4 f = some w) ∧ ri m h0 (ev_s h2 m f (.ref q)) (ex ma f q) (f :: D) := by
  subst e2
  obtain ⟨r1, r2, r3, r4⟩ := r
  have hmq : m ≠ q := fun y => by rw [y, hq] at r1; cases r1
  have e1 : ev_up h q c m = some (4, ri_c ma D) := by rw [ev_up_ne hmq]; exact r1
  obtain ⟨w, hw⟩ := ri_c_f (ma := ma) (D := D) hf
  have hk : ∀ g ∈ D, g ≠ f := fun g hg y => hD (y ▸ hg)
  have hg2 : ∀ g ∈ D, ma g ≠ q := fun g hg y => by have := (r2 g hg).2; rw [y, hq] at this; cases this
  refine ⟨⟨w, by rw [ev_f_at e1]; exact hw⟩, by rw [ev_s_at e1, ri_c_set hf hD], fun g hg => ?_, fun g hg g' hg' e => ?_, fun b cc e y => ?_⟩
  · rcases List.mem_cons.mp hg with rfl | hg
    · rw [ex_at]
      exact ⟨Ne.symm hmq, by rw [ev_s_ne (Ne.symm hmq), ev_up_at, hc]⟩
    · rw [ex_ne (hk g hg)]
      exact ⟨(r2 g hg).1, by rw [ev_s_ne (r2 g hg).1, ev_up_ne (hg2 g hg)]; exact (r2 g hg).2⟩
  · rcases List.mem_cons.mp hg with e1 | hg1
    · rcases List.mem_cons.mp hg' with e3 | hg3
      · rw [e1, e3]
      · rw [e1, ex_at, ex_ne (hk g' hg3)] at e
        exact absurd e.symm (hg2 g' hg3)
    · rcases List.mem_cons.mp hg' with e3 | hg3
      · rw [e3, ex_at, ex_ne (hk g hg1)] at e
        exact absurd e (hg2 g hg1)
      · rw [ex_ne (hk g hg1), ex_ne (hk g' hg3)] at e
        exact r3 g hg1 g' hg3 e
  · rw [ev_s_ne y, ev_up_ne (fun z => by have := r4 b cc e y; rw [z, hq] at this; cases this)]
    exact r4 b cc e y
section INIT
variable {l : Launch} {G : ev_G} {h : ev_AH}
theorem ri_end {m : Nat} {h0 h : ev_AH} {ma : Nat → Nat} (r : ri m h0 h ma [22, 21, 20, 19, 18, 17, 16, 15, 14, 13, 11, 10, 9, 8, 7, 6, 5, 4, 3, 2]) : RM m 0 0 st_0 0 h := by
  obtain ⟨r1, r2, r3, r4⟩ := r
  have hin : ∀ f ∈ rm_F, f ∈ [22, 21, 20, 19, 18, 17, 16, 15, 14, 13, 11, 10, 9, 8, 7, 6, 5, 4, 3, 2] := by decide
  refine ⟨ma, ⟨fun f hf => (r2 f (hin f hf)).1, fun f hf g hg => r3 f (hin f hf) g (hin g hg)⟩, (rm_iff ⟨fun f hf => (r2 f (hin f hf)).1, fun f hf g hg => r3 f (hin f hf) g (hin g hg)⟩).mpr ⟨?_, fun f hf => (r2 f (hin f hf)).2⟩⟩
  rw [r1]
  rfl
theorem sp_R_init {m : Nat} (hm : h m = none) : ∃ P : ev_AH → Prop, Mt l G M_R_init [.ref m] (ev_up h m (4, [.int 0, .int 0, .null, .null, .null, .null, .null, .null, .null, .null, .null, .null, .int 0, .null, .null, .null, .null, .null, .null, .null, .null, .null, .null])) (ev_pv P (fun _ _ => False)) ∧ ∀ h', P h' → RM m 0 0 st_0 0 h' ∧ ∀ b c, h b = some c → h' b = some c := by
  refine ⟨fun h' => RM m 0 0 st_0 0 h' ∧ ∀ b c, h b = some c → h' b = some c, vR_init ?_, fun _ y => y⟩
  have r0 : ri m h (ev_up h m (4, [.int 0, .int 0, .null, .null, .null, .null, .null, .null, .null, .null, .null, .null, .int 0, .null, .null, .null, .null, .null, .null, .null, .null, .null, .null])) (fun _ => 0) [] := ⟨by rw [ev_up_at]; rfl, fun f hf => (by cases hf), fun f hf => (by cases hf), fun b c e y => by rw [ev_up_ne y]; exact e⟩
  generalize ev_up h m (4, [.int 0, .int 0, .null, .null, .null, .null, .null, .null, .null, .null, .null, .null, .int 0, .null, .null, .null, .null, .null, .null, .null, .null, .null, .null]) = h1 at r0
  intro q hq h2 e2
  obtain ⟨⟨w, ew⟩, r1⟩ := ri_step (f := 2) r0 hq e2 (by decide) (by decide) rfl
  clear r0 hq e2
  refine ⟨w, ew, fun h4 e4 => ?_⟩
  rw [← e4] at r1
  clear ew e4
  intro q hq h2 e2
  obtain ⟨⟨w, ew⟩, r2⟩ := ri_step (f := 3) r1 hq e2 (by decide) (by decide) rfl
  clear r1 hq e2
  refine ⟨w, ew, fun h4 e4 => ?_⟩
  rw [← e4] at r2
  clear ew e4
  intro q hq h2 e2
  obtain ⟨⟨w, ew⟩, r3⟩ := ri_step (f := 4) r2 hq e2 (by decide) (by decide) rfl
  clear r2 hq e2
  refine ⟨w, ew, fun h4 e4 => ?_⟩
  rw [← e4] at r3
  clear ew e4
  intro q hq h2 e2
  obtain ⟨⟨w, ew⟩, r4⟩ := ri_step (f := 5) r3 hq e2 (by decide) (by decide) rfl
  clear r3 hq e2
  refine ⟨w, ew, fun h4 e4 => ?_⟩
  rw [← e4] at r4
  clear ew e4
  intro q hq h2 e2
  obtain ⟨⟨w, ew⟩, r5⟩ := ri_step (f := 6) r4 hq e2 (by decide) (by decide) rfl
  clear r4 hq e2
  refine ⟨w, ew, fun h4 e4 => ?_⟩
  rw [← e4] at r5
  clear ew e4
  intro q hq h2 e2
  obtain ⟨⟨w, ew⟩, r6⟩ := ri_step (f := 7) r5 hq e2 (by decide) (by decide) rfl
  clear r5 hq e2
  refine ⟨w, ew, fun h4 e4 => ?_⟩
  rw [← e4] at r6
  clear ew e4
  intro q hq h2 e2
  obtain ⟨⟨w, ew⟩, r7⟩ := ri_step (f := 8) r6 hq e2 (by decide) (by decide) rfl
  clear r6 hq e2
  refine ⟨w, ew, fun h4 e4 => ?_⟩
  rw [← e4] at r7
  clear ew e4
  intro q hq h2 e2
  obtain ⟨⟨w, ew⟩, r8⟩ := ri_step (f := 9) r7 hq e2 (by decide) (by decide) rfl
  clear r7 hq e2
  refine ⟨w, ew, fun h4 e4 => ?_⟩
  rw [← e4] at r8
  clear ew e4
  intro q hq h2 e2
  obtain ⟨⟨w, ew⟩, r9⟩ := ri_step (f := 10) r8 hq e2 (by decide) (by decide) rfl
  clear r8 hq e2
  refine ⟨w, ew, fun h4 e4 => ?_⟩
  rw [← e4] at r9
  clear ew e4
  intro q hq h2 e2
  obtain ⟨⟨w, ew⟩, r10⟩ := ri_step (f := 11) r9 hq e2 (by decide) (by decide) rfl
  clear r9 hq e2
  refine ⟨w, ew, fun h4 e4 => ?_⟩
  rw [← e4] at r10
  clear ew e4
  intro q hq h2 e2
  obtain ⟨⟨w, ew⟩, r11⟩ := ri_step (f := 13) r10 hq e2 (by decide) (by decide) rfl
  clear r10 hq e2
  refine ⟨w, ew, fun h4 e4 => ?_⟩
  rw [← e4] at r11
  clear ew e4
  intro q hq h2 e2
  obtain ⟨⟨w, ew⟩, r12⟩ := ri_step (f := 14) r11 hq e2 (by decide) (by decide) rfl
  clear r11 hq e2
  refine ⟨w, ew, fun h4 e4 => ?_⟩
  rw [← e4] at r12
  clear ew e4
  intro q hq h2 e2
  obtain ⟨⟨w, ew⟩, r13⟩ := ri_step (f := 15) r12 hq e2 (by decide) (by decide) rfl
  clear r12 hq e2
  refine ⟨w, ew, fun h4 e4 => ?_⟩
  rw [← e4] at r13
  clear ew e4
  intro q hq h2 e2
  obtain ⟨⟨w, ew⟩, r14⟩ := ri_step (f := 16) r13 hq e2 (by decide) (by decide) rfl
  clear r13 hq e2
  refine ⟨w, ew, fun h4 e4 => ?_⟩
  rw [← e4] at r14
  clear ew e4
  intro q hq h2 e2
  obtain ⟨⟨w, ew⟩, r15⟩ := ri_step (f := 17) r14 hq e2 (by decide) (by decide) rfl
  clear r14 hq e2
  refine ⟨w, ew, fun h4 e4 => ?_⟩
  rw [← e4] at r15
  clear ew e4
  intro q hq h2 e2
  obtain ⟨⟨w, ew⟩, r16⟩ := ri_step (f := 18) r15 hq e2 (by decide) (by decide) rfl
  clear r15 hq e2
  refine ⟨w, ew, fun h4 e4 => ?_⟩
  rw [← e4] at r16
  clear ew e4
  intro q hq h2 e2
  obtain ⟨⟨w, ew⟩, r17⟩ := ri_step (f := 19) r16 hq e2 (by decide) (by decide) rfl
  clear r16 hq e2
  refine ⟨w, ew, fun h4 e4 => ?_⟩
  rw [← e4] at r17
  clear ew e4
  intro q hq h2 e2
  obtain ⟨⟨w, ew⟩, r18⟩ := ri_step (f := 20) r17 hq e2 (by decide) (by decide) rfl
  clear r17 hq e2
  refine ⟨w, ew, fun h4 e4 => ?_⟩
  rw [← e4] at r18
  clear ew e4
  intro q hq h2 e2
  obtain ⟨⟨w, ew⟩, r19⟩ := ri_step (f := 21) r18 hq e2 (by decide) (by decide) rfl
  clear r18 hq e2
  refine ⟨w, ew, fun h4 e4 => ?_⟩
  rw [← e4] at r19
  clear ew e4
  intro q hq h2 e2
  obtain ⟨⟨w, ew⟩, r20⟩ := ri_step (f := 22) r19 hq e2 (by decide) (by decide) rfl
  clear r19 hq e2
  refine ⟨w, ew, fun h4 e4 => ?_⟩
  rw [← e4] at r20
  clear ew e4
  exact ⟨ri_end r20, fun b c e => r20.2.2.2 b c e (fun y => by rw [y, hm] at e; cases e)⟩
theorem sp_X_init {x : Nat} (hx : h x = none) : ∃ P : ev_AH → Prop, Mt l G M_X_init [.ref x] (ev_up h x (0, [.null, .null])) (ev_pv P (fun _ _ => False)) ∧ ∀ h', P h' → RX G x 0 0 st_0 h' ∧ ∀ b c, h b = some c → h' b = some c := by
  refine ⟨fun h' => RX G x 0 0 st_0 h' ∧ ∀ b c, h b = some c → h' b = some c, vX_init ?_, fun _ y => y⟩
  intro q1 hq1 h2 e2
  have x1 : x ≠ q1 := fun y => by rw [← y, ev_up_at] at hq1; cases hq1
  have hq1' : h q1 = none := by rw [ev_up_ne (Ne.symm x1)] at hq1; exact hq1
  refine ⟨_, sp_A_init (x := .null) (y := .int 0) (z := .int 0) (by rw [e2, ev_up_at]), fun h3 e3 => ?_⟩
  rw [e2, ev_up_up] at e3
  subst e3
  have f3 : ev_up (ev_up h x (0, [.null, .null])) q1 (3, [.ref (g_t0 G), .int 0, .int 0]) x = some (0, [.null, .null]) := by rw [ev_up_ne x1, ev_up_at]
  refine ⟨.null, by rw [ev_f_at f3]; rfl, fun h5 e5 => ?_⟩
  rw [us_2 x1] at e5
  intro q6 hq6 h7 e7
  have x6 : x ≠ q6 := fun y => by rw [← y, e5, ev_up_ne x1, ev_up_at] at hq6; cases hq6
  have q16 : q1 ≠ q6 := fun y => by rw [← y, e5, ev_up_at] at hq6; cases hq6
  have hq6' : h q6 = none := by rw [e5, ev_up_ne (Ne.symm q16), ev_up_ne (Ne.symm x6)] at hq6; exact hq6
  refine ⟨_, sp_A_init (x := .null) (y := .int 0) (z := .int 0) (by rw [e7, ev_up_at]), fun h8 e8 => ?_⟩
  rw [e7, ev_up_up] at e8
  subst e8
  have f8 : ev_up h5 q6 (3, [.ref (g_t0 G), .int 0, .int 0]) x = some (0, [.ref q1, .null]) := by rw [ev_up_ne x6, e5, ev_up_ne x1, ev_up_at]; rfl
  refine ⟨.null, by rw [ev_f_at f8]; rfl, fun h10 e10 => ?_⟩
  have g0 : h10 x = some (0, [.ref q1, .ref q6]) := by rw [e10, ev_s_at f8]; rfl
  have g1 : h10 q1 = some (3, [.ref (g_t0 G), .int 0, .int 0]) := by rw [e10, ev_s_ne (Ne.symm x1), ev_up_ne q16, e5, ev_up_at]
  have g6 : h10 q6 = some (3, [.ref (g_t0 G), .int 0, .int 0]) := by rw [e10, ev_s_ne (Ne.symm x6), ev_up_at]
  refine ⟨⟨q1, q6, fun _ => 0, fun _ => 0, fun _ => 0, fun _ => 0, ⟨⟨fun i hi => absurd hi (by omega), fun i hi => absurd hi (by omega)⟩, g0, fun i hi => absurd hi (by omega), fun i hi => absurd hi (by omega), ⟨_, 0, g1, Or.inl ⟨rfl, rfl⟩⟩, ⟨_, 0, g6, Or.inl ⟨rfl, rfl⟩⟩, fun i hi => absurd hi (by omega), q16, fun i hi => absurd hi (by omega), fun i hi => absurd hi (by omega)⟩, fun i hi => absurd hi (by omega), fun i hi => absurd hi (by omega)⟩, fun b c e => ?_⟩
  have bx : b ≠ x := fun y => by rw [y, hx] at e; cases e
  have b1 : b ≠ q1 := fun y => by rw [y, hq1'] at e; cases e
  have b6 : b ≠ q6 := fun y => by rw [y, hq6'] at e; cases e
  rw [e10, ev_s_ne bx, ev_up_ne b6, e5, ev_up_ne b1, ev_up_ne bx]
  exact e
theorem st_I_00 : st_I 0 0 st_0 := ⟨⟨by decide, by decide⟩, fun j hj => absurd hj (by omega), fun j hj => absurd hj (by omega), fun j hj => absurd hj (by omega), fun j hj => absurd hj (by omega), fun j hj => absurd hj (by omega), fun i _ => ⟨rfl, rfl⟩, fun i _ => ⟨rfl, rfl, rfl, rfl⟩⟩
end INIT
