/-! THE REFERENCE: its cells as a function of the state -/
abbrev st_A : Type := Nat → Nat → Int32
def st_up (A : st_A) (f i : Nat) (v : Int32) : st_A := fun g j => if g = f ∧ j = i then v else A g j
def rm_F : List Nat := [2, 3, 4, 5, 6, 7, 8, 9, 10, 11, 13, 14, 15, 16, 17, 18, 19, 20, 21, 22]
def rm_n (f : Nat) : Nat := if f ≤ 10 then 20 else if f = 11 then 160 else 60
def rm_k (f : Nat) : Nat := if f = 21 ∨ f = 22 then 101 else 100
def rm_c (ma : Nat → Nat) (c no nl : Int32) : List Value := [.int c, .int no, .ref (ma 2), .ref (ma 3), .ref (ma 4), .ref (ma 5), .ref (ma 6), .ref (ma 7), .ref (ma 8), .ref (ma 9), .ref (ma 10), .ref (ma 11), .int nl, .ref (ma 13), .ref (ma 14), .ref (ma 15), .ref (ma 16), .ref (ma 17), .ref (ma 18), .ref (ma 19), .ref (ma 20), .ref (ma 21), .ref (ma 22)]
def rm_a (A : st_A) (f : Nat) : ev_Cel := (rm_k f, (List.range (rm_n f)).map (fun i => Value.int (A f i)))
def RH (m : Nat) (ma : Nat → Nat) (c no nl : Int32) (A : st_A) (h : ev_AH) : ev_AH := fun b => if b = m then some (4, rm_c ma c no nl) else match rm_F.find? (fun f => ma f == b) with
  | some f => some (rm_a A f)
  | none => h b
def rm_ok (m : Nat) (ma : Nat → Nat) : Prop := (∀ f ∈ rm_F, ma f ≠ m) ∧ ∀ f ∈ rm_F, ∀ g ∈ rm_F, ma f = ma g → f = g
section REF
variable {m : Nat} {ma : Nat → Nat} {c no nl : Int32} {A : st_A} {h : ev_AH}
theorem rh_m : RH m ma c no nl A h m = some (4, rm_c ma c no nl) := by unfold RH; rw [if_pos rfl]
theorem rh_fd (hg : rm_ok m ma) {f : Nat} (hf : f ∈ rm_F) : rm_F.find? (fun g => ma g == ma f) = some f := by
  cases e : rm_F.find? (fun g => ma g == ma f) with
  | none =>
    have := List.find?_eq_none.mp e f hf
    simp at this
  | some g =>
    have h1 := List.find?_some e
    have h2 := List.mem_of_find?_eq_some e
    rw [hg.2 g h2 f hf (by simpa using h1)]
theorem rh_at (hg : rm_ok m ma) {f : Nat} (hf : f ∈ rm_F) : RH m ma c no nl A h (ma f) = some (rm_a A f) := by
  unfold RH
  rw [if_neg (hg.1 f hf), rh_fd hg hf]
theorem rm_set (A : st_A) (f i : Nat) (v : Int32) : ((List.range (rm_n f)).map (fun i => Value.int (A f i))).set i (.int v) = (List.range (rm_n f)).map (fun j => Value.int (st_up A f i v f j)) := by
  apply List.ext_getElem?
  intro j
  rw [List.getElem?_set]
  by_cases hj : j < rm_n f
  · by_cases e : i = j
    · subst e
      simp [hj, st_up]
    · have e' : ¬ j = i := fun y => e y.symm
      simp [hj, st_up, e, e']
  · by_cases e : i = j
    · subst e
      simp [hj, st_up]
    · simp [hj, st_up, e]
theorem rh_s (hg : rm_ok m ma) {f i : Nat} {v : Int32} (hf : f ∈ rm_F) : ev_s (RH m ma c no nl A h) (ma f) i (.int v) = RH m ma c no nl (st_up A f i v) h := by
  funext b
  by_cases e : b = ma f
  · subst e
    rw [ev_s_at (ci := rm_k f) (fs := (List.range (rm_n f)).map (fun i => Value.int (A f i))) (rh_at hg hf), rh_at hg hf, rm_set]
    rfl
  · rw [ev_s_ne e]
    unfold RH
    split
    · rfl
    · split
      · next g hgg =>
        have h1 := List.find?_some hgg
        have hne : ¬ g = f := fun y => by subst y; simp at h1; exact e h1.symm
        unfold rm_a
        simp [st_up, hne]
      · rfl
theorem rh_s0 {v : Int32} : ev_s (RH m ma c no nl A h) m 0 (.int v) = RH m ma v no nl A h := by
  funext b
  by_cases e : b = m
  · subst e; rw [ev_s_at rh_m, rh_m]; rfl
  · rw [ev_s_ne e]; unfold RH; rw [if_neg e, if_neg e]
theorem rh_s1 {v : Int32} : ev_s (RH m ma c no nl A h) m 1 (.int v) = RH m ma c v nl A h := by
  funext b
  by_cases e : b = m
  · subst e; rw [ev_s_at rh_m, rh_m]; rfl
  · rw [ev_s_ne e]; unfold RH; rw [if_neg e, if_neg e]
theorem rh_s12 {v : Int32} : ev_s (RH m ma c no nl A h) m 12 (.int v) = RH m ma c no v A h := by
  funext b
  by_cases e : b = m
  · subst e; rw [ev_s_at rh_m, rh_m]; rfl
  · rw [ev_s_ne e]; unfold RH; rw [if_neg e, if_neg e]
theorem rh_fs : (∃ fs : List Value, RH m ma c no nl A h m = some (4, fs)) ↔ True := ⟨fun _ => trivial, fun _ => ⟨_, rh_m⟩⟩
theorem rh_rd (hg : rm_ok m ma) {f i : Nat} {w : Value} (hf : f ∈ rm_F) : ev_f (RH m ma c no nl A h) (ma f) (rm_k f) i = some w ↔ (i < rm_n f ∧ Value.int (A f i) = w) := by
  rw [ev_f_at (ci := rm_k f) (fs := (List.range (rm_n f)).map (fun i => Value.int (A f i))) (rh_at hg hf), List.getElem?_map]
  by_cases hi : i < rm_n f
  · rw [List.getElem?_range hi]; simp [hi]
  · rw [List.getElem?_eq_none (by rw [List.length_range]; omega)]; simp [hi]
theorem rh_ar (hg : rm_ok m ma) {f : Nat} {i v : Int32} (hf : f ∈ rm_F) (e : ev_f (RH m ma c no nl A h) m 4 f = some (.ref (ma f))) : ev_ar (RH m ma c no nl A h) m f i v ↔ (¬ i < 0 ∧ i.toNatClampNeg < rm_n f ∧ A f i.toNatClampNeg = v) := by
  unfold ev_ar
  rw [e]
  simp only [Option.some.injEq, Value.ref.injEq, exists_eq_left']
  have := rh_rd (c := c) (no := no) (nl := nl) (A := A) (h := h) (w := .int v) (i := i.toNatClampNeg) hg hf
  unfold rm_k at this
  rw [this]
  simp
theorem rh_0 : ev_f (RH m ma c no nl A h) m 4 0 = some (.int c) := by rw [ev_f_at rh_m]; rfl
theorem rh_1 : ev_f (RH m ma c no nl A h) m 4 1 = some (.int no) := by rw [ev_f_at rh_m]; rfl
theorem rh_2 : ev_f (RH m ma c no nl A h) m 4 2 = some (.ref (ma 2)) := by rw [ev_f_at rh_m]; rfl
theorem rh_3 : ev_f (RH m ma c no nl A h) m 4 3 = some (.ref (ma 3)) := by rw [ev_f_at rh_m]; rfl
theorem rh_4 : ev_f (RH m ma c no nl A h) m 4 4 = some (.ref (ma 4)) := by rw [ev_f_at rh_m]; rfl
theorem rh_5 : ev_f (RH m ma c no nl A h) m 4 5 = some (.ref (ma 5)) := by rw [ev_f_at rh_m]; rfl
theorem rh_6 : ev_f (RH m ma c no nl A h) m 4 6 = some (.ref (ma 6)) := by rw [ev_f_at rh_m]; rfl
theorem rh_7 : ev_f (RH m ma c no nl A h) m 4 7 = some (.ref (ma 7)) := by rw [ev_f_at rh_m]; rfl
theorem rh_8 : ev_f (RH m ma c no nl A h) m 4 8 = some (.ref (ma 8)) := by rw [ev_f_at rh_m]; rfl
theorem rh_9 : ev_f (RH m ma c no nl A h) m 4 9 = some (.ref (ma 9)) := by rw [ev_f_at rh_m]; rfl
theorem rh_10 : ev_f (RH m ma c no nl A h) m 4 10 = some (.ref (ma 10)) := by rw [ev_f_at rh_m]; rfl
theorem rh_11 : ev_f (RH m ma c no nl A h) m 4 11 = some (.ref (ma 11)) := by rw [ev_f_at rh_m]; rfl
theorem rh_12 : ev_f (RH m ma c no nl A h) m 4 12 = some (.int nl) := by rw [ev_f_at rh_m]; rfl
theorem rh_13 : ev_f (RH m ma c no nl A h) m 4 13 = some (.ref (ma 13)) := by rw [ev_f_at rh_m]; rfl
theorem rh_14 : ev_f (RH m ma c no nl A h) m 4 14 = some (.ref (ma 14)) := by rw [ev_f_at rh_m]; rfl
theorem rh_15 : ev_f (RH m ma c no nl A h) m 4 15 = some (.ref (ma 15)) := by rw [ev_f_at rh_m]; rfl
theorem rh_16 : ev_f (RH m ma c no nl A h) m 4 16 = some (.ref (ma 16)) := by rw [ev_f_at rh_m]; rfl
theorem rh_17 : ev_f (RH m ma c no nl A h) m 4 17 = some (.ref (ma 17)) := by rw [ev_f_at rh_m]; rfl
theorem rh_18 : ev_f (RH m ma c no nl A h) m 4 18 = some (.ref (ma 18)) := by rw [ev_f_at rh_m]; rfl
theorem rh_19 : ev_f (RH m ma c no nl A h) m 4 19 = some (.ref (ma 19)) := by rw [ev_f_at rh_m]; rfl
theorem rh_20 : ev_f (RH m ma c no nl A h) m 4 20 = some (.ref (ma 20)) := by rw [ev_f_at rh_m]; rfl
theorem rh_21 : ev_f (RH m ma c no nl A h) m 4 21 = some (.ref (ma 21)) := by rw [ev_f_at rh_m]; rfl
theorem rh_22 : ev_f (RH m ma c no nl A h) m 4 22 = some (.ref (ma 22)) := by rw [ev_f_at rh_m]; rfl
theorem rr_2 (hg : rm_ok m ma) {i : Nat} {w : Value} : ev_f (RH m ma c no nl A h) (ma 2) 100 i = some w ↔ (i < 20 ∧ Value.int (A 2 i) = w) := rh_rd (f := 2) hg (by decide)
theorem rs_2 (hg : rm_ok m ma) {i : Nat} {v : Int32} : ev_s (RH m ma c no nl A h) (ma 2) i (.int v) = RH m ma c no nl (st_up A 2 i v) h := rh_s (f := 2) hg (by decide)
theorem ra_2 (hg : rm_ok m ma) {i v : Int32} : ev_ar (RH m ma c no nl A h) m 2 i v ↔ (¬ i < 0 ∧ i.toNatClampNeg < 20 ∧ A 2 i.toNatClampNeg = v) := rh_ar (f := 2) hg (by decide) rh_2
theorem rr_3 (hg : rm_ok m ma) {i : Nat} {w : Value} : ev_f (RH m ma c no nl A h) (ma 3) 100 i = some w ↔ (i < 20 ∧ Value.int (A 3 i) = w) := rh_rd (f := 3) hg (by decide)
theorem rs_3 (hg : rm_ok m ma) {i : Nat} {v : Int32} : ev_s (RH m ma c no nl A h) (ma 3) i (.int v) = RH m ma c no nl (st_up A 3 i v) h := rh_s (f := 3) hg (by decide)
theorem ra_3 (hg : rm_ok m ma) {i v : Int32} : ev_ar (RH m ma c no nl A h) m 3 i v ↔ (¬ i < 0 ∧ i.toNatClampNeg < 20 ∧ A 3 i.toNatClampNeg = v) := rh_ar (f := 3) hg (by decide) rh_3
theorem rr_4 (hg : rm_ok m ma) {i : Nat} {w : Value} : ev_f (RH m ma c no nl A h) (ma 4) 100 i = some w ↔ (i < 20 ∧ Value.int (A 4 i) = w) := rh_rd (f := 4) hg (by decide)
theorem rs_4 (hg : rm_ok m ma) {i : Nat} {v : Int32} : ev_s (RH m ma c no nl A h) (ma 4) i (.int v) = RH m ma c no nl (st_up A 4 i v) h := rh_s (f := 4) hg (by decide)
theorem ra_4 (hg : rm_ok m ma) {i v : Int32} : ev_ar (RH m ma c no nl A h) m 4 i v ↔ (¬ i < 0 ∧ i.toNatClampNeg < 20 ∧ A 4 i.toNatClampNeg = v) := rh_ar (f := 4) hg (by decide) rh_4
theorem rr_5 (hg : rm_ok m ma) {i : Nat} {w : Value} : ev_f (RH m ma c no nl A h) (ma 5) 100 i = some w ↔ (i < 20 ∧ Value.int (A 5 i) = w) := rh_rd (f := 5) hg (by decide)
theorem rs_5 (hg : rm_ok m ma) {i : Nat} {v : Int32} : ev_s (RH m ma c no nl A h) (ma 5) i (.int v) = RH m ma c no nl (st_up A 5 i v) h := rh_s (f := 5) hg (by decide)
theorem ra_5 (hg : rm_ok m ma) {i v : Int32} : ev_ar (RH m ma c no nl A h) m 5 i v ↔ (¬ i < 0 ∧ i.toNatClampNeg < 20 ∧ A 5 i.toNatClampNeg = v) := rh_ar (f := 5) hg (by decide) rh_5
theorem rr_6 (hg : rm_ok m ma) {i : Nat} {w : Value} : ev_f (RH m ma c no nl A h) (ma 6) 100 i = some w ↔ (i < 20 ∧ Value.int (A 6 i) = w) := rh_rd (f := 6) hg (by decide)
theorem rs_6 (hg : rm_ok m ma) {i : Nat} {v : Int32} : ev_s (RH m ma c no nl A h) (ma 6) i (.int v) = RH m ma c no nl (st_up A 6 i v) h := rh_s (f := 6) hg (by decide)
theorem ra_6 (hg : rm_ok m ma) {i v : Int32} : ev_ar (RH m ma c no nl A h) m 6 i v ↔ (¬ i < 0 ∧ i.toNatClampNeg < 20 ∧ A 6 i.toNatClampNeg = v) := rh_ar (f := 6) hg (by decide) rh_6
theorem rr_7 (hg : rm_ok m ma) {i : Nat} {w : Value} : ev_f (RH m ma c no nl A h) (ma 7) 100 i = some w ↔ (i < 20 ∧ Value.int (A 7 i) = w) := rh_rd (f := 7) hg (by decide)
theorem rs_7 (hg : rm_ok m ma) {i : Nat} {v : Int32} : ev_s (RH m ma c no nl A h) (ma 7) i (.int v) = RH m ma c no nl (st_up A 7 i v) h := rh_s (f := 7) hg (by decide)
theorem ra_7 (hg : rm_ok m ma) {i v : Int32} : ev_ar (RH m ma c no nl A h) m 7 i v ↔ (¬ i < 0 ∧ i.toNatClampNeg < 20 ∧ A 7 i.toNatClampNeg = v) := rh_ar (f := 7) hg (by decide) rh_7
theorem rr_8 (hg : rm_ok m ma) {i : Nat} {w : Value} : ev_f (RH m ma c no nl A h) (ma 8) 100 i = some w ↔ (i < 20 ∧ Value.int (A 8 i) = w) := rh_rd (f := 8) hg (by decide)
theorem rs_8 (hg : rm_ok m ma) {i : Nat} {v : Int32} : ev_s (RH m ma c no nl A h) (ma 8) i (.int v) = RH m ma c no nl (st_up A 8 i v) h := rh_s (f := 8) hg (by decide)
theorem ra_8 (hg : rm_ok m ma) {i v : Int32} : ev_ar (RH m ma c no nl A h) m 8 i v ↔ (¬ i < 0 ∧ i.toNatClampNeg < 20 ∧ A 8 i.toNatClampNeg = v) := rh_ar (f := 8) hg (by decide) rh_8
theorem rr_9 (hg : rm_ok m ma) {i : Nat} {w : Value} : ev_f (RH m ma c no nl A h) (ma 9) 100 i = some w ↔ (i < 20 ∧ Value.int (A 9 i) = w) := rh_rd (f := 9) hg (by decide)
theorem rs_9 (hg : rm_ok m ma) {i : Nat} {v : Int32} : ev_s (RH m ma c no nl A h) (ma 9) i (.int v) = RH m ma c no nl (st_up A 9 i v) h := rh_s (f := 9) hg (by decide)
theorem ra_9 (hg : rm_ok m ma) {i v : Int32} : ev_ar (RH m ma c no nl A h) m 9 i v ↔ (¬ i < 0 ∧ i.toNatClampNeg < 20 ∧ A 9 i.toNatClampNeg = v) := rh_ar (f := 9) hg (by decide) rh_9
theorem rr_10 (hg : rm_ok m ma) {i : Nat} {w : Value} : ev_f (RH m ma c no nl A h) (ma 10) 100 i = some w ↔ (i < 20 ∧ Value.int (A 10 i) = w) := rh_rd (f := 10) hg (by decide)
theorem rs_10 (hg : rm_ok m ma) {i : Nat} {v : Int32} : ev_s (RH m ma c no nl A h) (ma 10) i (.int v) = RH m ma c no nl (st_up A 10 i v) h := rh_s (f := 10) hg (by decide)
theorem ra_10 (hg : rm_ok m ma) {i v : Int32} : ev_ar (RH m ma c no nl A h) m 10 i v ↔ (¬ i < 0 ∧ i.toNatClampNeg < 20 ∧ A 10 i.toNatClampNeg = v) := rh_ar (f := 10) hg (by decide) rh_10
theorem rr_11 (hg : rm_ok m ma) {i : Nat} {w : Value} : ev_f (RH m ma c no nl A h) (ma 11) 100 i = some w ↔ (i < 160 ∧ Value.int (A 11 i) = w) := rh_rd (f := 11) hg (by decide)
theorem rs_11 (hg : rm_ok m ma) {i : Nat} {v : Int32} : ev_s (RH m ma c no nl A h) (ma 11) i (.int v) = RH m ma c no nl (st_up A 11 i v) h := rh_s (f := 11) hg (by decide)
theorem ra_11 (hg : rm_ok m ma) {i v : Int32} : ev_ar (RH m ma c no nl A h) m 11 i v ↔ (¬ i < 0 ∧ i.toNatClampNeg < 160 ∧ A 11 i.toNatClampNeg = v) := rh_ar (f := 11) hg (by decide) rh_11
theorem rr_13 (hg : rm_ok m ma) {i : Nat} {w : Value} : ev_f (RH m ma c no nl A h) (ma 13) 100 i = some w ↔ (i < 60 ∧ Value.int (A 13 i) = w) := rh_rd (f := 13) hg (by decide)
theorem rs_13 (hg : rm_ok m ma) {i : Nat} {v : Int32} : ev_s (RH m ma c no nl A h) (ma 13) i (.int v) = RH m ma c no nl (st_up A 13 i v) h := rh_s (f := 13) hg (by decide)
theorem ra_13 (hg : rm_ok m ma) {i v : Int32} : ev_ar (RH m ma c no nl A h) m 13 i v ↔ (¬ i < 0 ∧ i.toNatClampNeg < 60 ∧ A 13 i.toNatClampNeg = v) := rh_ar (f := 13) hg (by decide) rh_13
theorem rr_14 (hg : rm_ok m ma) {i : Nat} {w : Value} : ev_f (RH m ma c no nl A h) (ma 14) 100 i = some w ↔ (i < 60 ∧ Value.int (A 14 i) = w) := rh_rd (f := 14) hg (by decide)
theorem rs_14 (hg : rm_ok m ma) {i : Nat} {v : Int32} : ev_s (RH m ma c no nl A h) (ma 14) i (.int v) = RH m ma c no nl (st_up A 14 i v) h := rh_s (f := 14) hg (by decide)
theorem ra_14 (hg : rm_ok m ma) {i v : Int32} : ev_ar (RH m ma c no nl A h) m 14 i v ↔ (¬ i < 0 ∧ i.toNatClampNeg < 60 ∧ A 14 i.toNatClampNeg = v) := rh_ar (f := 14) hg (by decide) rh_14
theorem rr_15 (hg : rm_ok m ma) {i : Nat} {w : Value} : ev_f (RH m ma c no nl A h) (ma 15) 100 i = some w ↔ (i < 60 ∧ Value.int (A 15 i) = w) := rh_rd (f := 15) hg (by decide)
theorem rs_15 (hg : rm_ok m ma) {i : Nat} {v : Int32} : ev_s (RH m ma c no nl A h) (ma 15) i (.int v) = RH m ma c no nl (st_up A 15 i v) h := rh_s (f := 15) hg (by decide)
theorem ra_15 (hg : rm_ok m ma) {i v : Int32} : ev_ar (RH m ma c no nl A h) m 15 i v ↔ (¬ i < 0 ∧ i.toNatClampNeg < 60 ∧ A 15 i.toNatClampNeg = v) := rh_ar (f := 15) hg (by decide) rh_15
theorem rr_16 (hg : rm_ok m ma) {i : Nat} {w : Value} : ev_f (RH m ma c no nl A h) (ma 16) 100 i = some w ↔ (i < 60 ∧ Value.int (A 16 i) = w) := rh_rd (f := 16) hg (by decide)
theorem rs_16 (hg : rm_ok m ma) {i : Nat} {v : Int32} : ev_s (RH m ma c no nl A h) (ma 16) i (.int v) = RH m ma c no nl (st_up A 16 i v) h := rh_s (f := 16) hg (by decide)
theorem ra_16 (hg : rm_ok m ma) {i v : Int32} : ev_ar (RH m ma c no nl A h) m 16 i v ↔ (¬ i < 0 ∧ i.toNatClampNeg < 60 ∧ A 16 i.toNatClampNeg = v) := rh_ar (f := 16) hg (by decide) rh_16
theorem rr_17 (hg : rm_ok m ma) {i : Nat} {w : Value} : ev_f (RH m ma c no nl A h) (ma 17) 100 i = some w ↔ (i < 60 ∧ Value.int (A 17 i) = w) := rh_rd (f := 17) hg (by decide)
theorem rs_17 (hg : rm_ok m ma) {i : Nat} {v : Int32} : ev_s (RH m ma c no nl A h) (ma 17) i (.int v) = RH m ma c no nl (st_up A 17 i v) h := rh_s (f := 17) hg (by decide)
theorem ra_17 (hg : rm_ok m ma) {i v : Int32} : ev_ar (RH m ma c no nl A h) m 17 i v ↔ (¬ i < 0 ∧ i.toNatClampNeg < 60 ∧ A 17 i.toNatClampNeg = v) := rh_ar (f := 17) hg (by decide) rh_17
theorem rr_18 (hg : rm_ok m ma) {i : Nat} {w : Value} : ev_f (RH m ma c no nl A h) (ma 18) 100 i = some w ↔ (i < 60 ∧ Value.int (A 18 i) = w) := rh_rd (f := 18) hg (by decide)
theorem rs_18 (hg : rm_ok m ma) {i : Nat} {v : Int32} : ev_s (RH m ma c no nl A h) (ma 18) i (.int v) = RH m ma c no nl (st_up A 18 i v) h := rh_s (f := 18) hg (by decide)
theorem ra_18 (hg : rm_ok m ma) {i v : Int32} : ev_ar (RH m ma c no nl A h) m 18 i v ↔ (¬ i < 0 ∧ i.toNatClampNeg < 60 ∧ A 18 i.toNatClampNeg = v) := rh_ar (f := 18) hg (by decide) rh_18
theorem rr_19 (hg : rm_ok m ma) {i : Nat} {w : Value} : ev_f (RH m ma c no nl A h) (ma 19) 100 i = some w ↔ (i < 60 ∧ Value.int (A 19 i) = w) := rh_rd (f := 19) hg (by decide)
theorem rs_19 (hg : rm_ok m ma) {i : Nat} {v : Int32} : ev_s (RH m ma c no nl A h) (ma 19) i (.int v) = RH m ma c no nl (st_up A 19 i v) h := rh_s (f := 19) hg (by decide)
theorem ra_19 (hg : rm_ok m ma) {i v : Int32} : ev_ar (RH m ma c no nl A h) m 19 i v ↔ (¬ i < 0 ∧ i.toNatClampNeg < 60 ∧ A 19 i.toNatClampNeg = v) := rh_ar (f := 19) hg (by decide) rh_19
theorem rr_20 (hg : rm_ok m ma) {i : Nat} {w : Value} : ev_f (RH m ma c no nl A h) (ma 20) 100 i = some w ↔ (i < 60 ∧ Value.int (A 20 i) = w) := rh_rd (f := 20) hg (by decide)
theorem rs_20 (hg : rm_ok m ma) {i : Nat} {v : Int32} : ev_s (RH m ma c no nl A h) (ma 20) i (.int v) = RH m ma c no nl (st_up A 20 i v) h := rh_s (f := 20) hg (by decide)
theorem ra_20 (hg : rm_ok m ma) {i v : Int32} : ev_ar (RH m ma c no nl A h) m 20 i v ↔ (¬ i < 0 ∧ i.toNatClampNeg < 60 ∧ A 20 i.toNatClampNeg = v) := rh_ar (f := 20) hg (by decide) rh_20
theorem rr_21 (hg : rm_ok m ma) {i : Nat} {w : Value} : ev_f (RH m ma c no nl A h) (ma 21) 101 i = some w ↔ (i < 60 ∧ Value.int (A 21 i) = w) := rh_rd (f := 21) hg (by decide)
theorem rs_21 (hg : rm_ok m ma) {i : Nat} {v : Int32} : ev_s (RH m ma c no nl A h) (ma 21) i (.int v) = RH m ma c no nl (st_up A 21 i v) h := rh_s (f := 21) hg (by decide)
theorem ra_21 (hg : rm_ok m ma) {i v : Int32} : ev_ar (RH m ma c no nl A h) m 21 i v ↔ (¬ i < 0 ∧ i.toNatClampNeg < 60 ∧ A 21 i.toNatClampNeg = v) := rh_ar (f := 21) hg (by decide) rh_21
theorem rr_22 (hg : rm_ok m ma) {i : Nat} {w : Value} : ev_f (RH m ma c no nl A h) (ma 22) 101 i = some w ↔ (i < 60 ∧ Value.int (A 22 i) = w) := rh_rd (f := 22) hg (by decide)
theorem rs_22 (hg : rm_ok m ma) {i : Nat} {v : Int32} : ev_s (RH m ma c no nl A h) (ma 22) i (.int v) = RH m ma c no nl (st_up A 22 i v) h := rh_s (f := 22) hg (by decide)
theorem ra_22 (hg : rm_ok m ma) {i v : Int32} : ev_ar (RH m ma c no nl A h) m 22 i v ↔ (¬ i < 0 ∧ i.toNatClampNeg < 60 ∧ A 22 i.toNatClampNeg = v) := rh_ar (f := 22) hg (by decide) rh_22
end REF
