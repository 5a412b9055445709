/-! HEAP ROWS: fields, arrays, new cells, answers -/
/-- a class of the list: its words are there, its fields' types, their names apart -/
def ev_cls (ci : Nat) (r : vw_C) (ty : Nat → FieldType) : Prop := ev_cl[ci]? = some r ∧ (∀ w ∈ u_ws r.1 r.2.1 r.2.2, w ∈ ev_TB) ∧ (∀ k, k < r.2.2 → parseFieldDescriptor (r.2.1 k).2.2.1 = some (ty k)) ∧ ∀ a, a < r.2.2 → ∀ b, b < r.2.2 → a ≠ b → (r.2.1 a).2.1 ≠ (r.2.1 b).2.1
/-- the pool's place idx of the class own names field k of class ci -/
def ev_FL (own : String) (idx ci k : Nat) : Prop := ∃ (r : vw_C) (ty : Nat → FieldType) (ref : String), ev_cls ci r ty ∧ k < r.2.2 ∧ Cond.fieldLink own idx ref (r.2.1 k).2.1 (r.2.1 k).2.2.1 ∈ ev_TB ∧ (ref = (r.2.1 k).1 ∨ Cond.sameField ref (r.2.1 k).1 (r.2.1 k).2.1 (r.2.1 k).2.2.1 ∈ ev_TB)
/-- .. and it may be written: its type -/
def ev_FP (own : String) (idx ci k : Nat) (ft : FieldType) : Prop := ∃ (r : vw_C) (ty : Nat → FieldType) (ref : String), ev_cls ci r ty ∧ k < r.2.2 ∧ Cond.fieldLink own idx ref (r.2.1 k).2.1 (r.2.1 k).2.2.1 ∈ ev_TB ∧ (ref = (r.2.1 k).1 ∨ Cond.sameField ref (r.2.1 k).1 (r.2.1 k).2.1 (r.2.1 k).2.2.1 ∈ ev_TB) ∧ (r.2.1 k).2.2.2 = false ∧ ty k = ft
/-- .. a final one, in its class's constructor -/
def ev_FF (own : String) (idx ci k : Nat) (ft : FieldType) : Prop := ∃ (r : vw_C) (ty : Nat → FieldType) (ref : String), ev_cls ci r ty ∧ k < r.2.2 ∧ Cond.fieldLink own idx ref (r.2.1 k).2.1 (r.2.1 k).2.2.1 ∈ ev_TB ∧ ref = (r.2.1 k).1 ∧ (r.2.1 k).2.2.2 = true ∧ (r.2.1 k).1 = own ∧ ty k = ft
/-- 'new' of class ci by the pool's place idx; its fields at first -/
def ev_NW (own : String) (idx ci : Nat) (fs : List Value) : Prop := ∃ (r : vw_C) (ty : Nat → FieldType), ev_cls ci r ty ∧ Cond.classLink own idx r.1 ∈ ev_TB ∧ Cond.instantiable r.1 r.2.2 ∈ ev_TB ∧ Cond.initialized r.1 ∈ ev_TB ∧ fs.length = r.2.2 ∧ ∀ j, j < r.2.2 → defaultValue (ty j) = vp_V fs j
theorem ev_obj {G : ev_G} {h : ev_AH} {H : Heap} {a ci : Nat} {fs : List Value} {r : vw_C} (hH : ev_H G h H) (e : h a = some (ci, fs)) (hr : ev_cl[ci]? = some r) : g_A G a ∧ fs.length = r.2.2 ∧ t_OB a (G.2.1 ci) r.2.2 (G.2.2.1 ci) H (vp_V fs) := by
  obtain ⟨hB, hat⟩ := hH a _ e
  rcases hat with ⟨r', g1, g2, g3⟩ | ⟨j, j1, j2, -⟩
  · have hrr : r' = r := Option.some.inj (g1.symm.trans hr)
    subst hrr
    exact ⟨hB, g2, g3⟩
  · have hlt : ci < ev_cl.length := (List.getElem?_eq_some_iff.mp hr).1
    have hle := ev_cl_len
    have j3 : ci = 100 + j := j2
    omega
theorem ev_arr {G : ev_G} {h : ev_AH} {H : Heap} {a j : Nat} {vs : List Value} (hH : ev_H G h H) (e : h a = some (100 + j, vs)) : g_A G a ∧ j < 4 ∧ H[a]? = some (arrV (g_dA G j) vs.length (vp_V vs)) := by
  obtain ⟨hB, hat⟩ := hH a _ e
  rcases hat with ⟨r', g1, g2, g3⟩ | ⟨i, j1, j2, j3⟩
  · have hlt : 100 + j < ev_cl.length := (List.getElem?_eq_some_iff.mp g1).1
    have hle := ev_cl_len
    omega
  · have hij : i = j := by
      have z : 100 + j = 100 + i := j2
      omega
    subst hij
    exact ⟨hB, j1, j3⟩
theorem ev_one {D : va_G} {cl : List vw_C} {a : Nat} {e : va_E} {H : Heap} (h : va_at D cl (a, e) H) : va_P D cl [(a, e)] H := by
  intro k q hk
  cases k with
  | zero => cases hk; exact h
  | succ k => simp at hk
theorem ev_tyAt (G : ev_G) : (g_tys G)[0]? = some (g_dA G 0, .int) ∧ (g_tys G)[1]? = some (g_dA G 1, .boolean) ∧ (g_tys G)[2]? = some (g_dA G 2, .long) ∧ (g_tys G)[3]? = some (g_dA G 3, .object "java/lang/Object") := ⟨rfl, rfl, rfl, rfl⟩
theorem ev_arrSet {cA : ClassId} {vs : List Value} {k : Nat} (v : Value) (hk : k < vs.length) : (arrV cA vs.length (vp_V vs)).setSlot k v = arrV cA (vs.set k v).length (vp_V (vs.set k v)) := by
  rw [arrV_store, List.length_set]
  congr 1
  funext j
  exact vp_updV_set hk v j
theorem ev_arrEq {cA : ClassId} {n : Nat} {f g : Nat → Value} (h : ∀ j, j < n → f j = g j) : arrV cA n f = arrV cA n g := by
  unfold arrV
  congr 2
  funext j
  exact h j.val j.isLt
theorem ev_rep (cA : ClassId) (n : Nat) (x : Value) : some (arrV cA n (fun _ => x)) = some (arrV cA (List.replicate n x).length (vp_V (List.replicate n x))) := by
  rw [List.length_replicate]
  exact congrArg some (ev_arrEq fun j hj => by simp [vp_V, hj])
section HROWS
variable {l : Launch} {G : ev_G} {M : ev_M} {pc : Nat} {ls : List (Nat × Value)} {st : List Value} {h : ev_AH} {uc us : Nat} {Q : ev_Fin} {P : ev_Post}
theorem e_get {idx ci k a : Nat} {v : Value} (hd : decode (m_cc M) pc = .ok (.getfield idx, 3)) (hF : ev_FL (m_y M).cls idx ci k) (hv : ev_f h a ci k = some v) (K : Ev l G M (pc + 3) ls (v :: st) h uc us Q) : Ev l G M pc ls (.ref a :: st) h uc us Q := by
  intro p e s m args below meth c H locs cells slots lsA C hH hS hl h1 h2
  obtain ⟨hx, hb, hml, hown, hts, hr, hlk, hnm, htb, hst, hK, hB, hL⟩ := id C
  obtain ⟨fs, q1, q2⟩ := ev_f_of hv
  obtain ⟨r, ty, ref, ⟨f1, f3, -, -⟩, f2, f4, f5⟩ := hF
  obtain ⟨hBa, g2, g3⟩ := ev_obj hH q1 f1
  refine va_get (D := g_D G) (ci := ci) (v := v) (C := r.1) (T := r.2.1) (N := r.2.2) hx hb hts f3 hown hK (ev_one (e := .inr (ci, fs)) ⟨r, f1, g3⟩) 0 rfl f1 k f2 (hts _ f4) ?_ q2 hd (K p e s m args below meth c H locs cells slots lsA C hH hS hl h1 h2)
  intro x hx9
  rcases f5 with rfl | f5
  · exact hx9
  · exact u_same (hts _ f5) x hx9
theorem e_put {idx ci k a : Nat} {v w : Value} {ft : FieldType} (hd : decode (m_cc M) pc = .ok (.putfield idx, 3)) (hF : ev_FP (m_y M).cls idx ci k ft) (hv : ev_f h a ci k = some w) (hn : narrow ft v = v) (hfit : fits ft v = true) (K : ∀ h' : ev_AH, h' = ev_s h a k v → Ev l G M (pc + 3) ls st h' uc us Q) : Ev l G M pc ls (v :: .ref a :: st) h uc us Q := by
  intro p e s m args below meth c H locs cells slots lsA C hH hS hl h1 h2
  obtain ⟨hx, hb, hml, hown, hts, hr, hlk, hnm, htb, hst, hK, hB, hL⟩ := id C
  obtain ⟨fs, q1, q2⟩ := ev_f_of hv
  obtain ⟨r, ty, ref, ⟨f1, f3, f6, f7⟩, f2, f4, f5, hfin, f8⟩ := hF
  obtain ⟨hBa, g2, cell, p1, p2, p3, p4⟩ := ev_obj hH q1 f1
  have hap := va_apart (D := g_D G) (own := (m_y M).cls) hts f3 ty f6 f7 hK f1
  obtain ⟨hS', hfc, kC, hkC, hkind⟩ := hK.1 ci _ f1
  obtain ⟨cf, kf, fi, f, hi, hsl⟩ := hS' k f2
  have hlay := hts _ (f3 _ (u_in_lay f2))
  unfold u_lay at hlay
  rw [if_neg (by rw [hfin]; decide)] at hlay
  have hst2 := (u_facts hfc hkC (u_lays hts f3 f2) hi).1
  have h6 := u_store hfc hkC hkind hlay hi (f6 k f2) (by rw [f8]; exact hn) (by rw [f8]; exact hfit)
  have hsame : ∀ x, s.fieldFound? (r.2.1 k).1 (r.2.1 k).2.1 (r.2.1 k).2.2.1 = some x → s.fieldFound? ref (r.2.1 k).2.1 (r.2.1 k).2.2.1 = some x := by
    intro x hx9
    rcases f5 with rfl | f5
    · exact hx9
    · exact u_same (hts _ f5) x hx9
  have hlk9 : k < fs.length := (List.getElem?_eq_some_iff.mp q2).1
  refine W.putK hx hb (f := f) ⟨hown, hts _ f4, ⟨_, _, _, hsame _ hi⟩, hst2⟩ (by rw [p2]; exact h6) p1 p3 (by rw [hsl]; exact k2_hasslot (p4 k f2)) rfl rfl hd fun H' e1 e2 e3 => ?_
  rw [hsl] at e1
  exact K _ (ev_s_eq q1).symm p e s m args below meth c H' _ cells slots lsA C (hH.up hBa (Or.inl ⟨r, f1, by rw [List.length_set]; exact g2, t_OB.to (V := updV (vp_V fs) k v) ⟨_, e1, p2, p3, t_set p4 hap f2 v⟩ (fun j _ => vp_updV_set hlk9 v j)⟩) e3) (hS.put e2 e3 hBa) hl h1 h2
theorem e_putF {idx ci k a : Nat} {v w : Value} {ft : FieldType} (hd : decode (m_cc M) pc = .ok (.putfield idx, 3)) (hF : ev_FF (m_y M).cls idx ci k ft) (hin : (m_y M).name = "<init>") (hv : ev_f h a ci k = some w) (hn : narrow ft v = v) (hfit : fits ft v = true) (K : ∀ h' : ev_AH, h' = ev_s h a k v → Ev l G M (pc + 3) ls st h' uc us Q) : Ev l G M pc ls (v :: .ref a :: st) h uc us Q := by
  intro p e s m args below meth c H locs cells slots lsA C hH hS hl h1 h2
  obtain ⟨hx, hb, hml, hown, hts, hr, hlk, hnm, htb, hst, hK, hB, hL⟩ := id C
  obtain ⟨fs, q1, q2⟩ := ev_f_of hv
  obtain ⟨r, ty, ref, ⟨f1, f3, f6, f7⟩, f2, f4, rfl, hfin, hdecl, f8⟩ := hF
  obtain ⟨hBa, g2, cell, p1, p2, p3, p4⟩ := ev_obj hH q1 f1
  have hap := va_apart (D := g_D G) (own := (m_y M).cls) hts f3 ty f6 f7 hK f1
  obtain ⟨hS', hfc, kC, hkC, hkind⟩ := hK.1 ci _ f1
  obtain ⟨cf, kf, fi, f, hi, hsl⟩ := hS' k f2
  have hlay := hts _ (f3 _ (u_in_lay f2))
  unfold u_lay at hlay
  rw [if_pos hfin] at hlay
  have hst2 := (u_facts hfc hkC (u_lays hts f3 f2) hi).1
  have hcf : m.cls = cf := by
    obtain ⟨_, _, c', _, _, _, -, -, hf', -, -, -, hown2, -⟩ := Cond.laysFinal_spec hlay
    have e1 : c' = cf := by have := hi.symm.trans hf'; simp at this; exact this.1.symm
    rw [hdecl] at hown2
    rw [← e1]; exact Option.some.inj (hown.symm.trans hown2)
  have h6 := u_fits hfc hkC hkind (Or.inr hlay) hi (f6 k f2) (by rw [f8]; exact hn) (by rw [f8]; exact hfit)
  have hlk9 : k < fs.length := (List.getElem?_eq_some_iff.mp q2).1
  refine W.putFinK hx hb hown (hts _ f4) hi hst2 hcf (hnm.trans hin) (by rw [p2]; exact h6) p1 p3 (by rw [hsl]; exact k2_hasslot (p4 k f2)) rfl rfl hd fun H' e1 e2 e3 => ?_
  rw [hsl] at e1
  exact K _ (ev_s_eq q1).symm p e s m args below meth c H' _ cells slots lsA C (hH.up hBa (Or.inl ⟨r, f1, by rw [List.length_set]; exact g2, t_OB.to (V := updV (vp_V fs) k v) ⟨_, e1, p2, p3, t_set p4 hap f2 v⟩ (fun j _ => vp_updV_set hlk9 v j)⟩) e3) (hS.put e2 e3 hBa) hl h1 h2
theorem e_new {idx ci n uc' us' : Nat} {fs : List Value} (hd : decode (m_cc M) pc = .ok (.new idx, 3)) (hN : ev_NW (m_y M).cls idx ci fs) (hn : fs.length = n) (hc : 1 + uc' ≤ uc) (hs : n + us' ≤ us) (K : ∀ q : Nat, h q = none → ∀ h' : ev_AH, h' = ev_up h q (ci, fs) → Ev l G M (pc + 3) ls (.ref q :: st) h' uc' us' Q) : Ev l G M pc ls st h uc us Q := by
  intro p e s m args below meth c H locs cells slots lsA C hH hS hl h1 h2
  obtain ⟨hx, hb, hml, hown, hts, hr, hlk, hnm, htb, hst, hK, hB, hL⟩ := id C
  obtain ⟨r, ty, ⟨f1, f3, f6, f7⟩, n1, n2, n3, n4, n5⟩ := hN
  have hKn := hK.1 ci _ f1
  have hrc : (m_rm M).cells = m_mc M := rfl
  have hrs : (m_rm M).slots = m_ms M := rfl
  refine W.newcK hx hb hown (hts _ n1) (hts _ n2) (hts _ n3) rfl hd (by rw [hrc]; omega) (by rw [hrs]; omega) hKn.2.1 rfl fun H1 kC hkC e1 z1 o1 => ?_
  have hS1 : va_S (g_A G) s.heap H1 locs := ⟨Nat.le_trans hS.1 (by omega), fun x a1 a2 => (o1 x (Nat.lt_of_lt_of_le a1 hS.1)).trans (hS.2.1 x a1 a2), hS.2.2⟩
  exact K H.size (hH.fresh (Nat.le_refl _)) _ rfl p e s m args below meth c H1 locs (cells + 1) (slots + r.2.2) lsA C (hH.new (Nat.le_trans hB hS.1) (Or.inl ⟨r, f1, n4, (u_born ty hts f3 hKn hkC e1 f6).to n5⟩) o1) hS1 hl (by omega) (by omega)
theorem e_alen {j a n : Nat} {v : Int32} (hd : decode (m_cc M) pc = .ok (.arraylength, 1)) (hn : ev_n h a (100 + j) = some n) (hv : nI n = v) (K : Ev l G M (pc + 1) ls (.int v :: st) h uc us Q) : Ev l G M pc ls (.ref a :: st) h uc us Q := by
  intro p e s m args below meth c H locs cells slots lsA C hH hS hl h1 h2
  obtain ⟨hx, hb, hml, hown, hts, hr, hlk, hnm, htb, hst, hK, hB, hL⟩ := id C
  obtain ⟨vs, q1, q2⟩ := ev_n_of hn
  obtain ⟨hBa, hj, hc⟩ := ev_arr hH q1
  have ht := ev_tyAt G
  have hsz : (arrV (g_dA G j) vs.length (vp_V vs)).slots.size.toInt32 = v := by rw [arrV_size, q2]; exact hv
  rcases (show j = 0 ∨ j = 1 ∨ j = 2 ∨ j = 3 by omega) with rfl | rfl | rfl | rfl
  · exact W.alen hx hb hc ((hK.2 0 _ ht.1).1 vs.length (vp_V vs)) hsz rfl rfl hd (K p e s m args below meth c H locs cells slots lsA C hH hS hl h1 h2)
  · exact W.alen hx hb hc ((hK.2 1 _ ht.2.1).1 vs.length (vp_V vs)) hsz rfl rfl hd (K p e s m args below meth c H locs cells slots lsA C hH hS hl h1 h2)
  · exact W.alen hx hb hc ((hK.2 2 _ ht.2.2.1).1 vs.length (vp_V vs)) hsz rfl rfl hd (K p e s m args below meth c H locs cells slots lsA C hH hS hl h1 h2)
  · exact W.alen hx hb hc ((hK.2 3 _ ht.2.2.2).1 vs.length (vp_V vs)) hsz rfl rfl hd (K p e s m args below meth c H locs cells slots lsA C hH hS hl h1 h2)
theorem ev_in {i : Int32} {vs : List Value} {v : Value} (h0 : ¬ i < 0) (q : vs[i.toNatClampNeg]? = some v) {cA : ClassId} : ¬ (i < 0 ∨ (arrV cA vs.length (vp_V vs)).slots.size ≤ i.toNatClampNeg) ∧ (arrV cA vs.length (vp_V vs)).slots[i.toNatClampNeg]? = some v := by
  have hlt := (List.getElem?_eq_some_iff.mp q).1
  refine ⟨fun z => z.elim h0 (fun y => by rw [arrV_size] at y; omega), ?_⟩
  rw [arrV_read _ _ hlt]
  simp [vp_V, q]
theorem e_iald {a : Nat} {i : Int32} {x : Int32} (hd : decode (m_cc M) pc = .ok (.iaload, 1)) (h0 : ¬ i < 0) (hv : ev_f h a 100 i.toNatClampNeg = some (.int x)) (K : Ev l G M (pc + 1) ls (.int x :: st) h uc us Q) : Ev l G M pc ls (.int i :: .ref a :: st) h uc us Q := by
  intro p e s m args below meth c H locs cells slots lsA C hH hS hl h1 h2
  obtain ⟨hx, hb, hml, hown, hts, hr, hlk, hnm, htb, hst, hK, hB, hL⟩ := id C
  obtain ⟨vs, q1, q2⟩ := ev_f_of hv
  obtain ⟨hBa, hj, hc⟩ := ev_arr (j := 0) hH q1
  have ht := ev_tyAt G
  obtain ⟨i1, i2⟩ := ev_in (cA := g_dA G 0) h0 q2
  exact W.iald hx hb hc ((hK.2 0 _ ht.1).1 vs.length (vp_V vs)) (fun z => by cases z) i1 i2 rfl rfl hd (K p e s m args below meth c H locs cells slots lsA C hH hS hl h1 h2)
theorem e_zald {a : Nat} {i : Int32} {x : Int32} (hd : decode (m_cc M) pc = .ok (.baload, 1)) (h0 : ¬ i < 0) (hv : ev_f h a 101 i.toNatClampNeg = some (.int x)) (K : Ev l G M (pc + 1) ls (.int x :: st) h uc us Q) : Ev l G M pc ls (.int i :: .ref a :: st) h uc us Q := by
  intro p e s m args below meth c H locs cells slots lsA C hH hS hl h1 h2
  obtain ⟨hx, hb, hml, hown, hts, hr, hlk, hnm, htb, hst, hK, hB, hL⟩ := id C
  obtain ⟨vs, q1, q2⟩ := ev_f_of hv
  obtain ⟨hBa, hj, hc⟩ := ev_arr (j := 1) hH q1
  have ht := ev_tyAt G
  obtain ⟨i1, i2⟩ := ev_in (cA := g_dA G 1) h0 q2
  exact W.zald hx hb hc ((hK.2 1 _ ht.2.1).1 vs.length (vp_V vs)) (fun z => by cases z) i1 i2 rfl rfl hd (K p e s m args below meth c H locs cells slots lsA C hH hS hl h1 h2)
theorem e_lald {a : Nat} {i : Int32} {x : Int64} (hd : decode (m_cc M) pc = .ok (.laload, 1)) (h0 : ¬ i < 0) (hv : ev_f h a 102 i.toNatClampNeg = some (.long x)) (K : Ev l G M (pc + 1) ls (.long x :: st) h uc us Q) : Ev l G M pc ls (.int i :: .ref a :: st) h uc us Q := by
  intro p e s m args below meth c H locs cells slots lsA C hH hS hl h1 h2
  obtain ⟨hx, hb, hml, hown, hts, hr, hlk, hnm, htb, hst, hK, hB, hL⟩ := id C
  obtain ⟨vs, q1, q2⟩ := ev_f_of hv
  obtain ⟨hBa, hj, hc⟩ := ev_arr (j := 2) hH q1
  have ht := ev_tyAt G
  obtain ⟨i1, i2⟩ := ev_in (cA := g_dA G 2) h0 q2
  exact W.lald hx hb hc ((hK.2 2 _ ht.2.2.1).1 vs.length (vp_V vs)) (fun z => by cases z) i1 i2 rfl rfl hd (K p e s m args below meth c H locs cells slots lsA C hH hS hl h1 h2)
theorem e_iast {a : Nat} {i : Int32} {x : Int32} {w : Value} (hd : decode (m_cc M) pc = .ok (.iastore, 1)) (h0 : ¬ i < 0) (hv : ev_f h a 100 i.toNatClampNeg = some w) (K : ∀ h' : ev_AH, h' = ev_s h a i.toNatClampNeg (.int x) → Ev l G M (pc + 1) ls st h' uc us Q) : Ev l G M pc ls (.int x :: .int i :: .ref a :: st) h uc us Q := by
  intro p e s m args below meth c H locs cells slots lsA C hH hS hl h1 h2
  obtain ⟨hx, hb, hml, hown, hts, hr, hlk, hnm, htb, hst, hK, hB, hL⟩ := id C
  obtain ⟨vs, q1, q2⟩ := ev_f_of hv
  obtain ⟨hBa, hj, hc⟩ := ev_arr (j := 0) hH q1
  have ht := ev_tyAt G
  obtain ⟨i1, i2⟩ := ev_in (cA := g_dA G 0) h0 q2
  have hlt := (List.getElem?_eq_some_iff.mp q2).1
  refine W.iast hx hb hc ((hK.2 0 _ ht.1).1 vs.length (vp_V vs)) (fun z => by cases z) i1 rfl rfl hd fun H' e1 e2 e3 => ?_
  rw [ev_arrSet _ hlt] at e1
  exact K _ (ev_s_eq q1).symm p e s m args below meth c H' _ cells slots lsA C (hH.up hBa (Or.inr ⟨0, by omega, rfl, e1⟩) e3) (hS.put e2 e3 hBa) hl h1 h2
theorem e_zast {a : Nat} {i : Int32} {x : Int32} {w : Value} (hd : decode (m_cc M) pc = .ok (.bastore, 1)) (h0 : ¬ i < 0) (hv : ev_f h a 101 i.toNatClampNeg = some w) (K : ∀ h' : ev_AH, h' = ev_s h a i.toNatClampNeg (narrow .boolean (.int x)) → Ev l G M (pc + 1) ls st h' uc us Q) : Ev l G M pc ls (.int x :: .int i :: .ref a :: st) h uc us Q := by
  intro p e s m args below meth c H locs cells slots lsA C hH hS hl h1 h2
  obtain ⟨hx, hb, hml, hown, hts, hr, hlk, hnm, htb, hst, hK, hB, hL⟩ := id C
  obtain ⟨vs, q1, q2⟩ := ev_f_of hv
  obtain ⟨hBa, hj, hc⟩ := ev_arr (j := 1) hH q1
  have ht := ev_tyAt G
  obtain ⟨i1, i2⟩ := ev_in (cA := g_dA G 1) h0 q2
  have hlt := (List.getElem?_eq_some_iff.mp q2).1
  refine W.zast hx hb hc ((hK.2 1 _ ht.2.1).1 vs.length (vp_V vs)) (fun z => by cases z) i1 rfl rfl hd fun H' e1 e2 e3 => ?_
  rw [ev_arrSet _ hlt] at e1
  exact K _ (ev_s_eq q1).symm p e s m args below meth c H' _ cells slots lsA C (hH.up hBa (Or.inr ⟨1, by omega, rfl, e1⟩) e3) (hS.put e2 e3 hBa) hl h1 h2
theorem e_last {a : Nat} {i : Int32} {x : Int64} {w : Value} (hd : decode (m_cc M) pc = .ok (.lastore, 1)) (h0 : ¬ i < 0) (hv : ev_f h a 102 i.toNatClampNeg = some w) (K : ∀ h' : ev_AH, h' = ev_s h a i.toNatClampNeg (.long x) → Ev l G M (pc + 1) ls st h' uc us Q) : Ev l G M pc ls (.long x :: .int i :: .ref a :: st) h uc us Q := by
  intro p e s m args below meth c H locs cells slots lsA C hH hS hl h1 h2
  obtain ⟨hx, hb, hml, hown, hts, hr, hlk, hnm, htb, hst, hK, hB, hL⟩ := id C
  obtain ⟨vs, q1, q2⟩ := ev_f_of hv
  obtain ⟨hBa, hj, hc⟩ := ev_arr (j := 2) hH q1
  have ht := ev_tyAt G
  obtain ⟨i1, i2⟩ := ev_in (cA := g_dA G 2) h0 q2
  have hlt := (List.getElem?_eq_some_iff.mp q2).1
  refine W.last hx hb hc ((hK.2 2 _ ht.2.2.1).1 vs.length (vp_V vs)) (fun z => by cases z) i1 rfl rfl hd fun H' e1 e2 e3 => ?_
  rw [ev_arrSet _ hlt] at e1
  exact K _ (ev_s_eq q1).symm p e s m args below meth c H' _ cells slots lsA C (hH.up hBa (Or.inr ⟨2, by omega, rfl, e1⟩) e3) (hS.put e2 e3 hBa) hl h1 h2
theorem e_aald {a : Nat} {i : Int32} {v : Value} (hd : decode (m_cc M) pc = .ok (.aaload, 1)) (h0 : ¬ i < 0) (hv : ev_f h a 103 i.toNatClampNeg = some v) (K : Ev l G M (pc + 1) ls (v :: st) h uc us Q) : Ev l G M pc ls (.int i :: .ref a :: st) h uc us Q := by
  intro p e s m args below meth c H locs cells slots lsA C hH hS hl h1 h2
  obtain ⟨hx, hb, hml, hown, hts, hr, hlk, hnm, htb, hst, hK, hB, hL⟩ := id C
  obtain ⟨vs, q1, q2⟩ := ev_f_of hv
  obtain ⟨hBa, hj, hc⟩ := ev_arr (j := 3) hH q1
  have ht := ev_tyAt G
  obtain ⟨i1, i2⟩ := ev_in (cA := g_dA G 3) h0 q2
  exact W.aald hx hb hc ((hK.2 3 _ ht.2.2.2).1 vs.length (vp_V vs)) rfl (fun z => by cases z) i1 i2 rfl rfl hd (K p e s m args below meth c H locs cells slots lsA C hH hS hl h1 h2)
theorem e_aast {a v ci : Nat} {i : Int32} {w : Value} {fs : List Value} {r : vw_C} (hd : decode (m_cc M) pc = .ok (.aastore, 1)) (h0 : ¬ i < 0) (hv : ev_f h a 103 i.toNatClampNeg = some w) (ho : h v = some (ci, fs)) (hr : ev_cl[ci]? = some r) (hca : (r.1, "java/lang/Object") ∈ ev_casts) (K : ∀ h' : ev_AH, h' = ev_s h a i.toNatClampNeg (.ref v) → Ev l G M (pc + 1) ls st h' uc us Q) : Ev l G M pc ls (.ref v :: .int i :: .ref a :: st) h uc us Q := by
  intro p e s m args below meth c H locs cells slots lsA C hH hS hl h1 h2
  obtain ⟨hx, hb, hml, hown, hts, hrt, hlk, hnm, htb, hst, hK, hB, hL⟩ := id C
  obtain ⟨vs, q1, q2⟩ := ev_f_of hv
  obtain ⟨hBa, hj, hc⟩ := ev_arr (j := 3) hH q1
  obtain ⟨i1, i2⟩ := ev_in (cA := g_dA G 3) h0 q2
  have hlt := (List.getElem?_eq_some_iff.mp q2).1
  obtain ⟨-, -, cellV, g1, g2, g3, -⟩ := ev_obj hH ho hr
  have hcls := (hK.1 ci r hr).2
  obtain ⟨kA, comp, k1, k2, k3, -⟩ := (hK.2 3 _ (ev_tyAt G).2.2.2).2
  obtain ⟨kE, hkE, -⟩ := Vm.findClass_spec k3
  obtain ⟨c0, t1, f1, f2, f3⟩ := Cond.castable_spec (va_Nw.use (A := args) rfl (hL.2.2.2.2.2.2.2.2.2.1 _ hca))
  cases hcls.1.symm.trans f1
  cases k3.symm.trans f2
  obtain ⟨kC, hkC, -⟩ := hcls.2
  refine W.aast hx hb hc (fun q z => by cases z) (fun z => by cases z) k1 k2 rfl hkE ⟨h0, by rw [arrV_size]; exact hlt⟩ g1 (fun q z => by rw [g3] at z; cases z) (by rw [g2]; exact hkC) (by rw [g2]; exact f3) rfl rfl hd fun H' e1 e2 e3 => ?_
  rw [ev_arrSet _ hlt] at e1
  exact K _ (ev_s_eq q1).symm p e s m args below meth c H' _ cells slots lsA C (hH.up hBa (Or.inr ⟨3, by omega, rfl, e1⟩) e3) (hS.put e2 e3 hBa) hl h1 h2
theorem e_newa0 {i : Int32} {n uc' us' : Nat} (hd : decode (m_cc M) pc = .ok (.newarray .int, 2)) (hw : Cond.arrayClass .int ∈ ev_TB) (hi : nI n = i) (hn : n < 1000) (hc : 1 + uc' ≤ uc) (hs : n + us' ≤ us) (K : ∀ q : Nat, h q = none → ∀ h' : ev_AH, h' = (ev_up h q (100, List.replicate n (.int 0))) → Ev l G M (pc + 2) ls (.ref q :: st) h' uc' us' Q) : Ev l G M pc ls (.int i :: st) h uc us Q := by
  intro p e s m args below meth c H locs cells slots lsA C hH hS hl h1 h2
  obtain ⟨hx, hb, hml, hown, hts, hr, hlk, hnm, htb, hst, hK, hB, hL⟩ := id C
  subst hi
  have hrc : (m_rm M).cells = m_mc M := rfl
  have hrs : (m_rm M).slots = m_ms M := rfl
  have hN : (nI n).toNatClampNeg = n := nI_clamp (by omega)
  refine W.newa (atype := .int) hx hb (hts _ hw) rfl hd rfl (nI_pos (by omega)) (by rw [hN]; show n * _ ≤ _; simp [componentBytes, newarray.typeOf]; omega) (by rw [hrc]; omega) (by rw [hrs, hN]; omega) fun cA kA comp f1 f2 f3 => ?_
  rw [hN]
  have hcA : cA = g_dA G 0 := Option.some.inj (f1.symm.trans (hK.2 0 _ (ev_tyAt G).1).2)
  subst hcA
  generalize hH1 : H.push ({ cls := g_dA G 0, slots := Array.replicate n (defaultValue (newarray.typeOf .int)), vm := .none } : Cell) = H1
  have z1 : H1.size = H.size + 1 := by rw [← hH1, Array.size_push]
  have e1 : H1[H.size]? = some (arrV (g_dA G 0) n (fun _ => .int 0)) := by rw [← hH1, Array.getElem?_push_size, ← arrV_new]; rfl
  have o1 : ∀ q : Nat, q < H.size → H1[q]? = H[q]? := fun q hq => by rw [← hH1, Array.getElem?_push, if_neg (Nat.ne_of_lt hq)]
  have hS1 : va_S (g_A G) s.heap H1 locs := ⟨Nat.le_trans hS.1 (by omega), fun x a1 a2 => (o1 x (Nat.lt_of_lt_of_le a1 hS.1)).trans (hS.2.1 x a1 a2), hS.2.2⟩
  refine K H.size (hH.fresh (Nat.le_refl _)) _ rfl p e s m args below meth c H1 locs (cells + 1) (slots + n) lsA C (hH.new (Nat.le_trans hB hS.1) (Or.inr ⟨0, by omega, rfl, ?_⟩) o1) hS1 hl (by omega) (by omega)
  rw [e1]
  exact ev_rep _ _ _
theorem e_newa1 {i : Int32} {n uc' us' : Nat} (hd : decode (m_cc M) pc = .ok (.newarray .boolean, 2)) (hw : Cond.arrayClass .boolean ∈ ev_TB) (hi : nI n = i) (hn : n < 1000) (hc : 1 + uc' ≤ uc) (hs : n + us' ≤ us) (K : ∀ q : Nat, h q = none → ∀ h' : ev_AH, h' = (ev_up h q (101, List.replicate n (.int 0))) → Ev l G M (pc + 2) ls (.ref q :: st) h' uc' us' Q) : Ev l G M pc ls (.int i :: st) h uc us Q := by
  intro p e s m args below meth c H locs cells slots lsA C hH hS hl h1 h2
  obtain ⟨hx, hb, hml, hown, hts, hr, hlk, hnm, htb, hst, hK, hB, hL⟩ := id C
  subst hi
  have hrc : (m_rm M).cells = m_mc M := rfl
  have hrs : (m_rm M).slots = m_ms M := rfl
  have hN : (nI n).toNatClampNeg = n := nI_clamp (by omega)
  refine W.newa (atype := .boolean) hx hb (hts _ hw) rfl hd rfl (nI_pos (by omega)) (by rw [hN]; show n * _ ≤ _; simp [componentBytes, newarray.typeOf]; omega) (by rw [hrc]; omega) (by rw [hrs, hN]; omega) fun cA kA comp f1 f2 f3 => ?_
  rw [hN]
  have hcA : cA = g_dA G 1 := Option.some.inj (f1.symm.trans (hK.2 1 _ (ev_tyAt G).2.1).2)
  subst hcA
  generalize hH1 : H.push ({ cls := g_dA G 1, slots := Array.replicate n (defaultValue (newarray.typeOf .boolean)), vm := .none } : Cell) = H1
  have z1 : H1.size = H.size + 1 := by rw [← hH1, Array.size_push]
  have e1 : H1[H.size]? = some (arrV (g_dA G 1) n (fun _ => .int 0)) := by rw [← hH1, Array.getElem?_push_size, ← arrV_new]; rfl
  have o1 : ∀ q : Nat, q < H.size → H1[q]? = H[q]? := fun q hq => by rw [← hH1, Array.getElem?_push, if_neg (Nat.ne_of_lt hq)]
  have hS1 : va_S (g_A G) s.heap H1 locs := ⟨Nat.le_trans hS.1 (by omega), fun x a1 a2 => (o1 x (Nat.lt_of_lt_of_le a1 hS.1)).trans (hS.2.1 x a1 a2), hS.2.2⟩
  refine K H.size (hH.fresh (Nat.le_refl _)) _ rfl p e s m args below meth c H1 locs (cells + 1) (slots + n) lsA C (hH.new (Nat.le_trans hB hS.1) (Or.inr ⟨1, by omega, rfl, ?_⟩) o1) hS1 hl (by omega) (by omega)
  rw [e1]
  exact ev_rep _ _ _
theorem e_newa2 {i : Int32} {n uc' us' : Nat} (hd : decode (m_cc M) pc = .ok (.newarray .long, 2)) (hw : Cond.arrayClass .long ∈ ev_TB) (hi : nI n = i) (hn : n < 1000) (hc : 1 + uc' ≤ uc) (hs : n + us' ≤ us) (K : ∀ q : Nat, h q = none → ∀ h' : ev_AH, h' = (ev_up h q (102, List.replicate n (.long 0))) → Ev l G M (pc + 2) ls (.ref q :: st) h' uc' us' Q) : Ev l G M pc ls (.int i :: st) h uc us Q := by
  intro p e s m args below meth c H locs cells slots lsA C hH hS hl h1 h2
  obtain ⟨hx, hb, hml, hown, hts, hr, hlk, hnm, htb, hst, hK, hB, hL⟩ := id C
  subst hi
  have hrc : (m_rm M).cells = m_mc M := rfl
  have hrs : (m_rm M).slots = m_ms M := rfl
  have hN : (nI n).toNatClampNeg = n := nI_clamp (by omega)
  refine W.newa (atype := .long) hx hb (hts _ hw) rfl hd rfl (nI_pos (by omega)) (by rw [hN]; show n * _ ≤ _; simp [componentBytes, newarray.typeOf]; omega) (by rw [hrc]; omega) (by rw [hrs, hN]; omega) fun cA kA comp f1 f2 f3 => ?_
  rw [hN]
  have hcA : cA = g_dA G 2 := Option.some.inj (f1.symm.trans (hK.2 2 _ (ev_tyAt G).2.2.1).2)
  subst hcA
  generalize hH1 : H.push ({ cls := g_dA G 2, slots := Array.replicate n (defaultValue (newarray.typeOf .long)), vm := .none } : Cell) = H1
  have z1 : H1.size = H.size + 1 := by rw [← hH1, Array.size_push]
  have e1 : H1[H.size]? = some (arrV (g_dA G 2) n (fun _ => .long 0)) := by rw [← hH1, Array.getElem?_push_size, ← arrV_new]; rfl
  have o1 : ∀ q : Nat, q < H.size → H1[q]? = H[q]? := fun q hq => by rw [← hH1, Array.getElem?_push, if_neg (Nat.ne_of_lt hq)]
  have hS1 : va_S (g_A G) s.heap H1 locs := ⟨Nat.le_trans hS.1 (by omega), fun x a1 a2 => (o1 x (Nat.lt_of_lt_of_le a1 hS.1)).trans (hS.2.1 x a1 a2), hS.2.2⟩
  refine K H.size (hH.fresh (Nat.le_refl _)) _ rfl p e s m args below meth c H1 locs (cells + 1) (slots + n) lsA C (hH.new (Nat.le_trans hB hS.1) (Or.inr ⟨2, by omega, rfl, ?_⟩) o1) hS1 hl (by omega) (by omega)
  rw [e1]
  exact ev_rep _ _ _
end HROWS
