/-! MISC ROWS: statics, casts, the script, constants, Math, arrays of references -/
section MISC
variable {l : Launch} {G : ev_G} {M : ev_M} {pc : Nat} {ls : List (Nat × Value)} {st : List Value} {h : ev_AH} {uc us uc' us' : Nat} {Q : ev_Fin} {P : ev_Post}
theorem e_gets {idx : Nat} (hd : decode (m_cc M) pc = .ok (.getstatic idx, 3)) (hw : Cond.fieldLink (m_y M).cls idx "java/util/ArrayList" "DEFAULTCAPACITY_EMPTY_ELEMENTDATA" "[Ljava/lang/Object;" ∈ ev_TB) (K : Ev l G M (pc + 3) ls (.ref (g_t0 G) :: st) h uc us Q) : Ev l G M pc ls st h uc us Q := by
  intro p e s m args below meth c H locs cells slots lsA C hH hS hl h1 h2
  obtain ⟨hx, hb, hml, hown, hts, hr, hlk, hnm, htb, hst, hK, hB, hL⟩ := id C
  exact va_gets hx hb hL.1 hS hown (hts _ hw) (fun _ z => z) hd (K p e s m args below meth c H locs cells slots lsA C hH hS hl h1 h2)
theorem e_alen0 (hd : decode (m_cc M) pc = .ok (.arraylength, 1)) (K : Ev l G M (pc + 1) ls (.int 0 :: st) h uc us Q) : Ev l G M pc ls (.ref (g_t0 G) :: st) h uc us Q := by
  intro p e s m args below meth c H locs cells slots lsA C hH hS hl h1 h2
  obtain ⟨hx, hb, hml, hown, hts, hr, hlk, hnm, htb, hst, hK, hB, hL⟩ := id C
  exact va_tlen hx hb hL.2.1 hS rfl hd (K p e s m args below meth c H locs cells slots lsA C hH hS hl h1 h2)
theorem e_slen (hd : decode (m_cc M) pc = .ok (.arraylength, 1)) (K : Ev l G M (pc + 1) ls (.int (nI (g_sL G)) :: st) h uc us Q) : Ev l G M pc ls (.ref (g_sb G) :: st) h uc us Q := by
  intro p e s m args below meth c H locs cells slots lsA C hH hS hl h1 h2
  obtain ⟨hx, hb, hml, hown, hts, hr, hlk, hnm, htb, hst, hK, hB, hL⟩ := id C
  have hX := hL.2.2.2.2.2.2.1
  have hsb := hL.2.2.2.2.2.2.2.1
  exact va_slen hx hb hX (by omega) (by unfold g_A; omega) hS hd (K p e s m args below meth c H locs cells slots lsA C hH hS hl h1 h2)
theorem e_sld {i : Int32} (hd : decode (m_cc M) pc = .ok (.iaload, 1)) (hi : vp_in i (g_sL G)) (K : Ev l G M (pc + 1) ls (.int (g_xs G i.toNatClampNeg) :: st) h uc us Q) : Ev l G M pc ls (.int i :: .ref (g_sb G) :: st) h uc us Q := by
  intro p e s m args below meth c H locs cells slots lsA C hH hS hl h1 h2
  obtain ⟨hx, hb, hml, hown, hts, hr, hlk, hnm, htb, hst, hK, hB, hL⟩ := id C
  have hX := hL.2.2.2.2.2.2.1
  have hsb := hL.2.2.2.2.2.2.2.1
  exact va_sld hx hb hX (by omega) (by unfold g_A; omega) hS hi hd (K p e s m args below meth c H locs cells slots lsA C hH hS hl h1 h2)
theorem e_ldc {idx : Nat} {v : Int32} (hd : decode (m_cc M) pc = .ok (.ldc idx, 2)) (hw : Cond.constant (m_y M).cls idx v ∈ ev_TB) (K : Ev l G M (pc + 2) ls (.int v :: st) h uc us Q) : Ev l G M pc ls st h uc us Q := by
  intro p e s m args below meth c H locs cells slots lsA C hH hS hl h1 h2
  obtain ⟨hx, hb, hml, hown, hts, hr, hlk, hnm, htb, hst, hK, hB, hL⟩ := id C
  exact lv_ldc hx hb hown (hts _ hw) hd (K p e s m args below meth c H locs cells slots lsA C hH hS hl h1 h2)
theorem e_ldc2 {idx : Nat} {v : Int64} (hd : decode (m_cc M) pc = .ok (.ldc2_w idx, 3)) (hw : Cond.constantLong (m_y M).cls idx v ∈ ev_TB) (K : Ev l G M (pc + 3) ls (.long v :: st) h uc us Q) : Ev l G M pc ls st h uc us Q := by
  intro p e s m args below meth c H locs cells slots lsA C hH hS hl h1 h2
  obtain ⟨hx, hb, hml, hown, hts, hr, hlk, hnm, htb, hst, hK, hB, hL⟩ := id C
  exact lv_ldc2 hx hb hown (hts _ hw) hd (K p e s m args below meth c H locs cells slots lsA C hH hS hl h1 h2)
def ev_CC (own : String) (idx ci : Nat) : Prop := ∃ r : vw_C, ev_cl[ci]? = some r ∧ Cond.classLink own idx r.1 ∈ ev_TB
theorem e_cast {idx a ci : Nat} (hd : decode (m_cc M) pc = .ok (.checkcast idx, 3)) (hw : ev_CC (m_y M).cls idx ci) (ho : ∃ fs : List Value, h a = some (ci, fs)) (K : Ev l G M (pc + 3) ls (.ref a :: st) h uc us Q) : Ev l G M pc ls (.ref a :: st) h uc us Q := by
  intro p e s m args below meth c H locs cells slots lsA C hH hS hl h1 h2
  obtain ⟨hx, hb, hml, hown, hts, hr, hlk, hnm, htb, hst, hK, hB, hL⟩ := id C
  obtain ⟨r, r1, r2⟩ := hw
  obtain ⟨fs, ho⟩ := ho
  obtain ⟨-, -, cellB, g1, g2, g3, -⟩ := ev_obj hH ho r1
  have hKn := (hK.1 ci r r1).2
  exact va_castS hx hb hown (hts _ r2) hKn ⟨cellB, g1, by rw [g3]; rfl, by rw [g2]; exact hKn.1⟩ hd (K p e s m args below meth c H locs cells slots lsA C hH hS hl h1 h2)
theorem e_aastN {a : Nat} {i : Int32} {w : Value} (hd : decode (m_cc M) pc = .ok (.aastore, 1)) (h0 : ¬ i < 0) (hv : ev_f h a 103 i.toNatClampNeg = some w) (K : ∀ h' : ev_AH, h' = ev_s h a i.toNatClampNeg .null → Ev l G M (pc + 1) ls st h' uc us Q) : Ev l G M pc ls (.null :: .int i :: .ref a :: st) h uc us Q := by
  intro p e s m args below meth c H locs cells slots lsA C hH hS hl h1 h2
  obtain ⟨hx, hb, hml, hown, hts, hr, hlk, hnm, htb, hst, hK, hB, hL⟩ := id C
  obtain ⟨vs, q1, q2⟩ := ev_f_of hv
  obtain ⟨hBa, hj, hc⟩ := ev_arr (j := 3) hH q1
  obtain ⟨i1, i2⟩ := ev_in (cA := g_dA G 3) h0 q2
  have hlt := (List.getElem?_eq_some_iff.mp q2).1
  refine va_WaastN (C := "java/lang/Object") hx hb hc ((hK.2 3 _ (ev_tyAt G).2.2.2).1 vs.length (vp_V vs)) (fun z => by cases z) i1 rfl rfl hd fun H' e1 e2 e3 => ?_
  rw [ev_arrSet _ hlt] at e1
  exact K _ (ev_s_eq q1).symm p e s m args below meth c H' _ cells slots lsA C (hH.up hBa (Or.inr ⟨3, by omega, rfl, e1⟩) e3) (hS.put e2 e3 hBa) hl h1 h2
theorem e_anew {idx n : Nat} {i : Int32} (hd : decode (m_cc M) pc = .ok (.anewarray idx, 3)) (hw : Cond.classLink (m_y M).cls idx "java/lang/Object" ∈ ev_TB) (hi : nI n = i) (hn : n < 1000) (hc : 1 + uc' ≤ uc) (hs : n + us' ≤ us) (K : ∀ q : Nat, h q = none → ¬ q = g_t0 G → ∀ h' : ev_AH, h' = ev_up h q (103, List.replicate n .null) → Ev l G M (pc + 3) ls (.ref q :: st) h' uc' us' Q) : Ev l G M pc ls (.int i :: st) h uc us Q := by
  intro p e s m args below meth c H locs cells slots lsA C hH hS hl h1 h2
  obtain ⟨hx, hb, hml, hown, hts, hr, hlk, hnm, htb, hst, hK, hB, hL⟩ := id C
  subst hi
  have hrc : (m_rm M).cells = m_mc M := rfl
  have hrs : (m_rm M).slots = m_ms M := rfl
  have hN : (nI n).toNatClampNeg = n := nI_clamp (by omega)
  have hAO := hL.2.2.2.2.2.2.2.2.2.2.2.1
  refine W.anew hx hb hown (hts _ hw) (va_AO.use hAO) rfl hd rfl (nI_pos (by omega)) (by rw [hN]; omega) (by rw [hrc]; omega) (by rw [hrs, hN]; omega) fun cA kA comp f1 f2 f3 f4 => ?_
  rw [hN]
  obtain ⟨-, -, -, -, -, k4⟩ := (hK.2 3 _ (ev_tyAt G).2.2.2).2
  have hcA : cA = g_dA G 3 := Option.some.inj (f1.symm.trans k4)
  subst hcA
  generalize hH1 : H.push ({ cls := g_dA G 3, slots := Array.replicate n .null, vm := .none } : Cell) = H1
  have z1 : H1.size = H.size + 1 := by rw [← hH1, Array.size_push]
  have e1 : H1[H.size]? = some (arrV (g_dA G 3) n (fun _ => .null)) := by rw [← hH1, Array.getElem?_push_size, ← arrV_new]
  have o1 : ∀ q : Nat, q < H.size → H1[q]? = H[q]? := fun q hq => by rw [← hH1, Array.getElem?_push, if_neg (Nat.ne_of_lt hq)]
  have hS1 : va_S (g_A G) s.heap H1 locs := ⟨Nat.le_trans hS.1 (by omega), fun x a1 a2 => (o1 x (Nat.lt_of_lt_of_le a1 hS.1)).trans (hS.2.1 x a1 a2), hS.2.2⟩
  have ht0 := hL.2.2.2.2.2.2.2.2.1
  have hsz9 := Nat.le_trans hB hS.1
  refine K H.size (hH.fresh (Nat.le_refl _)) (fun z => by omega) _ rfl p e s m args below meth c H1 locs (cells + 1) (slots + n) lsA C (hH.new (Nat.le_trans hB hS.1) (Or.inr ⟨3, by omega, rfl, ?_⟩) o1) hS1 hl (by omega) (by omega)
  rw [e1]
  exact ev_rep _ _ _
theorem e_mmin {idx : Nat} {x y : Int32} (hd : decode (m_cc M) pc = .ok (.invokestatic idx, 3)) (w1 : Cond.methodLink (m_y M).cls idx Lib.Math.min.name ∈ ev_TB) (w2 : Cond.static Lib.Math.min.name ∈ ev_TB) (w3 : Cond.initialized "java/lang/Math" ∈ ev_TB) (w4 : Cond.code Lib.Math.min.name Lib.Math.min.code 2 (some .int) ∈ ev_TB) (hf : 1 ≤ (m_rm M).frames) (hlo : (st.map fun v => v.category).sum + 13 ≤ (m_rm M).locals) (K : Ev l G M (pc + 3) ls (.int (if y < x then y else x) :: st) h uc us Q) : Ev l G M pc ls (.int y :: .int x :: st) h uc us Q := by
  intro p e s m args below meth c H locs cells slots lsA C hH hS hl h1 h2
  obtain ⟨hx, hb, hml, hown, hts, hr, hlk, hnm, htb, hst, hK, hB, hL⟩ := id C
  exact va_mmin hx hb (by rw [hml, hl.1]) hown (hts _ w1) (hts _ w2) (hts _ w3) (hts _ w4) hf hlo (by show cells ≤ m_mc M; omega) (by show slots ≤ m_ms M; omega) hd (K p e s m args below meth c H locs cells slots lsA C hH hS hl h1 h2)
theorem e_mmax {idx : Nat} {x y : Int32} (hd : decode (m_cc M) pc = .ok (.invokestatic idx, 3)) (w1 : Cond.methodLink (m_y M).cls idx Lib.Math.max.name ∈ ev_TB) (w2 : Cond.static Lib.Math.max.name ∈ ev_TB) (w3 : Cond.initialized "java/lang/Math" ∈ ev_TB) (w4 : Cond.code Lib.Math.max.name Lib.Math.max.code 2 (some .int) ∈ ev_TB) (hf : 1 ≤ (m_rm M).frames) (hlo : (st.map fun v => v.category).sum + 13 ≤ (m_rm M).locals) (K : Ev l G M (pc + 3) ls (.int (if x < y then y else x) :: st) h uc us Q) : Ev l G M pc ls (.int y :: .int x :: st) h uc us Q := by
  intro p e s m args below meth c H locs cells slots lsA C hH hS hl h1 h2
  obtain ⟨hx, hb, hml, hown, hts, hr, hlk, hnm, htb, hst, hK, hB, hL⟩ := id C
  exact va_mmax hx hb (by rw [hml, hl.1]) hown (hts _ w1) (hts _ w2) (hts _ w3) (hts _ w4) hf hlo (by show cells ≤ m_mc M; omega) (by show slots ≤ m_ms M; omega) hd (K p e s m args below meth c H locs cells slots lsA C hH hS hl h1 h2)
end MISC
theorem ev_out {x : Int32} (n : Nat) (h : ∀ k, k < n → ¬ x = nI k) (hn : n < 2 ^ 31 := by decide) : x.toInt < 0 ∨ ((n : Int) - 1) < x.toInt := by
  rcases Int.lt_or_le x.toInt 0 with q | q
  · exact Or.inl q
  · refine Or.inr ?_
    rcases Int.lt_or_le ((n : Int) - 1) x.toInt with r | r
    · exact r
    · obtain ⟨j, hj, e⟩ := vp_in_of (vp_in_iff.mpr ⟨q, by omega⟩) hn
      exact absurd e (h j hj)
