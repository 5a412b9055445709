/-! COPYING an array of references; an array's class object -/
/-- the first k places hold null, or objects that an Object[] may hold -/
def ev_elems (h : ev_AH) (vs : List Value) (k : Nat) : Prop := ∀ i, i < k → vs[i]? = some .null ∨ ∃ (v ci : Nat) (fs : List Value) (r : vw_C), vs[i]? = some (.ref v) ∧ h v = some (ci, fs) ∧ ev_cl[ci]? = some r ∧ (r.1, "java/lang/Object") ∈ ev_casts
section COPY
variable {l : Launch} {G : ev_G} {M : ev_M} {pc : Nat} {ls : List (Nat × Value)} {st : List Value} {h : ev_AH} {uc us : Nat} {Q : ev_Fin}
theorem ev_objName : "[" ++ (FieldType.object "java/lang/Object").toString = "[Ljava/lang/Object;" := by decide +kernel
theorem e_ldcM {idx : Nat} (hd : decode (m_cc M) pc = .ok (.ldc idx, 2)) (hw : Cond.classLink (m_y M).cls idx "[Ljava/lang/Object;" ∈ ev_TB) (K : Ev l G M (pc + 2) ls (.ref (g_mi G) :: st) h uc us Q) : Ev l G M pc ls st h uc us Q := by
  intro p e s m args below meth c H locs cells slots lsA C hH hS hl h1 h2
  obtain ⟨hx, hb, hml, hown, hts, hr, hlk, hnm, htb, hst, hK, hB, hL⟩ := id C
  exact va_ldcM hx hb hown (hts _ hw) hL.2.2.2.2.2.1 hd (K p e s m args below meth c H locs cells slots lsA C hH hS hl h1 h2)
theorem e_getC {idx a n : Nat} (hd : decode (m_cc M) pc = .ok (.invokevirtual idx, 3)) (w1 : Cond.methodLink (m_y M).cls idx ⟨"java/lang/Object", "getClass", "()Ljava/lang/Class;"⟩ ∈ ev_TB) (w2 : Cond.selects "[Ljava/lang/Object;" ⟨"java/lang/Object", "getClass", "()Ljava/lang/Class;"⟩ ⟨"java/lang/Object", "getClass", "()Ljava/lang/Class;"⟩ ∈ ev_TB) (w3 : Cond.instanceMethod ⟨"java/lang/Object", "getClass", "()Ljava/lang/Class;"⟩ ∈ ev_TB) (w4 : Cond.native ⟨"java/lang/Object", "getClass", "()Ljava/lang/Class;"⟩ ∈ ev_TB)
    (hn : ev_n h a 103 = some n) (hf : 1 ≤ (m_rm M).frames) (hlo : (st.map fun v => v.category).sum + 14 ≤ (m_rm M).locals) (K : Ev l G M (pc + 3) ls (.ref (g_mi G) :: st) h uc us Q) : Ev l G M pc ls (.ref a :: st) h uc us Q := by
  intro p e s m args below meth c H locs cells slots lsA C hH hS hl h1 h2
  obtain ⟨hx, hb, hml, hown, hts, hr, hlk, hnm, htb, hst, hK, hB, hL⟩ := id C
  obtain ⟨vs, q1, q2⟩ := ev_n_of hn
  obtain ⟨hBa, hj, hc⟩ := ev_arr (j := 3) hH q1
  have hDc := hL.2.2.2.2.2.2.2.2.2.2.2.2.1
  exact va_getC hx hb (by rw [hml, hl.1]) hown (hts _ w1) (va_Dc.use hDc) (hts _ w2) (hts _ w3) (hts _ w4) hL.2.2.2.2.2.1 ⟨_, hc, rfl, va_nmO (hK.2 3 _ (ev_tyAt G).2.2.2).2 ev_objName⟩ hf hlo hd (K p e s m args below meth c H locs cells slots lsA C hH hS hl h1 h2)
theorem ev_cpy {cA : ClassId} {vs ws : List Value} {k : Nat} (h1 : k ≤ vs.length) (h2 : k ≤ ws.length) : arrV cA ws.length (va_cpy (vp_V vs) (vp_V ws) 0 0 k) = arrV cA (vs.take k ++ ws.drop k).length (vp_V (vs.take k ++ ws.drop k)) := by
  have hlen : (vs.take k ++ ws.drop k).length = ws.length := by
    rw [List.length_append, List.length_take, List.length_drop]
    omega
  rw [hlen]
  refine ev_arrEq fun j hj => ?_
  unfold va_cpy vp_V
  by_cases z : j < k
  · have z1 : j < vs.length := by omega
    simp [z, z1, List.getD_eq_getElem?_getD, List.getElem?_append, List.getElem?_take, List.length_take, Nat.min_eq_left h1]
  · have z2 : k + (j - k) = j := by omega
    simp [z, List.getD_eq_getElem?_getD, List.getElem?_append, List.length_take, Nat.min_eq_left h1, List.getElem?_drop, z2]
theorem e_copy {idx a b k : Nat} {n : Int32} {vs ws : List Value} (hd : decode (m_cc M) pc = .ok (.invokestatic idx, 3)) (w1 : Cond.methodLink (m_y M).cls idx arraycopyName ∈ ev_TB) (w2 : Cond.native arraycopyName ∈ ev_TB) (w3 : Cond.static arraycopyName ∈ ev_TB) (w4 : Cond.initialized "java/lang/System" ∈ ev_TB)
    (hn : nI k = n) (ha : h a = some (103, vs)) (hb2 : h b = some (103, ws)) (hk1 : k ≤ vs.length) (hk2 : k ≤ ws.length) (hsm : vs.length < 1000) (hel : ev_elems h vs k) (hf : 1 ≤ (m_rm M).frames) (hlo : (st.map fun v => v.category).sum + (nativeFrameWords "java/lang/System" "arraycopy" 5 + 11) ≤ (m_rm M).locals)
    (K : ∀ h' : ev_AH, h' = ev_up h b (103, vs.take k ++ ws.drop k) → Ev l G M (pc + 3) ls st h' uc us Q) : Ev l G M pc ls (.int n :: .int 0 :: .ref b :: .int 0 :: .ref a :: st) h uc us Q := by
  intro p e s m args below meth c H locs cells slots lsA C hH hS hl h1 h2
  obtain ⟨hx, hb, hml, hown, hts, hr, hlk, hnm, htb, hst, hK, hB, hL⟩ := id C
  subst hn
  have hkn : (nI k).toNatClampNeg = k := nI_clamp (by omega)
  have hki : (nI k).toInt = (k : Int) := nI_toInt (by omega)
  have h00 : (0 : Int32).toNatClampNeg = 0 := by decide
  have h0i : (0 : Int32).toInt = 0 := by decide
  obtain ⟨hBa, -, hc0⟩ := ev_arr (j := 3) hH ha
  obtain ⟨hBb, -, hc1⟩ := ev_arr (j := 3) hH hb2
  obtain ⟨-, k0, hk0, cm0, hkk0⟩ := (hK.2 3 _ (ev_tyAt G).2.2.2).1 vs.length (vp_V vs)
  obtain ⟨kA, comp, r1, r2, r3, -⟩ := (hK.2 3 _ (ev_tyAt G).2.2.2).2
  have hk0' : s.vm.classes[g_dA G 3]? = some k0 := hk0
  cases Option.some.inj (hk0'.symm.trans r1)
  intro T hT X
  obtain ⟨vm', X', step⟩ := X.arraycopy hx hown (hts _ w1) (hts _ w2) (hts _ w3) (hts _ w4) (src := a) (dst := b) (cs := arrV (g_dA G 3) vs.length (vp_V vs)) (cd := arrV (g_dA G 3) ws.length (vp_V ws)) (srcPos := 0) (destPos := 0) (n := nI k) (by rw [hT]; exact hc0) (by rw [hT]; exact hc1)
    (fun _ z => by cases z) (fun _ z => by cases z) (fun z => by cases z) (fun z => by cases z) hk0 hk0 hkk0 hkk0 rfl (by decide) (by decide) (nI_pos (by omega))
    (by rw [h0i, hki, arrV_size]; omega) (by rw [h0i, hki, arrV_size]; omega)
    (fun vm₁ hal i hi => by
      rw [hkn] at hi
      have hlt : i < vs.length := by omega
      have e1 : (arrV (g_dA G 3) vs.length (vp_V vs)).slots.getD ((0 : Int32).toNatClampNeg + i) .null = vp_V vs i := by
        rw [h00, Nat.zero_add, Array.getD_eq_getD_getElem?, arrV_read _ _ hlt]
        rfl
      rw [e1]
      rcases hel i hi with z | ⟨v, ci, fs, r, z1, z2, z3, z4⟩
      · rw [show vp_V vs i = .null by simp [vp_V, z]]
        exact ⟨rfl, trivial⟩
      · rw [show vp_V vs i = .ref v by simp [vp_V, z1]]
        obtain ⟨-, -, cellV, g1, g2, g3, -⟩ := ev_obj hH z2 z3
        obtain ⟨c0, t1, f1, f2, f3⟩ := Cond.castable_spec (va_Nw.use (A := args) rfl (hL.2.2.2.2.2.2.2.2.2.1 _ z4))
        have hcls := (hK.1 ci r z3).2
        cases hcls.1.symm.trans f1
        cases r3.symm.trans f2
        have hcomp : cm0 = comp := by
          have := hkk0.symm.trans r2
          cases this
          rfl
        subst hcomp
        obtain ⟨kC, hkC, -⟩ := hcls.2
        obtain ⟨kE, hkE, -⟩ := Vm.findClass_spec r3
        obtain ⟨kC', hkC', -⟩ := hal.2.2 _ _ hkC
        obtain ⟨kE', hkE', -⟩ := hal.2.2 _ _ hkE
        refine ⟨rfl, cellV, (show T.heap[v]? = some cellV by rw [hT]; exact g1), (fun q z => by rw [g3] at z; cases z), ⟨kC', by rw [g2]; exact hkC'⟩, ⟨kE', hkE'⟩, ?_⟩
        show vm₁.assignable _ _ = true
        rw [hal.assignable, g2]
        exact f3)
    (g := F0 m pc lsA (.int (nI k) :: .int 0 :: .ref b :: .int 0 :: .ref a :: st)) rfl (by rw [hml]; exact hl.1) (rest := st) rfl (by rw [hb]; exact hd) hf (by show 2 * 0 + _ + _ ≤ _; omega)
  have e1 : copied (arrV (g_dA G 3) vs.length (vp_V vs)) (arrV (g_dA G 3) ws.length (vp_V ws)) 0 0 (nI k) = arrV (g_dA G 3) (vs.take k ++ ws.drop k).length (vp_V (vs.take k ++ ws.drop k)) := by
    rw [← ev_cpy hk1 hk2]
    have z := va_copied (fun z : Value => z) (g_dA G 3) (g_dA G 3) (n0 := vs.length) (n1 := ws.length) (sp := 0) (dp := 0) (n := k) (vp_V vs) (vp_V ws) (by omega)
    rw [← z]
    show (arrV _ _ _).storeRun (0 : Int32).toNatClampNeg (Cell.stretch _ (0 : Int32).toNatClampNeg (nI k).toNatClampNeg) = _
    rw [h00, hkn]
  rw [e1] at X' step
  generalize hnew : arrV (g_dA G 3) (vs.take k ++ ws.drop k).length (vp_V (vs.take k ++ ws.drop k)) = nc at X' step
  have hl9 : b < H.size := (Array.getElem?_eq_some_iff.mp hc1).1
  have hheap : ((T.setVm vm').setCell b nc).heap = H.setIfInBounds b nc := by rw [← hT]; rfl
  have oq : ∀ q : Nat, q ≠ b → (H.setIfInBounds b nc)[q]? = H[q]? := fun q hq => by simp [Array.getElem?_setIfInBounds, Ne.symm hq]
  have hat : ev_at G b (103, vs.take k ++ ws.drop k) (H.setIfInBounds b nc) := Or.inr ⟨3, by omega, rfl, by rw [← hnew]; simp [Array.getElem?_setIfInBounds, hl9]⟩
  obtain ⟨t, a1, b1⟩ := K _ rfl p e s m args below meth c (H.setIfInBounds b nc) _ cells slots lsA C (hH.up hBb hat oq) ⟨by simp; exact hS.1, fun q g1 g2 => by
      rw [oq q (fun z => g2 (by rw [z]; exact hBb))]
      exact hS.2.1 q g1 g2, fun q hq => by
      rcases List.mem_append.mp hq with z | z
      · exact hS.2.2 q z
      · obtain ⟨y, -, hy⟩ := List.mem_map.mp z
        rw [← hy]
        exact hBb⟩ hl h1 h2 _ hheap X'
  exact ⟨t, step t a1, b1⟩
end COPY
