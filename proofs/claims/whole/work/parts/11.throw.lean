/-! THROWING AND CATCHING; methods of the JDK, methods with a table -/
def ev_ens : List String := ["java/lang/RuntimeException", "java/lang/Exception"]
/-- 'throw new cls(text)' in M: the pool's places, the words, the room -/
def ev_TH (M : ev_M) (ik is ic : Nat) (cls text : String) : Prop := Bundle.fit cls = true ∧ Cond.classLink (m_y M).cls ik cls ∈ ev_TB ∧ Cond.initialized cls ∈ ev_TB ∧ ((m_y M).cls, is, text) ∈ ev_strs ∧
  (∀ w ∈ vx_atS (m_y M).cls ic cls ev_ens, w ∈ ev_TB ∨ (∃ q ∈ ev_casts, w = .castable q.1 q.2) ∨ ∃ x ∈ ev_decls, w = .declares x) ∧ (∀ w ∈ Cond.classLink (m_y M).cls ik cls :: Cond.initialized cls :: vx_atS (m_y M).cls ic cls ev_ens, vx_ot w = true) ∧ 6 ≤ (m_rm M).frames ∧ 82 ≤ (m_rm M).locals
theorem ev_ens_fit : ∀ n ∈ ev_ens, Bundle.fit n = true := by decide +kernel
section THROW
variable {l : Launch} {G : ev_G} {M M' : ev_M} {pc : Nat} {ls : List (Nat × Value)} {st as stk : List Value} {h : ev_AH} {uc us uc' us' : Nat} {Q : ev_Fin} {P P' : ev_Post}
theorem e_throwS {ik is ic : Nat} {cls text : String} (d0 : decode (m_cc M) pc = .ok (.new ik, 3)) (d3 : decode (m_cc M) (pc + 3) = .ok (.dup, 1)) (d4 : decode (m_cc M) (pc + 4) = .ok (.ldc is, 2)) (d6 : decode (m_cc M) (pc + 6) = .ok (.invokespecial ic, 3)) (d9 : decode (m_cc M) (pc + 9) = .ok (.athrow, 1))
    (hw : ev_TH M ik is ic cls text) (hc : 1 ≤ uc) (hs : 6 ≤ us) (hP : P (.inr cls) h) (hno : m_ht M = [] := by rfl) : Ev l G M pc ls [] h uc us (ev_fin G M P) := by
  intro p e s m args below meth c H locs cells slots lsA C hH hS hl h1 h2
  obtain ⟨hx, hb, hml, hown, hts, hr, hlk, hnm, htb, hst, hK, hB, hL⟩ := id C
  obtain ⟨w0, w1, w2, w3, w4, w5, w6, w7⟩ := hw
  obtain ⟨l1, l2, l3, l4, l5, l6, l7, l8, l9, l10, l11, l12, l13, l14⟩ := hL
  obtain ⟨sa, hsa⟩ := l5 _ w3
  have hrc : (m_rm M).cells = m_mc M := rfl
  have hrs : (m_rm M).slots = m_ms M := rfl
  refine vx_throwS (A := g_A G) (names := ev_ens) (text := text) (sa := sa) hx hb hst hown w0 ev_ens_fit (hts _ w1) (hts _ w2) hsa ?_ w5 l3 l4 hS (by rw [hml]; exact hl.1) d0 d3 d4 d6 d9 ?_ ?_ ?_ (by rw [hrc]; omega) (by rw [hrs]; omega) hlk ?_ hS.2.2 (by omega) (by omega)
  · intro w hw
    rcases w4 w hw with z | ⟨q, z, rfl⟩ | ⟨x, z, rfl⟩
    · exact hts _ z
    · exact va_Nw.use rfl (l10 _ z)
    · exact va_Nw.use rfl (l14 _ z)
  · rw [htb, hno]
    intro x hx9
    cases hx9
  · show 2 + 3 < _
    omega
  · show 0 + (13 * 3 + 43) ≤ _
    omega
  · intro t _ z1 z2
    exact ⟨h, hP, hH.keep z2, Nat.le_trans hS.1 z1, fun q a1 a2 => (z2 q (Nat.lt_of_lt_of_le a1 hS.1)).trans (hS.2.1 q a1 a2)⟩
/-- caught by the row x of this method's table -/
theorem e_catch {E : String} (pre : List (Nat × Nat × Nat × Nat)) (x : Nat × Nat × Nat × Nat) (suf : List (Nat × Nat × Nat × Nat)) (hsplit : m_ht M = pre ++ x :: suf)
    (hpass : ∀ z ∈ pre, z.2.2.2 ≠ 0 ∧ ∃ nm : String, Cond.classLink (m_y M).cls z.2.2.2 nm ∈ ev_TB ∧ (E, nm) ∈ ev_nocasts) (hcov : covers ⟨x.1, x.2.1, x.2.2.1, x.2.2.2⟩ pc = true) (h0 : x.2.2.2 ≠ 0)
    (hlink : Cond.classLink (m_y M).cls x.2.2.2 E ∈ ev_TB) (hcast : (E, E) ∈ ev_casts) (K : ∀ q : Nat, Ev l G M x.2.2.1 ls [.ref q] h uc us Q) : EvX l G M pc ls h uc us Q E := by
  intro p e s m args below meth c H locs cells slots lsA st q ce C hH hS hl h1 h2 hce hcv hcl
  obtain ⟨hx, hb, hml, hown, hts, hr, hlk, hnm, htb, hst, hK, hB, hL⟩ := id C
  obtain ⟨l1, l2, l3, l4, l5, l6, l7, l8, l9, l10, l11, l12, l13, l14⟩ := hL
  refine vx_catch (own := (m_y M).cls) (name := E) (E := E) hown (tableOf pre) ⟨x.1, x.2.1, x.2.2.1, x.2.2.2⟩ (tableOf suf) (by rw [htb, hsplit]; simp [tableOf]) ?_ hcov h0 (hts _ hlink) (va_Nw.use rfl (l10 _ hcast)) hce hcv hcl (K q p e s m args below meth c H locs cells slots lsA C hH hS hl h1 h2)
  intro z hz
  obtain ⟨y, hy, rfl⟩ := List.mem_map.mp hz
  obtain ⟨y1, nm, y2, y3⟩ := hpass y hy
  exact Or.inr ⟨y1, nm, hts _ y2, l11 _ y3⟩
/-- the walk from the entry gives the contract: a method with a table -/
theorem Mt.ofH {as : List Value} (hy : plainName (m_y M).cls = true) (ht : ∃ q r, m_ht M = q :: r) (hn : (lg_sl as).length ≤ m_nL M) (K : Ev l G M 0 (lv_args 0 as) [] h (m_mc M) (m_ms M) (ev_fin G M P)) : Mt l G M as h P := by
  obtain ⟨q0, r0, ht⟩ := ht
  have hcode : m_code M = .codeWith (m_y M) (m_cc M) (m_nL M) (m_rt M) (m_ht M) := by
    unfold m_code
    unfold m_ht at ht
    rw [ht]
  unfold Mt
  rw [hcode]
  refine vx_ofWH (cc := m_cc M) (maxL := m_nL M) (ret := m_rt M) (hh := m_ht M) hy rfl ?_
  intro p e s m args below meth c s₁ B hml hv
  obtain ⟨rfl, hst, hH, hK, hB, hL⟩ := hv
  have hts := atoms_spec (ws := Cond.codeWith (m_y M) (m_cc M) (m_nL M) (m_rt M) (m_ht M) :: ev_TB) B.pre
  have htb : c.exceptionTable.toList = tableOf (m_ht M) := vx_table (x := m_y M) B (hts _ List.mem_cons_self)
  have hl := lv_entry as (n := m_nL M) hn
  rw [lg_entry_eq]
  exact K p e s m _ below meth c s.heap [] 0 0 _ ⟨B.exec, B.bytes, hml, findClass_of_methodNamed B.named, fun w hw => hts w (List.mem_cons_of_mem _ hw), B.returns, B.notSynchronized, (name_of_methodNamed B.named B.method).1, htb, hst, hK, hB, hL⟩ hH va_S.rf hl (by omega) (by omega)
end THROW
theorem ev_ofWJ {l : Launch} {y : MethodName} {ws ws' : List Cond} {rm : Room} {Pc : Array Value → State → Prop} {Qc : Array Value → State → Outcome → State → Prop} {XC : String → State → State → Prop} {mc ms : Nat} {free : Addr → Prop} {cc : ByteArray} {maxL : Nat} {ret : Option FieldType}
    (hy : plainFor y = true) (hw : ws = Cond.code y cc maxL ret :: ws')
    (body : ∀ p e s m args below meth c s₁, BodyLoose p l y (headSpec ws rm) cc maxL ret e s m args below meth c s₁ → c.maxLocals = maxL → (∀ x ∈ c.exceptionTable.toList, False) → Pc args s →
      W p l e (headSpec ws rm).room s m args below meth c s.heap [] 0 0 (vx_MQ below Qc XC args s mc ms free) (entryFrame m args maxL)) : vx_Met l y ws rm Pc Qc XC mc ms free := by
  refine MetFree.of_bodySF (code := cc) (maxLocals := maxL) (ret := ret) hy ?_ ?_
  · intro args s m h hn
    obtain ⟨meth, c, h1, h2, h3, h4, h5, h6, -, -⟩ := Cond.code_spec hn (atoms_spec (ws := ws) h _ (by rw [hw]; exact List.mem_cons_self))
    exact ⟨meth, c, h1, h2, h3, h4, h5, h6⟩
  · intro p e s m args below meth c s₁ B hml hP _
    have hh0 : s₁.heap = s.heap := by rw [B.state]; rfl
    have ht : ∀ x ∈ c.exceptionTable.toList, False := by
      obtain ⟨meth9, c9, h1, h2, -, -, -, -, h7, -⟩ := Cond.code_spec B.named (atoms_spec (ws := ws) B.pre _ (by rw [hw]; exact List.mem_cons_self))
      cases Option.some.inj (h1.symm.trans B.method)
      cases Option.some.inj (h2.symm.trans (Stand.of_body B).code)
      intro x hx
      rw [Array.isEmpty_iff.mp h7] at hx
      cases hx
    obtain ⟨t, a1, o, b1, b2, b3⟩ := body p e s m args below meth c s₁ B hml ht hP s₁ hh0 (Stand.of_body B)
    exact ⟨t, o, a1, b1, b2, b3⟩
/-- .. a method of the JDK's -/
theorem Mt.ofJ {l : Launch} {G : ev_G} {M : ev_M} {h : ev_AH} {P : ev_Post} {as : List Value} (hy : plainFor (m_y M) = true) (ht : m_ht M = []) (hn : (lg_sl as).length ≤ m_nL M) (K : Ev l G M 0 (lv_args 0 as) [] h (m_mc M) (m_ms M) (ev_fin G M P)) : Mt l G M as h P := by
  have hcode : m_code M = .code (m_y M) (m_cc M) (m_nL M) (m_rt M) := by
    unfold m_code
    unfold m_ht at ht
    rw [ht]
  unfold Mt
  rw [hcode]
  refine ev_ofWJ (cc := m_cc M) (maxL := m_nL M) (ret := m_rt M) hy rfl ?_
  intro p e s m args below meth c s₁ B hml htab hv
  obtain ⟨rfl, hst, hH, hK, hB, hL⟩ := hv
  have hts := atoms_spec (ws := Cond.code (m_y M) (m_cc M) (m_nL M) (m_rt M) :: ev_TB) B.pre
  have htb : c.exceptionTable.toList = tableOf (m_ht M) := by
    rw [ht]
    cases q : c.exceptionTable.toList with
    | nil => rfl
    | cons x xs => exact (htab x (by rw [q]; exact List.mem_cons_self)).elim
  have hl := lv_entry as (n := m_nL M) hn
  rw [lg_entry_eq]
  exact K p e s m _ below meth c s.heap [] 0 0 _ ⟨B.exec, B.bytes, hml, findClass_of_methodNamed B.named, fun w hw => hts w (List.mem_cons_of_mem _ hw), B.returns, B.notSynchronized, (name_of_methodNamed B.named B.method).1, htb, hst, hK, hB, hL⟩ hH va_S.rf hl (by omega) (by omega)
/-- a static call of a method with a table -/
def ev_CW (M : ev_M) (idx : Nat) (M' : ev_M) (n : Nat) : Prop := (∃ q r, m_ht M' = q :: r) ∧ Cond.methodLink (m_y M).cls idx (m_y M') ∈ ev_TB ∧ Cond.static (m_y M') ∈ ev_TB ∧ Cond.initialized (m_y M').cls ∈ ev_TB ∧ m_code M' ∈ ev_TB ∧
  ((m_y M').cls ≠ "java/lang/invoke/MethodHandle" ∧ (m_y M').cls ≠ "java/lang/invoke/VarHandle" ∧ (parseMethodDescriptor (m_y M').desc).map (fun d => d.parameters.length) = some n) ∧ ev_room M M'
section MISC2
variable {l : Launch} {G : ev_G} {M M' : ev_M} {pc : Nat} {ls : List (Nat × Value)} {st as stk : List Value} {h : ev_AH} {uc us uc' us' : Nat} {Q : ev_Fin} {P P' : ev_Post} {X : String → ev_AH → Prop}
theorem e_callW {idx n : Nat} (hd : decode (m_cc M) pc = .ok (.invokestatic idx, 3)) (hw : ev_CW M idx M' n) (hn : as.length = n) (hstk : as.reverse ++ st = stk) (hm : Mt l G M' as h P') (hsum : (st.map fun v => v.category).sum ≤ 8) (hc : m_mc M' + uc' ≤ uc) (hs : m_ms M' + us' ≤ us)
    (K : ∀ (v : Option Value) (h' : ev_AH), P' (.inl v) h' → Ev l G M (pc + 3) ls (v.toList ++ st) h' uc' us' Q)
    (KX : ∀ (E : String) (h' : ev_AH), P' (.inr E) h' → EvX l G M pc ls h' uc' us' Q E) : Ev l G M pc ls stk h uc us Q := by
  intro p e s m args below meth c H locs cells slots lsA C hH hS hl h1 h2
  obtain ⟨hx, hb, hml, hown, hts, hr, hlk, hnm, htb, hst, hK, hB, hL⟩ := id C
  obtain ⟨⟨q0, r0, w0⟩, w1, w2, w4, w5, w6, w7⟩ := hw
  have hcode : m_code M' = .codeWith (m_y M') (m_cc M') (m_nL M') (m_rt M') (m_ht M') := by
    unfold m_code
    unfold m_ht at w0
    rw [w0]
  have hm' : vx_Met l (m_y M') (m_code M' :: ev_TB) (m_rm M') (ev_Pc l G as h) (ev_Qc G P') (ev_XC G P') (m_mc M') (m_ms M') (g_A G) := hm
  have cw : vx_CSW (m_rm M) s args (m_y M).cls idx (m_y M') (m_cc M') (m_nL M') (m_rt M') (m_ht M') (m_code M' :: ev_TB) (m_rm M') (m_mc M') (m_ms M') n := by
    refine ⟨⟨rfl, rfl, w7.1, w7.2, pay_in hts (ev_goodW w5), by rw [hcode]; exact List.mem_cons_self⟩, by rw [← hcode]; exact hts _ w5, hts _ w4, ⟨w6.1, w6.2.1⟩, fun sig hs9 => ?_, hts _ w1, hts _ w2⟩
    have z := w6.2.2
    rw [hs9] at z
    exact (Option.some.inj z).symm
  refine ev_back (st := st) (vx_runSX (As := as) (rest := st) (cc := m_cc M) (nL := m_nL M) ⟨hx, hb, hml, hown, hts⟩ hm' cw ⟨ev_Pc.blind, fun U hU hW => ev_hand C hH hS _ U hU hW⟩ rfl hn hl.1 hstk.symm (lv_room hsum) hd ⟨?_, ?_⟩) C hS hl h1 h2 hc hs K KX
  · show cells + _ ≤ m_mc M
    omega
  · show slots + _ ≤ m_ms M
    omega
theorem e_callWi {A : Int32 → ev_AH → Prop} {idx n : Nat} (hd : decode (m_cc M) pc = .ok (.invokestatic idx, 3)) (hw : ev_CW M idx M' n) (hn : as.length = n) (hstk : as.reverse ++ st = stk) (hm : Mt l G M' as h (ev_pi A X)) (hsum : (st.map fun v => v.category).sum ≤ 8) (hc : m_mc M' + uc' ≤ uc) (hs : m_ms M' + us' ≤ us) (K : ∀ (r : Int32) (h' : ev_AH), A r h' → Ev l G M (pc + 3) ls (.int r :: st) h' uc' us' Q) (KX : ∀ (E : String) (h' : ev_AH), X E h' → EvX l G M pc ls h' uc' us' Q E) : Ev l G M pc ls stk h uc us Q :=
  e_callW hd hw hn hstk hm hsum hc hs (fun v h' q => by obtain ⟨r, rfl, q⟩ := ev_pi_of q; exact K r h' q) (fun E h' q => KX E h' q)
theorem e_iushr {x y v : Int32} (hd : decode (m_cc M) pc = .ok (.iushr, 1)) (hv : (x.toUInt32 >>> (y.toUInt32 &&& Int32.toUInt32 31)).toInt32 = v) (K : Ev l G M (pc + 1) ls (.int v :: st) h uc us Q) : Ev l G M pc ls (.int y :: .int x :: st) h uc us Q :=
  fun p e s m args below meth c H locs cells slots lsA C hH hS hl h1 h2 => lv_iushr C.1 C.2.1 hd hv (K p e s m args below meth c H locs cells slots lsA C hH hS hl h1 h2)
theorem e_ldcw {idx : Nat} {v : Int32} (hd : decode (m_cc M) pc = .ok (.ldc_w idx, 3)) (hw : Cond.constant (m_y M).cls idx v ∈ ev_TB) (K : Ev l G M (pc + 3) ls (.int v :: st) h uc us Q) : Ev l G M pc ls st h uc us Q :=
  fun p e s m args below meth c H locs cells slots lsA C hH hS hl h1 h2 => lv_ldcw C.1 C.2.1 C.2.2.2.1 (C.2.2.2.2.1 _ hw) hd (K p e s m args below meth c H locs cells slots lsA C hH hS hl h1 h2)
/-- the length of a list's array: the empty one of the start, or a made one -/
def ev_len (G : ev_G) (h : ev_AH) (a : Nat) : Option Nat := if a = g_t0 G then some 0 else ev_n h a 103
theorem e_alenQ {a n : Nat} {v : Int32} (hd : decode (m_cc M) pc = .ok (.arraylength, 1)) (hn : ev_len G h a = some n) (hv : nI n = v) (K : Ev l G M (pc + 1) ls (.int v :: st) h uc us Q) : Ev l G M pc ls (.ref a :: st) h uc us Q := by
  unfold ev_len at hn
  by_cases z : a = g_t0 G
  · rw [if_pos z] at hn
    cases hn
    subst z
    subst hv
    exact e_alen0 hd K
  · rw [if_neg z] at hn
    exact e_alen (j := 3) hd hn hv K
end MISC2
