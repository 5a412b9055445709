/-! CALLS AND ENDS -/
/-- what a call of M' by M needs of the tables and of the room; n arguments -/
def ev_room (M M' : ev_M) : Prop := (m_rm M').frames + 1 ≤ (m_rm M).frames ∧ 8 + (m_nL M' + 11) + (m_rm M').locals ≤ (m_rm M).locals
def ev_CV (M : ev_M) (idx : Nat) (M' : ev_M) (ci n : Nat) : Prop := (∃ r : vw_C, ev_cl[ci]? = some r ∧ (m_y M').cls = r.1) ∧ m_ht M' = [] ∧ Cond.methodLink (m_y M).cls idx (m_y M') ∈ ev_TB ∧ Cond.instanceMethod (m_y M') ∈ ev_TB ∧ Cond.selects (m_y M').cls (m_y M') (m_y M') ∈ ev_TB ∧ Cond.initialized (m_y M').cls ∈ ev_TB ∧ m_code M' ∈ ev_TB ∧
  ((m_y M').cls ≠ "java/lang/invoke/MethodHandle" ∧ (m_y M').cls ≠ "java/lang/invoke/VarHandle" ∧ (parseMethodDescriptor (m_y M').desc).map (fun d => d.parameters.length) = some n) ∧ ev_room M M'
def ev_CS (M : ev_M) (idx : Nat) (M' : ev_M) (n : Nat) : Prop := m_ht M' = [] ∧ Cond.methodLink (m_y M).cls idx (m_y M') ∈ ev_TB ∧ Cond.static (m_y M') ∈ ev_TB ∧ Cond.initialized (m_y M').cls ∈ ev_TB ∧ m_code M' ∈ ev_TB ∧
  ((m_y M').cls ≠ "java/lang/invoke/MethodHandle" ∧ (m_y M').cls ≠ "java/lang/invoke/VarHandle" ∧ (parseMethodDescriptor (m_y M').desc).map (fun d => d.parameters.length) = some n) ∧ ev_room M M'
theorem m_code_nil {M : ev_M} (ht : m_ht M = []) : m_code M = .code (m_y M) (m_cc M) (m_nL M) (m_rt M) := by
  unfold m_code
  unfold m_ht at ht
  rw [ht]
theorem ev_goodW {M : ev_M} (hc : m_code M ∈ ev_TB) : GoodIn ev_TB (m_code M :: ev_TB) := by
  intro w hw
  rcases List.mem_cons.mp hw with rfl | hw
  · exact ev_good _ hc
  · exact ev_good _ hw
section CALLS
variable {l : Launch} {G : ev_G} {M M' : ev_M} {pc : Nat} {ls : List (Nat × Value)} {st as stk : List Value} {h : ev_AH} {uc us uc' us' : Nat} {Q : ev_Fin} {P P' : ev_Post}
/-- what the caller hands over -/
theorem ev_hand {p : Program} {s : State} {m : MethodId} {args : Array Value} {meth : Method} {c : Code} {H : Heap} {locs : List Loc} (C : ev_C l G M p s m args meth c) (hH : ev_H G h H) (hS : va_S (g_A G) s.heap H locs) (as : List Value) (U : State) (hU : U.heap = H) (hW : s.WarmedH U.vm) : ev_Pc l G as h as.toArray U := by
  obtain ⟨hx, hb, hml, hown, hts, hr, hlk, hnm, htb, hst, hK, hB, hL⟩ := C
  refine ⟨rfl, hst, by rw [hU]; exact hH, va_K.moved hW.alike hK, by rw [hU]; exact Nat.le_trans hB hS.1, ?_⟩
  rw [hU]
  exact ev_Low.moved hW (hL.kept hS.2.1)
/-- behind a call -/
theorem ev_back {p : Program} {e : Env} {s : State} {m : MethodId} {args : Array Value} {below : List Frame} {meth : Method} {c : Code} {H : Heap} {locs : List Loc} {cells slots : Nat} {lsA : Array Slot} {a : Array Value}
    (hr : vx_Run p l e (m_rm M) s m args below meth c H locs cells slots (m_mc M') (m_ms M') (F0 m pc lsA stk) st (ev_Qc G P' a) (ev_XC G P') (g_A G))
    (C : ev_C l G M p s m args meth c) (hS : va_S (g_A G) s.heap H locs) (hl : lv_has lsA (m_nL M) ls) (h1 : cells + uc ≤ m_mc M) (h2 : slots + us ≤ m_ms M) (hc : m_mc M' + uc' ≤ uc) (hs : m_ms M' + us' ≤ us)
    (K : ∀ (v : Option Value) (h' : ev_AH), P' (.inl v) h' → Ev l G M (pc + 3) ls (v.toList ++ st) h' uc' us' Q)
    (X : ∀ (E : String) (h' : ev_AH), P' (.inr E) h' → EvX l G M pc ls h' uc' us' Q E) : W p l e (m_rm M) s m args below meth c H locs cells slots (Q below args s) (F0 m pc lsA stk) := by
  intro T hT Y
  rcases hr T hT Y with ⟨v, st₀, t, T', L, h0, Y', hL', e1, e2, ⟨v', h', hv, hP, hH', hF⟩, stp⟩ | ⟨q, st₀, t, T', L, E, ce, h0, Y', hL', e1, e2, ⟨h', hP, hH', hF⟩, hce, hcv, hcl, stp⟩
  · cases hv
    have hS' : va_S (g_A G) s.heap T'.heap (locs ++ L) := (vx_keep h0 e1 hS (fun _ _ z => z) (fun _ z => z) hL' hF).2.2
    obtain ⟨t2, a1, b1⟩ := K v h' hP p e s m args below meth c T'.heap (locs ++ L) (cells + m_mc M') (slots + m_ms M') lsA C (by rw [e1]; exact hH') hS' hl (by omega) (by omega) T' rfl Y'
    exact ⟨t2, stp t2 a1, b1⟩
  · have hS' : va_S (g_A G) s.heap T'.heap (locs ++ L) := (vx_keep h0 e1 hS (fun _ _ z => z) (fun _ z => z) hL' hF).2.2
    obtain ⟨t2, a1, b1⟩ := X E h' hP p e s m args below meth c T'.heap (locs ++ L) (cells + m_mc M') (slots + m_ms M') lsA st q ce C (by rw [e1]; exact hH') hS' hl (by omega) (by omega) (by rw [e1]; exact hce) hcv hcl T' rfl Y'
    exact ⟨t2, stp.trans a1, b1⟩
theorem e_callV {b idx ci n : Nat} (hd : decode (m_cc M) pc = .ok (.invokevirtual idx, 3)) (hw : ev_CV M idx M' ci n) (hn : as.length = n) (hstk : as.reverse ++ .ref b :: st = stk) (hob : ∃ fs : List Value, h b = some (ci, fs)) (hm : Mt l G M' (.ref b :: as) h P') (hsum : (st.map fun v => v.category).sum ≤ 8) (hc : m_mc M' + uc' ≤ uc) (hs : m_ms M' + us' ≤ us)
    (K : ∀ (v : Option Value) (h' : ev_AH), P' (.inl v) h' → Ev l G M (pc + 3) ls (v.toList ++ st) h' uc' us' Q)
    (X : ∀ (E : String) (h' : ev_AH), P' (.inr E) h' → EvX l G M pc ls h' uc' us' Q E) : Ev l G M pc ls stk h uc us Q := by
  intro p e s m args below meth c H locs cells slots lsA C hH hS hl h1 h2
  obtain ⟨hx, hb, hml, hown, hts, hr, hlk, hnm, htb, hst, hK, hB, hL⟩ := id C
  obtain ⟨⟨r, r1, r2⟩, w0, w1, w2, w3, w4, w5, w6, w7⟩ := hw
  obtain ⟨fs, ho⟩ := hob
  obtain ⟨-, -, cellB, g1, g2, g3, -⟩ := ev_obj hH ho r1
  have hcode := m_code_nil w0
  have hm' : vx_Met l (m_y M') (m_code M' :: ev_TB) (m_rm M') (ev_Pc l G (.ref b :: as) h) (ev_Qc G P') (ev_XC G P') (m_mc M') (m_ms M') (g_A G) := hm
  have cw : CallW (m_rm M) s args (m_y M).cls (m_y M').cls idx (m_y M') (m_cc M') (m_nL M') (m_rt M') (m_code M' :: ev_TB) (m_rm M') (m_mc M') (m_ms M') n :=
    ⟨callB_of n hts (ev_goodW w5) (by rw [hcode]) rfl rfl (hts _ w4) (hts _ w1) w6 w7, hts _ w2, hts _ w3⟩
  have hrec : ∃ cell : Cell, H[b]? = some cell ∧ cell.vm.isStatics = false ∧ s.vm.findClass (m_y M').cls = some cell.cls := ⟨cellB, g1, by rw [g3]; rfl, by rw [r2, g2]; exact (hK.1 ci r r1).2.1⟩
  refine ev_back (st := st) (vx_runV (As := as) (rest := st) (b := b) (cc := m_cc M) (nL := m_nL M) ⟨hx, hb, hml, hown, hts⟩ hm' cw ⟨ev_Pc.blind, hrec, fun U hU hW => ev_hand C hH hS _ U hU hW⟩ rfl hn hl.1 hstk.symm (lv_room hsum) hd ⟨?_, ?_⟩) C hS hl h1 h2 hc hs K X
  · show cells + _ ≤ m_mc M
    omega
  · show slots + _ ≤ m_ms M
    omega
theorem e_callS {idx n : Nat} (hd : decode (m_cc M) pc = .ok (.invokestatic idx, 3)) (hw : ev_CS M idx M' n) (hn : as.length = n) (hstk : as.reverse ++ st = stk) (hm : Mt l G M' as h P') (hsum : (st.map fun v => v.category).sum ≤ 8) (hc : m_mc M' + uc' ≤ uc) (hs : m_ms M' + us' ≤ us)
    (K : ∀ (v : Option Value) (h' : ev_AH), P' (.inl v) h' → Ev l G M (pc + 3) ls (v.toList ++ st) h' uc' us' Q)
    (X : ∀ (E : String) (h' : ev_AH), P' (.inr E) h' → EvX l G M pc ls h' uc' us' Q E) : Ev l G M pc ls stk h uc us Q := by
  intro p e s m args below meth c H locs cells slots lsA C hH hS hl h1 h2
  obtain ⟨hx, hb, hml, hown, hts, hr, hlk, hnm, htb, hst, hK, hB, hL⟩ := id C
  obtain ⟨w0, w1, w2, w4, w5, w6, w7⟩ := hw
  have hcode := m_code_nil w0
  have hm' : vx_Met l (m_y M') (m_code M' :: ev_TB) (m_rm M') (ev_Pc l G as h) (ev_Qc G P') (ev_XC G P') (m_mc M') (m_ms M') (g_A G) := hm
  have cw : CallB (m_rm M) s args (m_y M).cls idx (m_y M') (m_cc M') (m_nL M') (m_rt M') (m_code M' :: ev_TB) (m_rm M') (m_mc M') (m_ms M') n ∧ (Cond.static (m_y M')).before args s = true :=
    ⟨callB_of n hts (ev_goodW w5) (by rw [hcode]) rfl rfl (hts _ w4) (hts _ w1) w6 w7, hts _ w2⟩
  refine ev_back (st := st) (vx_runS (As := as) (rest := st) (cc := m_cc M) (nL := m_nL M) ⟨hx, hb, hml, hown, hts⟩ hm' cw ⟨ev_Pc.blind, fun U hU hW => ev_hand C hH hS _ U hU hW⟩ rfl hn hl.1 hstk.symm (lv_room hsum) hd ⟨?_, ?_⟩) C hS hl h1 h2 hc hs K X
  · show cells + _ ≤ m_mc M
    omega
  · show slots + _ ≤ m_ms M
    omega
/-- it leaves this method too -/
theorem e_out {E : String} (hnone : ∀ x ∈ tableOf (m_ht M), covers x pc = false) (hP : P (.inr E) h) : EvX l G M pc ls h uc us (ev_fin G M P) E := by
  intro p e s m args below meth c H locs cells slots lsA st q ce C hH hS hl h1 h2 hce hcv hcl
  obtain ⟨hx, hb, hml, hown, hts, hr, hlk, hnm, htb, hst, hK, hB, hL⟩ := id C
  exact vx_out (by rw [htb]; exact hnone) hlk hce hcv hcl (fun t ht hvm => ⟨h, hP, by rw [ht]; exact hH, hS.F ht⟩) hS.2.2 (by omega) (by omega)
theorem e_iret {v : Int32} (hd : decode (m_cc M) pc = .ok (.ireturn, 1)) (hr : m_rt M = some .int) (hP : P (.inl (some (.int v))) h) : Ev l G M pc ls [.int v] h uc us (ev_fin G M P) := by
  intro p e s m args below meth c H locs cells slots lsA C hH hS hl h1 h2
  obtain ⟨hx, hb, hml, hown, hts, hrt, hlk, hnm, htb, hst, hK, hB, hL⟩ := id C
  refine vx_ret (W.widen (k := m_mc M) (n := m_ms M) (by omega) (by omega) ?_)
  exact W.iret hx hb (hrt.trans hr) (fun t ht hW => ⟨_, h, rfl, hP, by rw [ht]; exact hH, hS.F ht⟩) hS.2.2 hd
theorem e_zret {v : Int32} (hd : decode (m_cc M) pc = .ok (.ireturn, 1)) (hr : m_rt M = some .boolean) (hn : narrow .boolean (.int v) = .int v) (hP : P (.inl (some (.int v))) h) : Ev l G M pc ls [.int v] h uc us (ev_fin G M P) := by
  intro p e s m args below meth c H locs cells slots lsA C hH hS hl h1 h2
  obtain ⟨hx, hb, hml, hown, hts, hrt, hlk, hnm, htb, hst, hK, hB, hL⟩ := id C
  refine vx_ret (W.widen (k := m_mc M) (n := m_ms M) (by omega) (by omega) ?_)
  exact W.zret hx hb (hrt.trans hr) hn (fun t ht hW => ⟨_, h, rfl, hP, by rw [ht]; exact hH, hS.F ht⟩) hS.2.2 hd
theorem e_lret {v : Int64} (hd : decode (m_cc M) pc = .ok (.lreturn, 1)) (hr : m_rt M = some .long) (hP : P (.inl (some (.long v))) h) : Ev l G M pc ls [.long v] h uc us (ev_fin G M P) := by
  intro p e s m args below meth c H locs cells slots lsA C hH hS hl h1 h2
  obtain ⟨hx, hb, hml, hown, hts, hrt, hlk, hnm, htb, hst, hK, hB, hL⟩ := id C
  refine vx_ret (W.widen (k := m_mc M) (n := m_ms M) (by omega) (by omega) ?_)
  exact W.lret hx hb (hrt.trans hr) (fun t ht hW => ⟨_, h, rfl, hP, by rw [ht]; exact hH, hS.F ht⟩) hS.2.2 hd
theorem e_vret (hd : decode (m_cc M) pc = .ok (.return_, 1)) (hr : m_rt M = none) (hP : P (.inl none) h) : Ev l G M pc ls [] h uc us (ev_fin G M P) := by
  intro p e s m args below meth c H locs cells slots lsA C hH hS hl h1 h2
  obtain ⟨hx, hb, hml, hown, hts, hrt, hlk, hnm, htb, hst, hK, hB, hL⟩ := id C
  refine vx_ret (W.widen (k := m_mc M) (n := m_ms M) (by omega) (by omega) ?_)
  exact W.vret hx hb (hrt.trans hr) (fun t ht hW => ⟨_, h, rfl, hP, by rw [ht]; exact hH, hS.F ht⟩) hS.2.2 hd
theorem e_aret {a : Nat} {rt : FieldType} (hd : decode (m_cc M) pc = .ok (.areturn, 1)) (hr : m_rt M = some rt) (hrt2 : (∃ n, rt = .object n) ∨ ∃ t, rt = .array t) (hP : P (.inl (some (.ref a))) h) : Ev l G M pc ls [.ref a] h uc us (ev_fin G M P) := by
  intro p e s m args below meth c H locs cells slots lsA C hH hS hl h1 h2
  obtain ⟨hx, hb, hml, hown, hts, hrt, hlk, hnm, htb, hst, hK, hB, hL⟩ := id C
  refine vx_ret (W.widen (k := m_mc M) (n := m_ms M) (by omega) (by omega) ?_)
  exact W.aret hx hb (hrt.trans hr) hrt2 (Or.inr ⟨a, rfl⟩) (fun t ht hW => ⟨_, h, rfl, hP, by rw [ht]; exact hH, hS.F ht⟩) hS.2.2 hd
end CALLS
def ev_CI (M : ev_M) (idx : Nat) (M' : ev_M) (n : Nat) : Prop := m_ht M' = [] ∧ m_rt M' = none ∧ (m_y M').name = "<init>" ∧ Cond.methodLink (m_y M).cls idx (m_y M') ∈ ev_TB ∧ Cond.instanceMethod (m_y M') ∈ ev_TB ∧ Cond.initialized (m_y M').cls ∈ ev_TB ∧ m_code M' ∈ ev_TB ∧
  ((m_y M').cls ≠ "java/lang/invoke/MethodHandle" ∧ (m_y M').cls ≠ "java/lang/invoke/VarHandle" ∧ (parseMethodDescriptor (m_y M').desc).map (fun d => d.parameters.length) = some n) ∧ ev_room M M'
section CALLI
variable {l : Launch} {G : ev_G} {M M' : ev_M} {pc : Nat} {ls : List (Nat × Value)} {st as stk : List Value} {h : ev_AH} {uc us uc' us' : Nat} {Q : ev_Fin} {P P' : ev_Post}
theorem Mt.met (hm : Mt l G M as h P) (hno : ∀ (E : String) (h' : ev_AH), ¬ P (.inr E) h') : Met l (m_y M) (m_code M :: ev_TB) (m_rm M) (ev_Pc l G as h) (ev_Qc G P) (m_mc M) (m_ms M) (g_A G) := by
  intro p e ha hc hk s m args below hf happ hP hK
  obtain ⟨n, o, a1, a2, a3, a4⟩ := hm p e ha hc hk s m args below hf happ hP hK
  refine ⟨n, o, a1, a2, a3, ?_⟩
  rcases a4 with a4 | ⟨q, -, E, ce, L, ⟨h', hx, -⟩, -⟩
  · exact a4
  · exact absurd hx (hno E h')
theorem e_callI {b idx n : Nat} (hd : decode (m_cc M) pc = .ok (.invokespecial idx, 3)) (hw : ev_CI M idx M' n) (hn : as.length = n) (hstk : as.reverse ++ .ref b :: st = stk) (hm : Mt l G M' (.ref b :: as) h P') (hno : ∀ (E : String) (h' : ev_AH), ¬ P' (.inr E) h') (hsum : (st.map fun v => v.category).sum ≤ 8) (hc : m_mc M' + uc' ≤ uc) (hs : m_ms M' + us' ≤ us)
    (K : ∀ (v : Option Value) (h' : ev_AH), P' (.inl v) h' → Ev l G M (pc + 3) ls (v.toList ++ st) h' uc' us' Q) : Ev l G M pc ls stk h uc us Q := by
  intro p e s m args below meth c H locs cells slots lsA C hH hS hl h1 h2
  obtain ⟨hx, hb, hml, hown, hts, hr, hlk, hnm, htb, hst, hK, hB, hL⟩ := id C
  obtain ⟨w0, w01, w02, w1, w2, w4, w5, w6, w7⟩ := hw
  have hcode := m_code_nil w0
  rw [w01] at hcode
  have cw : CallB (m_rm M) s args (m_y M).cls idx (m_y M') (m_cc M') (m_nL M') none (m_code M' :: ev_TB) (m_rm M') (m_mc M') (m_ms M') n ∧ (m_y M').name = "<init>" ∧ (Cond.instanceMethod (m_y M')).before args s = true :=
    ⟨callB_of n hts (ev_goodW w5) (by rw [hcode]) rfl rfl (hts _ w4) (hts _ w1) w6 w7, w02, hts _ w2⟩
  have hrun := va_runI (As := as) (rest := st) (b := b) (g := F0 m pc lsA stk) (below := below) (meth := meth) (e := e) (locs := locs) (cells := cells) (slots := slots) (cc := m_cc M) (nL := m_nL M) ⟨hx, hb, hml, hown, hts⟩ (Mt.met hm hno) cw ⟨ev_Pc.blind, fun U hU hW => ev_hand C hH hS _ U hU hW⟩ rfl hn hl.1 hstk.symm (lv_room hsum) hd ⟨by show cells + _ ≤ m_mc M; omega, by show slots + _ ≤ m_ms M; omega⟩
  intro T hT Y
  obtain ⟨v, st₀, t, T', L, h0, Y', hL', e1, e2, ⟨v', h', hv, hP, hH', hF⟩, stp⟩ := hrun T hT Y
  cases hv
  have hS' : va_S (g_A G) s.heap T'.heap (locs ++ L) := (vx_keep h0 e1 hS (fun _ _ z => z) (fun _ z => z) hL' hF).2.2
  obtain ⟨t2, a1, b1⟩ := K v h' hP p e s m args below meth c T'.heap (locs ++ L) (cells + m_mc M') (slots + m_ms M') lsA C (by rw [e1]; exact hH') hS' hl (by omega) (by omega) T' rfl Y'
  exact ⟨t2, stp t2 a1, b1⟩
/-- Object's constructor -/
theorem e_obj {idx a : Nat} (hd : decode (m_cc M) pc = .ok (.invokespecial idx, 3)) (w1 : Cond.methodLink (m_y M).cls idx objectInit ∈ ev_TB) (w2 : Cond.instanceMethod objectInit ∈ ev_TB) (w3 : Cond.code objectInit ⟨#[0xb1]⟩ 1 none ∈ ev_TB) (hf : 1 ≤ (m_rm M).frames) (hlo : (st.map fun v => v.category).sum + 12 ≤ (m_rm M).locals) (K : Ev l G M (pc + 3) ls st h uc us Q) : Ev l G M pc ls (.ref a :: st) h uc us Q := by
  intro p e s m args below meth c H locs cells slots lsA C hH hS hl h1 h2
  obtain ⟨hx, hb, hml, hown, hts, hr, hlk, hnm, htb, hst, hK, hB, hL⟩ := id C
  exact W.objInit hx hb hown (hts _ w1) (hts _ w2) (hts _ w3) rfl (by rw [hml]; exact hl.1) rfl hd hf (by show 2 * 0 + _ + 12 ≤ _; omega) (K p e s m args below meth c H locs cells slots lsA C hH hS hl h1 h2)
end CALLI
