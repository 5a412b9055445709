/-! .. as a row of the walk -/
def nx_bytes : ByteArray := ⟨#[0x2a, 0x2b, 0xb7, 0x00, 0x0d, 0xb1]⟩
theorem nx_b0 : decode nx_bytes 0 = .ok (.aload_n 0, 1) := by decide +kernel
theorem nx_b1 : decode nx_bytes 1 = .ok (.aload_n 1, 1) := by decide +kernel
theorem nx_b2 : decode nx_bytes 2 = .ok (.invokespecial 13, 3) := by decide +kernel
theorem nx_b5 : decode nx_bytes 5 = .ok (.return_, 1) := by decide +kernel
def nx_at (own : String) (ic : Nat) (X : String) : List Cond := (nx_atoms own ic X 13 nx_bytes).filter vx_no
def ev_TN (M : ev_M) (ik is ic : Nat) (cls text : String) : Prop := Bundle.fit cls = true ∧ Cond.classLink (m_y M).cls ik cls ∈ ev_TB ∧ Cond.initialized cls ∈ ev_TB ∧ ((m_y M).cls, is, text) ∈ ev_strs ∧
  (∀ w ∈ nx_at (m_y M).cls ic cls, w ∈ ev_TB ∨ (∃ q ∈ ev_casts, w = .castable q.1 q.2) ∨ ∃ x ∈ ev_decls, w = .declares x) ∧ (∀ w ∈ Cond.classLink (m_y M).cls ik cls :: Cond.initialized cls :: nx_at (m_y M).cls ic cls, vx_ot w = true) ∧ 6 ≤ (m_rm M).frames ∧ 84 ≤ (m_rm M).locals
set_option maxHeartbeats 2000000 in
theorem e_throwN {l : Launch} {G : ev_G} {M : ev_M} {pc : Nat} {ls : List (Nat × Value)} {h : ev_AH} {uc us : Nat} {P : ev_Post} {ik is ic : Nat} {cls text : String} (d0 : decode (m_cc M) pc = .ok (.new ik, 3)) (d3 : decode (m_cc M) (pc + 3) = .ok (.dup, 1)) (d4 : decode (m_cc M) (pc + 4) = .ok (.ldc is, 2)) (d6 : decode (m_cc M) (pc + 6) = .ok (.invokespecial ic, 3)) (d9 : decode (m_cc M) (pc + 9) = .ok (.athrow, 1))
    (hw : ev_TN M ik is ic cls text) (hc : 1 ≤ uc) (hs : 6 ≤ us) (hP : P (.inr cls) h) (hno : m_ht M = [] := by rfl) : Ev l G M pc ls [] h uc us (ev_fin G M P) := by
  intro p e s m args below meth c H locs cells slots lsA C hH hS hl h1 h2
  obtain ⟨hx, hb, hml, hown, hts, hr, hlk, hnm, htb, hst, hK, hB, hL⟩ := id C
  obtain ⟨w0, w1, w2, w3, w4, w5, w6, w7⟩ := hw
  obtain ⟨l1, l2, l3, l4, l5, l6, l7, l8, l9, l10, l11, l12, l13, l14⟩ := hL
  obtain ⟨sa, hsa⟩ := l5 _ w3
  have hrc : (m_rm M).cells = m_mc M := rfl
  have hrs : (m_rm M).slots = m_ms M := rfl
  have hat : ∀ w ∈ nx_at (m_y M).cls ic cls, w.before args s = true := by
    intro w hw
    rcases w4 w hw with z | ⟨q, z, rfl⟩ | ⟨x, z, rfl⟩
    · exact hts _ z
    · exact va_Nw.use rfl (l10 _ z)
    · exact va_Nw.use rfl (l14 _ z)
  intro T hT X
  have htr : e.platform.stackTraces = false := (show e.platform.stackTraces = l.stackTraces by rw [X.admits.platform]).trans hst
  have Y := vx_rebase X (R' := { frames := (m_rm M).frames, locals := (m_rm M).locals, cells := 1, slots := 6 }) (Nat.le_refl _) (Nat.le_refl _) (by rw [hrc]; show cells + 1 ≤ _; omega) (by rw [hrs]; show slots + 6 ≤ _; omega)
  obtain ⟨s', hA⟩ : ∃ z, z = (T.setVm s.vm).setFrames (.invoking m args :: below) := ⟨_, rfl⟩
  rw [← hA] at Y
  have hvm : s'.vm = s.vm := by rw [hA]; rfl
  have hhp : s'.heap = H := by rw [hA]; exact hT
  have hW0 : s.WarmedH s'.vm := by rw [hvm]; exact State.WarmedH.refl s
  have hat' : ∀ w ∈ nx_at (m_y M).cls ic cls, w.before args s' = true := fun w hw => vx_ot_at hW0 hvm.symm (w5 w (List.mem_cons_of_mem _ (List.mem_cons_of_mem _ hw))) (hat w hw)
  have hk' : (Cond.classLink (m_y M).cls ik cls).before args s' = true := vx_ot_at hW0 hvm.symm (w5 _ List.mem_cons_self) (hts _ w1)
  have hini' : (Cond.initialized cls).before args s' = true := vx_ot_at hW0 hvm.symm (w5 _ (List.mem_cons_of_mem _ List.mem_cons_self)) (hts _ w2)
  have hU' : vx_Zq Bundle.tN "UNASSIGNED_STACK" Bundle.steD (g_A G) s' s'.heap := by rw [hhp]; exact vx_Zq.moved hW0.alike (l3.kept hS.2.1)
  have hN' : vx_Zq Bundle.tN "SUPPRESSED_SENTINEL" Bundle.listD (g_A G) s' s'.heap := by rw [hhp]; exact vx_Zq.moved hW0.alike (l4.kept hS.2.1)
  have hall0 : ∀ w ∈ nx_atoms (m_y M).cls ic cls 13 nx_bytes, w.before args s' = true := vx_own hat' (vx_isRefq hU'.1) (vx_isRefq hN'.1) hU'.2.word hN'.2.word
  have hown' : s'.vm.findClass (m_y M).cls = some m.cls := by rw [hvm]; exact hown
  have hins : (Cond.instantiable cls 6).before args s' = true := hall0 _ (by simp [nx_atoms])
  obtain ⟨vm₁, cX, kX, hfX, hkX, -, -, X₁, st1⟩ := Y.newCold hx (own := (m_y M).cls) (C := cls) (index := ik) (n := 6) hown' hk' hins hini'
    (g := F0 m pc lsA []) rfl (by rw [hb]; exact d0) (Nat.le_refl _) (Nat.le_refl _)
  generalize hT1 : (T.setVm vm₁).pushCell { cls := cX, slots := kX.instanceTypes.map defaultValue, vm := .none } = T1 at X₁ st1
  have hcat : (Value.ref T.heap.size).category = 1 := rfl
  have hcellA : T1.heap[T.heap.size]? = some (freshCell cX kX) := by rw [← hT1]; exact State.heap_pushCell_size _ _
  have d3' : decode c.code (pc + 3) = .ok (.dup, 1) := by rw [hb]; exact d3
  have d4' : decode c.code (pc + 4) = .ok (.ldc is, 2) := by rw [hb]; exact d4
  have hstr' : vk_R (m_y M).cls is text sa s' := vk_R.warm hW0 hsa
  obtain ⟨U, hsteps, hrun, hend, hW, hsame, ce, hce, hO1, hO2⟩ := nx_ctor X₁ hx htr (own := (m_y M).cls) (cls := cls) (ic := ic) nx_b0 nx_b1 nx_b2 nx_b5 hown' w0 hall0 (fun x hx => nomatch hx) hfX hkX hcellA (by rw [hhp, hT]; exact Nat.le_refl _) (msg := .ref sa) rfl
    (g := { method := m, pc := pc + 6, locals := lsA, stack := .ref sa :: .ref T.heap.size :: .ref T.heap.size :: [], locked := none }) rfl (by rw [hml]; exact hl.1) rfl rfl (rest := []) rfl
    (by rw [hb]; exact d6) (by rw [hb]; exact d9) (by rw [htb, hno]; intro x hx9; cases hx9) (by show 5 < (m_rm M).frames; omega) (by simp only [List.map_cons, List.map_nil, List.sum_cons, List.sum_nil, hcat]; show 2 * 0 + _ + 81 ≤ (m_rm M).locals; omega) hlk
  obtain ⟨f1, f2⟩ := vx_frame hsame
  rw [hhp] at f1 f2
  have hWs : s.WarmedH U.vm := State.WarmedH.trans hW0 hW
  have hcl : s.vm.findClass cls = some ce.cls := by
    rw [hvm] at hO2
    exact hO2
  have hall : s.sameButNew ({ U with vm := s.vm } : State) locs (m_mc M) (m_ms M) := by
    subst hA
    obtain ⟨e1, e2⟩ := hsame
    rw [State.setFrames_setFrames] at e1
    have z2 : (T.setVm s.vm).sameButNew ({ U with vm := s.vm } : State) [] (0 + 1) (0 + 6) := ⟨e1, e2⟩
    have z3 := X.same.trans z2
    rw [List.append_nil] at z3
    exact z3.mono (by omega) (by omega)
  have z2 : ∀ q : Nat, q < H.size → U.heap[q]? = H[q]? := fun q hq => f2 q hq (fun z hz => nomatch hz)
  have hXC : ev_XC G P cls s U := ⟨h, hP, hH.keep z2, Nat.le_trans hS.1 f1, fun q a1 a2 => (z2 q (Nat.lt_of_lt_of_le a1 hS.1)).trans (hS.2.1 q a1 a2)⟩
  refine ⟨U, ?_, .threw T.heap.size, hrun, hend, Or.inr ⟨T.heap.size, rfl, cls, ce, locs, hXC, hce, hO1, hcl, hWs, hall, hS.2.2⟩⟩
  refine st1 _ ?_
  show Steps p.tables e below (T1.setTop { method := m, pc := pc + 3, locals := lsA, stack := .ref T.heap.size :: [], locked := none }) _
  jvm_step X₁.here [X₁.here.top, hx, d3', Value.category]
  exact X₁.ldcString hx (own := (m_y M).cls) (text := text) (index := is) (a := sa) hown' hstr'.1 hstr'.2
    (g := { method := m, pc := pc + 4, locals := lsA, stack := .ref T.heap.size :: .ref T.heap.size :: [], locked := none }) rfl d4' _ hsteps
