/-! EV: a method's walk over the heap of the mind -/
/-- a method: name, bytes, locals, answer; frames, locals' words, cells, slots; its table -/
abbrev ev_M : Type := MethodName × ByteArray × Nat × Option FieldType × (Nat × Nat × Nat × Nat) × List (Nat × Nat × Nat × Nat)
def m_y (M : ev_M) : MethodName := M.1
def m_cc (M : ev_M) : ByteArray := M.2.1
def m_nL (M : ev_M) : Nat := M.2.2.1
def m_rt (M : ev_M) : Option FieldType := M.2.2.2.1
def m_mc (M : ev_M) : Nat := M.2.2.2.2.1.2.2.1
def m_ms (M : ev_M) : Nat := M.2.2.2.2.1.2.2.2
def m_rm (M : ev_M) : Room := { frames := M.2.2.2.2.1.1, cells := m_mc M, slots := m_ms M, locals := M.2.2.2.2.1.2.1 }
def m_ht (M : ev_M) : List (Nat × Nat × Nat × Nat) := M.2.2.2.2.2
def ev_C (l : Launch) (G : ev_G) (M : ev_M) (p : Program) (s : State) (m : MethodId) (args : Array Value) (meth : Method) (c : Code) : Prop :=
  p.tables.exec = Jvm.exec ∧ c.code = m_cc M ∧ c.maxLocals = m_nL M ∧ s.vm.findClass (m_y M).cls = some m.cls ∧ (∀ w ∈ ev_TB, w.before args s = true) ∧ meth.sig.returnType = m_rt M ∧ meth.locks = false ∧ meth.name = (m_y M).name ∧
  c.exceptionTable.toList = tableOf (m_ht M) ∧ l.stackTraces = false ∧ va_K (g_D G) ev_cl (g_tys G) s ∧ g_B G ≤ s.heap.size ∧ ev_Low G s s.heap
abbrev ev_Fin : Type := List Frame → Array Value → State → State → Prop
def Ev (l : Launch) (G : ev_G) (M : ev_M) (pc : Nat) (ls : List (Nat × Value)) (st : List Value) (h : ev_AH) (uc us : Nat) (Q : ev_Fin) : Prop :=
  ∀ (p : Program) (e : Env) (s : State) (m : MethodId) (args : Array Value) (below : List Frame) (meth : Method) (c : Code) (H : Heap) (locs : List Loc) (cells slots : Nat) (lsA : Array Slot),
    ev_C l G M p s m args meth c → ev_H G h H → va_S (g_A G) s.heap H locs → lv_has lsA (m_nL M) ls → cells + uc ≤ m_mc M → slots + us ≤ m_ms M →
    W p l e (m_rm M) s m args below meth c H locs cells slots (Q below args s) (F0 m pc lsA st)
/-- thrown over the frame at pc: an object of the class E -/
def EvX (l : Launch) (G : ev_G) (M : ev_M) (pc : Nat) (ls : List (Nat × Value)) (h : ev_AH) (uc us : Nat) (Q : ev_Fin) (E : String) : Prop :=
  ∀ (p : Program) (e : Env) (s : State) (m : MethodId) (args : Array Value) (below : List Frame) (meth : Method) (c : Code) (H : Heap) (locs : List Loc) (cells slots : Nat) (lsA : Array Slot) (st : List Value) (q : Addr) (ce : Cell),
    ev_C l G M p s m args meth c → ev_H G h H → va_S (g_A G) s.heap H locs → lv_has lsA (m_nL M) ls → cells + uc ≤ m_mc M → slots + us ≤ m_ms M → H[q]? = some ce → ce.vm = .none → s.vm.findClass E = some ce.cls →
    vx_W p l e (m_rm M) s m args below meth c H locs cells slots (Q below args s) (F0 m pc lsA st) q
/-- a method's end: an answer, or the name of what is thrown; the heap then -/
abbrev ev_Post : Type := Option Value ⊕ String → ev_AH → Prop
def ev_Qc (G : ev_G) (P : ev_Post) : Array Value → State → Outcome → State → Prop := fun _ st o t => ∃ (v : Option Value) (h : ev_AH), o = .returned v ∧ P (.inl v) h ∧ ev_H G h t.heap ∧ va_F (g_A G) st t
def ev_XC (G : ev_G) (P : ev_Post) : String → State → State → Prop := fun E st t => ∃ h : ev_AH, P (.inr E) h ∧ ev_H G h t.heap ∧ va_F (g_A G) st t
def ev_fin (G : ev_G) (M : ev_M) (P : ev_Post) : ev_Fin := fun below args s => vx_MQ below (ev_Qc G P) (ev_XC G P) args s (m_mc M) (m_ms M) (g_A G)
def ev_Pc (l : Launch) (G : ev_G) (as : List Value) (h : ev_AH) : Array Value → State → Prop := fun v U => v = as.toArray ∧ l.stackTraces = false ∧ ev_H G h U.heap ∧ va_K (g_D G) ev_cl (g_tys G) U ∧ g_B G ≤ U.heap.size ∧ ev_Low G U U.heap
def m_code (M : ev_M) : Cond := match M.2.2.2.2.2 with
  | [] => .code (m_y M) (m_cc M) (m_nL M) (m_rt M)
  | _ => .codeWith (m_y M) (m_cc M) (m_nL M) (m_rt M) (m_ht M)
/-- a method's contract at these arguments and this heap -/
def Mt (l : Launch) (G : ev_G) (M : ev_M) (as : List Value) (h : ev_AH) (P : ev_Post) : Prop :=
  vx_Met l (m_y M) (m_code M :: ev_TB) (m_rm M) (ev_Pc l G as h) (ev_Qc G P) (ev_XC G P) (m_mc M) (m_ms M) (g_A G)
theorem ev_Low.moved {G : ev_G} {u U : State} {H : Heap} (hW : u.WarmedH U.vm) (h : ev_Low G u H) : ev_Low G U H := by
  obtain ⟨h1, h2, h3, h4, h5, h6, h7, h8, h9, h10, h11, h12, h13, h14⟩ := h
  have hvm := hW.alike
  exact ⟨va_Z.moved hvm h1, va_T.moved hvm h2, vx_Zq.moved hvm h3, vx_Zq.moved hvm h4, fun q hq => (h5 q hq).imp fun a ha => vk_R.warm hW ha, va_Mi.moved hvm h6, va_X.moved hvm h7, h8, h9, fun q hq => va_Nw.warmC hW (h10 q hq), fun q hq => va_Nc.moved hvm (h11 q hq), va_AO.moved hvm h12, va_Dc.moved hvm h13, fun x hx => va_Nw.warmD hW (h14 x hx)⟩
theorem ev_Low.kept {G : ev_G} {U : State} {H H1 : Heap} (h : ev_Low G U H) (hq : ∀ a : Nat, a < H.size → ¬ g_A G a → H1[a]? = H[a]?) : ev_Low G U H1 := by
  obtain ⟨h1, h2, h3, h4, h5, h6, h7, h8, h9, h10⟩ := h
  refine ⟨h1.kept hq, h2.kept hq, h3.kept hq, h4.kept hq, h5, h6, h7.kept (hq _ ?_ ?_), h8, h9, h10⟩
  · obtain ⟨scr, e, -⟩ := h7
    exact (Array.getElem?_eq_some_iff.mp e).1
  · unfold g_A
    omega
/-- the same tables, another stack of frames -/
theorem ev_Low.same {G : ev_G} {u U : State} {H : Heap} (hv : U.vm = u.vm) (h : ev_Low G u H) : ev_Low G U H := by
  refine ev_Low.moved (u := u) ?_ h
  rw [hv]
  exact State.WarmedH.refl u
theorem ev_Pc.blind {l : Launch} {G : ev_G} {as : List Value} {h : ev_AH} : FrameBlind (ev_Pc l G as h) := by
  intro a U g mk q
  obtain ⟨q0, q1, q2, q3, q4, q5⟩ := q
  exact ⟨q0, q1, q2, va_K.moved (u := U) (U := U.calling g mk a) (Vm.Alike.refl U.vm) q3, q4, ev_Low.same (u := U) (U := U.calling g mk a) rfl q5⟩
section EV
variable {l : Launch} {G : ev_G} {M : ev_M} {pc : Nat} {ls : List (Nat × Value)} {st : List Value} {h : ev_AH} {uc us : Nat} {Q : ev_Fin} {P : ev_Post}
theorem Ev.widen {vc vs : Nat} (hc : vc ≤ uc) (hs : vs ≤ us) (K : Ev l G M pc ls st h vc vs Q) : Ev l G M pc ls st h uc us Q :=
  fun p e s m args below meth c H locs cells slots lsA C hH hS hl h1 h2 => K p e s m args below meth c H locs cells slots lsA C hH hS hl (by omega) (by omega)
theorem Ev.loc {ls' : List (Nat × Value)} (ks : List Nat) (hk : lv_pick ls ks = ls') (K : Ev l G M pc ls' st h uc us Q) : Ev l G M pc ls st h uc us Q :=
  fun p e s m args below meth c H locs cells slots lsA C hH hS hl h1 h2 => K p e s m args below meth c H locs cells slots lsA C hH hS (lv_sub hl ks hk) h1 h2
/-- the walk from the entry gives the contract: a method without a table -/
theorem Mt.of {as : List Value} (hy : plainName (m_y M).cls = true) (ht : m_ht M = []) (hn : (lg_sl as).length ≤ m_nL M) (K : Ev l G M 0 (lv_args 0 as) [] h (m_mc M) (m_ms M) (ev_fin G M P)) : Mt l G M as h P := by
  have hcode : m_code M = .code (m_y M) (m_cc M) (m_nL M) (m_rt M) := by
    unfold m_code
    unfold m_ht at ht
    rw [ht]
  unfold Mt
  rw [hcode]
  refine vx_ofW (cc := m_cc M) (maxL := m_nL M) (ret := m_rt M) hy rfl ?_
  intro p e s m args below meth c s₁ B hml htab hv
  obtain ⟨rfl, hst, hH, hK, hB, hL⟩ := hv
  have hts := atoms_spec (ws := Cond.code (m_y M) (m_cc M) (m_nL M) (m_rt M) :: ev_TB) B.pre
  have htb : c.exceptionTable.toList = tableOf (m_ht M) := by
    rw [ht]
    cases q : c.exceptionTable.toList with
    | nil => rfl
    | cons x xs => exact (htab x (by rw [q]; exact List.mem_cons_self)).elim
  have hl := lv_entry as (n := m_nL M) hn
  rw [lg_entry_eq]
  exact K p e s m _ below meth c s.heap [] 0 0 _ ⟨B.exec, B.bytes, hml, findClass_of_methodNamed B.named, fun w hw => hts w (List.mem_cons_of_mem _ hw), B.returns, B.notSynchronized, (name_of_methodNamed B.named B.method).1, htb, hst, hK, hB, hL⟩ hH va_S.rf hl (by omega) (by omega)
end EV
