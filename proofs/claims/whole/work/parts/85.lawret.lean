/-! THE LAW: its end -/
def R_law : String := "OrderRows3Law"
def lw_P (b : Addr) (xs : List Int32) (args : Array Value) (s : State) : Prop := args = #[.ref b] ∧ s.IntsAt b xs ∧ xs.length ≤ 2560 ∧ (Jvm.Cond.and given_1 narrow_1).before args s = true
def lw_Q (_ : Array Value) (s : State) (o : Outcome) (t : State) : Prop := o = .returned (some (.int 1)) ∧ Framed s o t [] 601024 7293034
def lw_Z (below : List Frame) (a : Array Value) (s : State) : State → Prop := fun t => ∃ o, t.status = .running ∧ Ended t below o ∧ lw_Q a s o t
/-- the law's own end, with 1 on the stack -/
theorem lw_ret {p : Program} {l : Launch} {e : Env} {s : State} {m : MethodId} {args : Array Value} {below : List Frame} {meth : Method} {c : Code} (hx : p.tables.exec = Jvm.exec) (hb : c.code = code) (hr : meth.sig.returnType = ret) (hlocks : meth.locks = false) {pc : Nat} {H : Heap} {ls : Array Slot} (hdg : decode code pc = .ok (.ireturn, 1)) : W p l e room_1 s m args below meth c H [] 601024 7293034 (lw_Z below args s) (F0 m pc ls [.int 1]) := by
  intro T hT X
  obtain ⟨fs, hret, hrun, hended, hW, hframe⟩ := X.leave (v := some (.int 1)) (hlocks := hlocks) (fun h => by rw [hr] at h; cases h)
  have hmeth' : T.vm.method? m = some meth := X.method'
  refine ⟨T.setFrames fs, ?_, .returned (some (.int 1)), hrun, hended, rfl, ⟨_, rfl⟩, hW, hframe⟩
  jvm_step X.here [X.here.top, hx, hb, hdg, hmeth', hr, ret, narrow_b1]
  (try refine ⟨rfl, ?_⟩); (try refine ⟨rfl, ?_⟩)
  first | (intro acts; rw [hret _ acts rfl rfl rfl]) | rw [hret _ _ rfl rfl rfl]
  exact Steps.refl _
/-- what the walk comes to, where nothing but new cells may be written -/
def lw_fin (G : ev_G) : ev_Fin := fun below args s t => s.heap.size ≤ g_B G → lw_Z below args s t
theorem e_lawret {l : Launch} {G : ev_G} {pc : Nat} {ls : List (Nat × Value)} {h : ev_AH} {uc us : Nat} {v : Int32} (hd : decode (m_cc M_W_law) pc = .ok (.ireturn, 1)) (hv : v = 1) : Ev l G M_W_law pc ls [.int v] h uc us (lw_fin G) := by
  intro p e s m args below meth c H locs cells slots lsA C hH hS hl h1 h2
  subst hv
  obtain ⟨hx, hb, hml, hown, hts, hr, hlk, hnm, htb, hst, hK, hB, hL⟩ := C
  have h1 : cells + uc ≤ 601024 := h1
  have h2 : slots + us ≤ 7293034 := h2
  by_cases c : s.heap.size ≤ g_B G
  · have K : W p l e room_1 s m args below meth _ H locs cells slots (lw_Z below args s) (F0 m pc lsA [.int 1]) :=
      va_forget (fun q hq => Nat.le_trans c (hS.2.2 q hq)) (W.widen (k := 601024) (n := 7293034) (by omega) (by omega) (lw_ret hx hb hr hlk hd))
    intro T hT X
    obtain ⟨t, a1, a2⟩ := K T hT X
    exact ⟨t, a1, fun _ => a2⟩
  · intro T hT X
    exact ⟨_, Steps.refl _, fun z => absurd z c⟩
