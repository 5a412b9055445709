/-! TYPED ENDS: the answer's type is known -/
abbrev ev_pi (A : Int32 → ev_AH → Prop) (X : String → ev_AH → Prop) : ev_Post := fun r h => match r with
  | .inl (some (.int v)) => A v h
  | .inr E => X E h
  | _ => False
abbrev ev_pl (A : Int64 → ev_AH → Prop) (X : String → ev_AH → Prop) : ev_Post := fun r h => match r with
  | .inl (some (.long v)) => A v h
  | .inr E => X E h
  | _ => False
abbrev ev_pr (A : Nat → ev_AH → Prop) (X : String → ev_AH → Prop) : ev_Post := fun r h => match r with
  | .inl (some (.ref v)) => A v h
  | .inr E => X E h
  | _ => False
abbrev ev_pv (A : ev_AH → Prop) (X : String → ev_AH → Prop) : ev_Post := fun r h => match r with
  | .inl none => A h
  | .inr E => X E h
  | _ => False
theorem ev_pi_of {A : Int32 → ev_AH → Prop} {X : String → ev_AH → Prop} {v : Option Value} {h : ev_AH} (q : ev_pi A X (.inl v) h) : ∃ r : Int32, v = some (.int r) ∧ A r h := by
  unfold ev_pi at q
  split at q
  · rename_i e; cases e; exact ⟨_, rfl, q⟩
  · rename_i e; cases e
  · exact q.elim
theorem ev_pl_of {A : Int64 → ev_AH → Prop} {X : String → ev_AH → Prop} {v : Option Value} {h : ev_AH} (q : ev_pl A X (.inl v) h) : ∃ r : Int64, v = some (.long r) ∧ A r h := by
  unfold ev_pl at q
  split at q
  · rename_i e; cases e; exact ⟨_, rfl, q⟩
  · rename_i e; cases e
  · exact q.elim
theorem ev_pr_of {A : Nat → ev_AH → Prop} {X : String → ev_AH → Prop} {v : Option Value} {h : ev_AH} (q : ev_pr A X (.inl v) h) : ∃ r : Nat, v = some (.ref r) ∧ A r h := by
  unfold ev_pr at q
  split at q
  · rename_i e; cases e; exact ⟨_, rfl, q⟩
  · rename_i e; cases e
  · exact q.elim
theorem ev_pv_of {A : ev_AH → Prop} {X : String → ev_AH → Prop} {v : Option Value} {h : ev_AH} (q : ev_pv A X (.inl v) h) : v = none ∧ A h := by
  unfold ev_pv at q
  split at q
  · rename_i e; cases e; exact ⟨rfl, q⟩
  · rename_i e; cases e
  · exact q.elim
section TYPED
variable {l : Launch} {G : ev_G} {M M' : ev_M} {pc : Nat} {ls : List (Nat × Value)} {st as stk : List Value} {h : ev_AH} {uc us uc' us' : Nat} {Q : ev_Fin} {P P' : ev_Post} {X : String → ev_AH → Prop}
theorem e_callVi {A : Int32 → ev_AH → Prop} {b idx ci n : Nat} (hd : decode (m_cc M) pc = .ok (.invokevirtual idx, 3)) (hw : ev_CV M idx M' ci n) (hn : as.length = n) (hstk : as.reverse ++ .ref b :: st = stk) (hob : ∃ fs : List Value, h b = some (ci, fs)) (hm : Mt l G M' (.ref b :: as) h (ev_pi A X)) (hsum : (st.map fun v => v.category).sum ≤ 8) (hc : m_mc M' + uc' ≤ uc) (hs : m_ms M' + us' ≤ us) (K : ∀ (r : Int32) (h' : ev_AH), A r h' → Ev l G M (pc + 3) ls (.int r :: st) h' uc' us' Q) (KX : ∀ (E : String) (h' : ev_AH), X E h' → EvX l G M pc ls h' uc' us' Q E) : Ev l G M pc ls stk h uc us Q :=
  e_callV hd hw hn hstk hob hm hsum hc hs (fun v h' q => by obtain ⟨r, rfl, q⟩ := ev_pi_of q; exact K r h' q) (fun E h' q => KX E h' q)
theorem e_callSi {A : Int32 → ev_AH → Prop} {idx n : Nat} (hd : decode (m_cc M) pc = .ok (.invokestatic idx, 3)) (hw : ev_CS M idx M' n) (hn : as.length = n) (hstk : as.reverse ++ st = stk) (hm : Mt l G M' as h (ev_pi A X)) (hsum : (st.map fun v => v.category).sum ≤ 8) (hc : m_mc M' + uc' ≤ uc) (hs : m_ms M' + us' ≤ us) (K : ∀ (r : Int32) (h' : ev_AH), A r h' → Ev l G M (pc + 3) ls (.int r :: st) h' uc' us' Q) (KX : ∀ (E : String) (h' : ev_AH), X E h' → EvX l G M pc ls h' uc' us' Q E) : Ev l G M pc ls stk h uc us Q :=
  e_callS hd hw hn hstk hm hsum hc hs (fun v h' q => by obtain ⟨r, rfl, q⟩ := ev_pi_of q; exact K r h' q) (fun E h' q => KX E h' q)
theorem e_callVl {A : Int64 → ev_AH → Prop} {b idx ci n : Nat} (hd : decode (m_cc M) pc = .ok (.invokevirtual idx, 3)) (hw : ev_CV M idx M' ci n) (hn : as.length = n) (hstk : as.reverse ++ .ref b :: st = stk) (hob : ∃ fs : List Value, h b = some (ci, fs)) (hm : Mt l G M' (.ref b :: as) h (ev_pl A X)) (hsum : (st.map fun v => v.category).sum ≤ 8) (hc : m_mc M' + uc' ≤ uc) (hs : m_ms M' + us' ≤ us) (K : ∀ (r : Int64) (h' : ev_AH), A r h' → Ev l G M (pc + 3) ls (.long r :: st) h' uc' us' Q) (KX : ∀ (E : String) (h' : ev_AH), X E h' → EvX l G M pc ls h' uc' us' Q E) : Ev l G M pc ls stk h uc us Q :=
  e_callV hd hw hn hstk hob hm hsum hc hs (fun v h' q => by obtain ⟨r, rfl, q⟩ := ev_pl_of q; exact K r h' q) (fun E h' q => KX E h' q)
theorem e_callSl {A : Int64 → ev_AH → Prop} {idx n : Nat} (hd : decode (m_cc M) pc = .ok (.invokestatic idx, 3)) (hw : ev_CS M idx M' n) (hn : as.length = n) (hstk : as.reverse ++ st = stk) (hm : Mt l G M' as h (ev_pl A X)) (hsum : (st.map fun v => v.category).sum ≤ 8) (hc : m_mc M' + uc' ≤ uc) (hs : m_ms M' + us' ≤ us) (K : ∀ (r : Int64) (h' : ev_AH), A r h' → Ev l G M (pc + 3) ls (.long r :: st) h' uc' us' Q) (KX : ∀ (E : String) (h' : ev_AH), X E h' → EvX l G M pc ls h' uc' us' Q E) : Ev l G M pc ls stk h uc us Q :=
  e_callS hd hw hn hstk hm hsum hc hs (fun v h' q => by obtain ⟨r, rfl, q⟩ := ev_pl_of q; exact K r h' q) (fun E h' q => KX E h' q)
theorem e_callVr {A : Nat → ev_AH → Prop} {b idx ci n : Nat} (hd : decode (m_cc M) pc = .ok (.invokevirtual idx, 3)) (hw : ev_CV M idx M' ci n) (hn : as.length = n) (hstk : as.reverse ++ .ref b :: st = stk) (hob : ∃ fs : List Value, h b = some (ci, fs)) (hm : Mt l G M' (.ref b :: as) h (ev_pr A X)) (hsum : (st.map fun v => v.category).sum ≤ 8) (hc : m_mc M' + uc' ≤ uc) (hs : m_ms M' + us' ≤ us) (K : ∀ (r : Nat) (h' : ev_AH), A r h' → Ev l G M (pc + 3) ls (.ref r :: st) h' uc' us' Q) (KX : ∀ (E : String) (h' : ev_AH), X E h' → EvX l G M pc ls h' uc' us' Q E) : Ev l G M pc ls stk h uc us Q :=
  e_callV hd hw hn hstk hob hm hsum hc hs (fun v h' q => by obtain ⟨r, rfl, q⟩ := ev_pr_of q; exact K r h' q) (fun E h' q => KX E h' q)
theorem e_callSr {A : Nat → ev_AH → Prop} {idx n : Nat} (hd : decode (m_cc M) pc = .ok (.invokestatic idx, 3)) (hw : ev_CS M idx M' n) (hn : as.length = n) (hstk : as.reverse ++ st = stk) (hm : Mt l G M' as h (ev_pr A X)) (hsum : (st.map fun v => v.category).sum ≤ 8) (hc : m_mc M' + uc' ≤ uc) (hs : m_ms M' + us' ≤ us) (K : ∀ (r : Nat) (h' : ev_AH), A r h' → Ev l G M (pc + 3) ls (.ref r :: st) h' uc' us' Q) (KX : ∀ (E : String) (h' : ev_AH), X E h' → EvX l G M pc ls h' uc' us' Q E) : Ev l G M pc ls stk h uc us Q :=
  e_callS hd hw hn hstk hm hsum hc hs (fun v h' q => by obtain ⟨r, rfl, q⟩ := ev_pr_of q; exact K r h' q) (fun E h' q => KX E h' q)
theorem e_callVv {A : ev_AH → Prop} {b idx ci n : Nat} (hd : decode (m_cc M) pc = .ok (.invokevirtual idx, 3)) (hw : ev_CV M idx M' ci n) (hn : as.length = n) (hstk : as.reverse ++ .ref b :: st = stk) (hob : ∃ fs : List Value, h b = some (ci, fs)) (hm : Mt l G M' (.ref b :: as) h (ev_pv A X)) (hsum : (st.map fun v => v.category).sum ≤ 8) (hc : m_mc M' + uc' ≤ uc) (hs : m_ms M' + us' ≤ us) (K : ∀ h' : ev_AH, A h' → Ev l G M (pc + 3) ls st h' uc' us' Q) (KX : ∀ (E : String) (h' : ev_AH), X E h' → EvX l G M pc ls h' uc' us' Q E) : Ev l G M pc ls stk h uc us Q :=
  e_callV hd hw hn hstk hob hm hsum hc hs (fun v h' q => by obtain ⟨rfl, q⟩ := ev_pv_of q; exact K h' q) (fun E h' q => KX E h' q)
theorem e_callSv {A : ev_AH → Prop} {idx n : Nat} (hd : decode (m_cc M) pc = .ok (.invokestatic idx, 3)) (hw : ev_CS M idx M' n) (hn : as.length = n) (hstk : as.reverse ++ st = stk) (hm : Mt l G M' as h (ev_pv A X)) (hsum : (st.map fun v => v.category).sum ≤ 8) (hc : m_mc M' + uc' ≤ uc) (hs : m_ms M' + us' ≤ us) (K : ∀ h' : ev_AH, A h' → Ev l G M (pc + 3) ls st h' uc' us' Q) (KX : ∀ (E : String) (h' : ev_AH), X E h' → EvX l G M pc ls h' uc' us' Q E) : Ev l G M pc ls stk h uc us Q :=
  e_callS hd hw hn hstk hm hsum hc hs (fun v h' q => by obtain ⟨rfl, q⟩ := ev_pv_of q; exact K h' q) (fun E h' q => KX E h' q)
theorem e_callIv {A : ev_AH → Prop} {b idx n : Nat} (hd : decode (m_cc M) pc = .ok (.invokespecial idx, 3)) (hw : ev_CI M idx M' n) (hn : as.length = n) (hstk : as.reverse ++ .ref b :: st = stk) (hm : Mt l G M' (.ref b :: as) h (ev_pv A (fun _ _ => False))) (hsum : (st.map fun v => v.category).sum ≤ 8) (hc : m_mc M' + uc' ≤ uc) (hs : m_ms M' + us' ≤ us) (K : ∀ h' : ev_AH, A h' → Ev l G M (pc + 3) ls st h' uc' us' Q) : Ev l G M pc ls stk h uc us Q :=
  e_callI hd hw hn hstk hm (fun _ _ q => q) hsum hc hs (fun v h' q => by obtain ⟨rfl, q⟩ := ev_pv_of q; exact K h' q)
theorem e_topi {x : Int32} (K : ∀ y : Int32, y = x → Ev l G M pc ls (.int y :: st) h uc us Q) : Ev l G M pc ls (.int x :: st) h uc us Q := K x rfl
theorem e_topl {x : Int64} (K : ∀ y : Int64, y = x → Ev l G M pc ls (.long y :: st) h uc us Q) : Ev l G M pc ls (.long x :: st) h uc us Q := K x rfl
end TYPED
