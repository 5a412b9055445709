section
-- ===== PART A: goes FIRST, ahead of the names: the tables' words, and 'selects' of the private methods out of them =====
/-- a private method of a class that the tables say can be made, by its rows of tables_1 -/
def lw_okq (q : MethodName × Nat) : Prop := (q.1.cls ≠ "java/lang/invoke/MethodHandle" ∧ q.1.cls ≠ "java/lang/invoke/VarHandle") ∧ Cond.instantiable q.1.cls q.2 ∈ tables_1 ∧ Cond.privateMethod q.1 ∈ tables_1 ∧ Cond.instanceMethod q.1 ∈ tables_1
theorem lw_p0 : lw_okq (⟨"OrderRows3", "piecesHeld", "()I"⟩, 2) := ⟨⟨by decide +kernel, by decide +kernel⟩, List.mem_of_getElem? (i := 23) (by decide +kernel), List.mem_of_getElem? (i := 72) (by decide +kernel), List.mem_of_getElem? (i := 73) (by decide +kernel)⟩
theorem lw_p1 : lw_okq (⟨"OrderRows3", "piecesShipped", "()I"⟩, 2) := ⟨⟨by decide +kernel, by decide +kernel⟩, List.mem_of_getElem? (i := 23) (by decide +kernel), List.mem_of_getElem? (i := 91) (by decide +kernel), List.mem_of_getElem? (i := 92) (by decide +kernel)⟩
theorem lw_p2 : lw_okq (⟨"java/lang/Throwable", "fillInStackTrace", "(I)Ljava/lang/Throwable;"⟩, 6) := ⟨⟨by decide +kernel, by decide +kernel⟩, List.mem_of_getElem? (i := 146) (by decide +kernel), List.mem_of_getElem? (i := 144) (by decide +kernel), List.mem_of_getElem? (i := 145) (by decide +kernel)⟩
theorem lw_p3 : lw_okq (⟨"OrderRows3", "firstWithOwnNumber", "(II)I"⟩, 2) := ⟨⟨by decide +kernel, by decide +kernel⟩, List.mem_of_getElem? (i := 23) (by decide +kernel), List.mem_of_getElem? (i := 177) (by decide +kernel), List.mem_of_getElem? (i := 178) (by decide +kernel)⟩
theorem lw_p4 : lw_okq (⟨"OrderRows3", "requireRoomForOrder", "()V"⟩, 2) := ⟨⟨by decide +kernel, by decide +kernel⟩, List.mem_of_getElem? (i := 23) (by decide +kernel), List.mem_of_getElem? (i := 182) (by decide +kernel), List.mem_of_getElem? (i := 183) (by decide +kernel)⟩
theorem lw_p5 : lw_okq (⟨"OrderRows3", "addOrder", "(IIII)LOrderRows3$Order;"⟩, 2) := ⟨⟨by decide +kernel, by decide +kernel⟩, List.mem_of_getElem? (i := 23) (by decide +kernel), List.mem_of_getElem? (i := 205) (by decide +kernel), List.mem_of_getElem? (i := 206) (by decide +kernel)⟩
theorem lw_p6 : lw_okq (⟨"java/util/ArrayList", "add", "(Ljava/lang/Object;[Ljava/lang/Object;I)V"⟩, 3) := ⟨⟨by decide +kernel, by decide +kernel⟩, List.mem_of_getElem? (i := 31) (by decide +kernel), List.mem_of_getElem? (i := 261) (by decide +kernel), List.mem_of_getElem? (i := 262) (by decide +kernel)⟩
theorem lw_p7 : lw_okq (⟨"java/util/ArrayList", "grow", "()[Ljava/lang/Object;"⟩, 3) := ⟨⟨by decide +kernel, by decide +kernel⟩, List.mem_of_getElem? (i := 31) (by decide +kernel), List.mem_of_getElem? (i := 265) (by decide +kernel), List.mem_of_getElem? (i := 266) (by decide +kernel)⟩
theorem lw_p8 : lw_okq (⟨"java/util/ArrayList", "grow", "(I)[Ljava/lang/Object;"⟩, 3) := ⟨⟨by decide +kernel, by decide +kernel⟩, List.mem_of_getElem? (i := 31) (by decide +kernel), List.mem_of_getElem? (i := 269) (by decide +kernel), List.mem_of_getElem? (i := 270) (by decide +kernel)⟩
theorem lw_p9 : lw_okq (⟨"OrderRows3", "orderAt", "(I)LOrderRows3$Order;"⟩, 2) := ⟨⟨by decide +kernel, by decide +kernel⟩, List.mem_of_getElem? (i := 23) (by decide +kernel), List.mem_of_getElem? (i := 322) (by decide +kernel), List.mem_of_getElem? (i := 323) (by decide +kernel)⟩
theorem lw_p10 : lw_okq (⟨"OrderRows3", "requireRoomForLine", "()V"⟩, 2) := ⟨⟨by decide +kernel, by decide +kernel⟩, List.mem_of_getElem? (i := 23) (by decide +kernel), List.mem_of_getElem? (i := 361) (by decide +kernel), List.mem_of_getElem? (i := 362) (by decide +kernel)⟩
theorem lw_p11 : lw_okq (⟨"OrderRows3", "addLine", "(LOrderRows3$Order;III)LOrderRows3$Line;"⟩, 2) := ⟨⟨by decide +kernel, by decide +kernel⟩, List.mem_of_getElem? (i := 23) (by decide +kernel), List.mem_of_getElem? (i := 365) (by decide +kernel), List.mem_of_getElem? (i := 366) (by decide +kernel)⟩
theorem lw_p12 : lw_okq (⟨"OrderRows3", "lineAt", "(I)LOrderRows3$Line;"⟩, 2) := ⟨⟨by decide +kernel, by decide +kernel⟩, List.mem_of_getElem? (i := 23) (by decide +kernel), List.mem_of_getElem? (i := 431) (by decide +kernel), List.mem_of_getElem? (i := 432) (by decide +kernel)⟩
theorem lw_p13 : lw_okq (⟨"OrderRows3$Order", "eachLiveLineIsReady", "()Z"⟩, 10) := ⟨⟨by decide +kernel, by decide +kernel⟩, List.mem_of_getElem? (i := 208) (by decide +kernel), List.mem_of_getElem? (i := 465) (by decide +kernel), List.mem_of_getElem? (i := 466) (by decide +kernel)⟩
theorem lw_p14 : lw_okq (⟨"OrderRows3$Order", "allHeldIsPicked", "()Z"⟩, 10) := ⟨⟨by decide +kernel, by decide +kernel⟩, List.mem_of_getElem? (i := 208) (by decide +kernel), List.mem_of_getElem? (i := 477) (by decide +kernel), List.mem_of_getElem? (i := 478) (by decide +kernel)⟩
theorem lw_p15 : lw_okq (⟨"OrderRows3$Order", "noLineAwaitsBackorder", "()Z"⟩, 10) := ⟨⟨by decide +kernel, by decide +kernel⟩, List.mem_of_getElem? (i := 208) (by decide +kernel), List.mem_of_getElem? (i := 481) (by decide +kernel), List.mem_of_getElem? (i := 482) (by decide +kernel)⟩
def lw_privs_1 : List (MethodName × Nat) := [(⟨"OrderRows3", "piecesHeld", "()I"⟩, 2), (⟨"OrderRows3", "piecesShipped", "()I"⟩, 2), (⟨"java/lang/Throwable", "fillInStackTrace", "(I)Ljava/lang/Throwable;"⟩, 6), (⟨"OrderRows3", "firstWithOwnNumber", "(II)I"⟩, 2), (⟨"OrderRows3", "requireRoomForOrder", "()V"⟩, 2), (⟨"OrderRows3", "addOrder", "(IIII)LOrderRows3$Order;"⟩, 2), (⟨"java/util/ArrayList", "add", "(Ljava/lang/Object;[Ljava/lang/Object;I)V"⟩, 3), (⟨"java/util/ArrayList", "grow", "()[Ljava/lang/Object;"⟩, 3), (⟨"java/util/ArrayList", "grow", "(I)[Ljava/lang/Object;"⟩, 3), (⟨"OrderRows3", "orderAt", "(I)LOrderRows3$Order;"⟩, 2), (⟨"OrderRows3", "requireRoomForLine", "()V"⟩, 2), (⟨"OrderRows3", "addLine", "(LOrderRows3$Order;III)LOrderRows3$Line;"⟩, 2), (⟨"OrderRows3", "lineAt", "(I)LOrderRows3$Line;"⟩, 2), (⟨"OrderRows3$Order", "eachLiveLineIsReady", "()Z"⟩, 10), (⟨"OrderRows3$Order", "allHeldIsPicked", "()Z"⟩, 10), (⟨"OrderRows3$Order", "noLineAwaitsBackorder", "()Z"⟩, 10)]
theorem lw_r1 : ∀ q ∈ lw_privs_1, lw_okq q := List.forall_mem_cons.mpr ⟨lw_p0, List.forall_mem_cons.mpr ⟨lw_p1, List.forall_mem_cons.mpr ⟨lw_p2, List.forall_mem_cons.mpr ⟨lw_p3, List.forall_mem_cons.mpr ⟨lw_p4, List.forall_mem_cons.mpr ⟨lw_p5, List.forall_mem_cons.mpr ⟨lw_p6, List.forall_mem_cons.mpr ⟨lw_p7, List.forall_mem_cons.mpr ⟨lw_p8, List.forall_mem_cons.mpr ⟨lw_p9, List.forall_mem_cons.mpr ⟨lw_p10, List.forall_mem_cons.mpr ⟨lw_p11, List.forall_mem_cons.mpr ⟨lw_p12, List.forall_mem_cons.mpr ⟨lw_p13, List.forall_mem_cons.mpr ⟨lw_p14, List.forall_mem_cons.mpr ⟨lw_p15, fun _ h => absurd h List.not_mem_nil⟩⟩⟩⟩⟩⟩⟩⟩⟩⟩⟩⟩⟩⟩⟩⟩
theorem lw_p16 : lw_okq (⟨"OrderRows3", "waitingBefore", "(LOrderRows3$Order;)I"⟩, 2) := ⟨⟨by decide +kernel, by decide +kernel⟩, List.mem_of_getElem? (i := 23) (by decide +kernel), List.mem_of_getElem? (i := 584) (by decide +kernel), List.mem_of_getElem? (i := 585) (by decide +kernel)⟩
theorem lw_p17 : lw_okq (⟨"OrderRows3Model", "newOrder", "(IIII)I"⟩, 23) := ⟨⟨by decide +kernel, by decide +kernel⟩, List.mem_of_getElem? (i := 619) (by decide +kernel), List.mem_of_getElem? (i := 709) (by decide +kernel), List.mem_of_getElem? (i := 710) (by decide +kernel)⟩
theorem lw_p18 : lw_okq (⟨"OrderRows3Model", "isOrder", "(I)Z"⟩, 23) := ⟨⟨by decide +kernel, by decide +kernel⟩, List.mem_of_getElem? (i := 619) (by decide +kernel), List.mem_of_getElem? (i := 717) (by decide +kernel), List.mem_of_getElem? (i := 718) (by decide +kernel)⟩
theorem lw_p19 : lw_okq (⟨"OrderRows3Model", "newLine", "(IIII)I"⟩, 23) := ⟨⟨by decide +kernel, by decide +kernel⟩, List.mem_of_getElem? (i := 619) (by decide +kernel), List.mem_of_getElem? (i := 721) (by decide +kernel), List.mem_of_getElem? (i := 722) (by decide +kernel)⟩
theorem lw_p20 : lw_okq (⟨"OrderRows3Model", "hang", "(II)V"⟩, 23) := ⟨⟨by decide +kernel, by decide +kernel⟩, List.mem_of_getElem? (i := 619) (by decide +kernel), List.mem_of_getElem? (i := 725) (by decide +kernel), List.mem_of_getElem? (i := 726) (by decide +kernel)⟩
theorem lw_p21 : lw_okq (⟨"OrderRows3Model", "isLine", "(I)Z"⟩, 23) := ⟨⟨by decide +kernel, by decide +kernel⟩, List.mem_of_getElem? (i := 619) (by decide +kernel), List.mem_of_getElem? (i := 733) (by decide +kernel), List.mem_of_getElem? (i := 734) (by decide +kernel)⟩
theorem lw_p22 : lw_okq (⟨"OrderRows3Model", "mayGoOn", "(I)Z"⟩, 23) := ⟨⟨by decide +kernel, by decide +kernel⟩, List.mem_of_getElem? (i := 619) (by decide +kernel), List.mem_of_getElem? (i := 745) (by decide +kernel), List.mem_of_getElem? (i := 746) (by decide +kernel)⟩
theorem lw_p23 : lw_okq (⟨"OrderRows3Model", "liveLines", "(I)I"⟩, 23) := ⟨⟨by decide +kernel, by decide +kernel⟩, List.mem_of_getElem? (i := 619) (by decide +kernel), List.mem_of_getElem? (i := 749) (by decide +kernel), List.mem_of_getElem? (i := 750) (by decide +kernel)⟩
theorem lw_p24 : lw_okq (⟨"OrderRows3Model", "lineAt", "(II)I"⟩, 23) := ⟨⟨by decide +kernel, by decide +kernel⟩, List.mem_of_getElem? (i := 619) (by decide +kernel), List.mem_of_getElem? (i := 753) (by decide +kernel), List.mem_of_getElem? (i := 754) (by decide +kernel)⟩
theorem lw_p25 : lw_okq (⟨"OrderRows3Model", "isReady", "(I)Z"⟩, 23) := ⟨⟨by decide +kernel, by decide +kernel⟩, List.mem_of_getElem? (i := 619) (by decide +kernel), List.mem_of_getElem? (i := 757) (by decide +kernel), List.mem_of_getElem? (i := 758) (by decide +kernel)⟩
theorem lw_p26 : lw_okq (⟨"OrderRows3Model", "has", "(II)Z"⟩, 23) := ⟨⟨by decide +kernel, by decide +kernel⟩, List.mem_of_getElem? (i := 619) (by decide +kernel), List.mem_of_getElem? (i := 761) (by decide +kernel), List.mem_of_getElem? (i := 762) (by decide +kernel)⟩
theorem lw_p27 : lw_okq (⟨"OrderRows3Model", "shortOf", "(I)I"⟩, 23) := ⟨⟨by decide +kernel, by decide +kernel⟩, List.mem_of_getElem? (i := 619) (by decide +kernel), List.mem_of_getElem? (i := 765) (by decide +kernel), List.mem_of_getElem? (i := 766) (by decide +kernel)⟩
theorem lw_p28 : lw_okq (⟨"OrderRows3Model", "isWaiting", "(I)Z"⟩, 23) := ⟨⟨by decide +kernel, by decide +kernel⟩, List.mem_of_getElem? (i := 619) (by decide +kernel), List.mem_of_getElem? (i := 800) (by decide +kernel), List.mem_of_getElem? (i := 801) (by decide +kernel)⟩
theorem lw_p29 : lw_okq (⟨"OrderRows3Model", "isBefore", "(II)Z"⟩, 23) := ⟨⟨by decide +kernel, by decide +kernel⟩, List.mem_of_getElem? (i := 619) (by decide +kernel), List.mem_of_getElem? (i := 804) (by decide +kernel), List.mem_of_getElem? (i := 805) (by decide +kernel)⟩
def lw_privs_2 : List (MethodName × Nat) := [(⟨"OrderRows3", "waitingBefore", "(LOrderRows3$Order;)I"⟩, 2), (⟨"OrderRows3Model", "newOrder", "(IIII)I"⟩, 23), (⟨"OrderRows3Model", "isOrder", "(I)Z"⟩, 23), (⟨"OrderRows3Model", "newLine", "(IIII)I"⟩, 23), (⟨"OrderRows3Model", "hang", "(II)V"⟩, 23), (⟨"OrderRows3Model", "isLine", "(I)Z"⟩, 23), (⟨"OrderRows3Model", "mayGoOn", "(I)Z"⟩, 23), (⟨"OrderRows3Model", "liveLines", "(I)I"⟩, 23), (⟨"OrderRows3Model", "lineAt", "(II)I"⟩, 23), (⟨"OrderRows3Model", "isReady", "(I)Z"⟩, 23), (⟨"OrderRows3Model", "has", "(II)Z"⟩, 23), (⟨"OrderRows3Model", "shortOf", "(I)I"⟩, 23), (⟨"OrderRows3Model", "isWaiting", "(I)Z"⟩, 23), (⟨"OrderRows3Model", "isBefore", "(II)Z"⟩, 23)]
theorem lw_r2 : ∀ q ∈ lw_privs_2, lw_okq q := List.forall_mem_cons.mpr ⟨lw_p16, List.forall_mem_cons.mpr ⟨lw_p17, List.forall_mem_cons.mpr ⟨lw_p18, List.forall_mem_cons.mpr ⟨lw_p19, List.forall_mem_cons.mpr ⟨lw_p20, List.forall_mem_cons.mpr ⟨lw_p21, List.forall_mem_cons.mpr ⟨lw_p22, List.forall_mem_cons.mpr ⟨lw_p23, List.forall_mem_cons.mpr ⟨lw_p24, List.forall_mem_cons.mpr ⟨lw_p25, List.forall_mem_cons.mpr ⟨lw_p26, List.forall_mem_cons.mpr ⟨lw_p27, List.forall_mem_cons.mpr ⟨lw_p28, List.forall_mem_cons.mpr ⟨lw_p29, fun _ h => absurd h List.not_mem_nil⟩⟩⟩⟩⟩⟩⟩⟩⟩⟩⟩⟩⟩⟩
def lw_privs : List (MethodName × Nat) := lw_privs_1 ++ (lw_privs_2)
def lw_tbl : List Cond := k2_sels lw_privs ++ tables_1
theorem lw_privs_ok : ∀ q ∈ lw_privs, lw_okq q := by
  show ∀ q ∈ lw_privs_1 ++ (lw_privs_2), lw_okq q
  exact List.forall_mem_append.mpr ⟨lw_r1, lw_r2⟩
end
section
/-! ===== BEGIN words of one list among another's, by their places ===== -/
theorem goodIn_r {big : List Cond} (ws : List Cond) (ps : List Nat) (hp : ws = ps.filterMap (fun i => big[i]?)) (h : ws.all goodWord = true) : GoodIn big ws := by
  intro w hw
  have h1 := List.all_eq_true.mp h w hw
  rw [hp] at hw
  obtain ⟨i, -, hi⟩ := List.mem_filterMap.mp hw
  have hm : w ∈ big := by first | exact List.mem_of_getElem? hi | exact List.getElem?_mem hi
  exact ⟨hm, good_of_word h1⟩
theorem goodIn_app {big a b : List Cond} (ha : GoodIn big a) (hb : GoodIn big b) : GoodIn big (a ++ b) := fun w h => (List.mem_append.mp h).elim (ha w) (hb w)
theorem goodIn_ca {big a b : List Cond} {c : Cond} (ha : GoodIn big (c :: a)) (hb : GoodIn big b) : GoodIn big (c :: (a ++ b)) := fun w h => (List.mem_cons.mp h).elim (fun e => ha w (List.mem_cons.mpr (Or.inl e))) (fun h => (List.mem_append.mp h).elim (fun h => ha w (List.mem_cons.mpr (Or.inr h))) (hb w))
theorem goodIn_sub {big ws : List Cond} (hm : ∀ w ∈ ws, w ∈ big) (h : ws.all goodWord = true) : GoodIn big ws := fun w hw => ⟨hm w hw, good_of_word (List.all_eq_true.mp h w hw)⟩
/-! ===== END ===== -/

/-! ===== BEGIN exceptions that leave a method, and their catching by the caller (launches without stack traces) ===== -/
section VXA
/-! The laws vx_back, vx_callV, vx_callS, vx_callSW, vx_throw0, vx_throwS follow proofs of the library, with one case more: JvmDerived/Free/Laws.lean (Back.of_free), Shelf42/LK1.lean (callV, callS), Shelf/KitTraced.lean (throwNew0V, throwNewS). -/
/-- where a method has thrown q: the class by its name, the cell, what was written, the world -/
def vx_T (XC : String → State → State → Prop) (st : State) (q : Addr) (t : State) (mc ms : Nat) (free : Addr → Prop) : Prop :=
  ∃ (E : String) (ce : Cell) (L : List Loc), XC E st t ∧ t.heap[q]? = some ce ∧ ce.vm = .none ∧ st.vm.findClass E = some ce.cls ∧ st.WarmedH t.vm ∧ st.sameButNew ({ t with vm := st.vm } : State) L mc ms ∧ ∀ z ∈ L, free z.base
def vx_Q (Qc : Array Value → State → Outcome → State → Prop) (XC : String → State → State → Prop) (mc ms : Nat) (free : Addr → Prop) : Array Value → State → Outcome → State → Prop := fun a st o t =>
  (Qc a st o t ∧ ∃ L, FrameEnd st o t L mc ms ∧ ∀ q ∈ L, free q.base) ∨ ∃ q, o = .threw q ∧ vx_T XC st q t mc ms free
/-- a callee that returns or throws -/
def vx_Met (l : Launch) (y : MethodName) (ws : List Cond) (rm : Room) (Pc : Array Value → State → Prop) (Qc : Array Value → State → Outcome → State → Prop) (XC : String → State → State → Prop) (mc ms : Nat) (free : Addr → Prop) : Prop :=
  MetFree l y (headSpec ws rm) Pc (fun _ _ _ _ _ => True) (vx_Q Qc XC mc ms free)
def vx_Post (XC : String → State → State → Prop) (mc ms : Nat) (free : Addr → Prop) : Pt → Array Value → Addr → Pt → Prop := fun A a q B =>
  ∃ (g : JFrame) (mk : MethodId) (t : State) (L : List Loc) (E : String) (ce : Cell), B.U.heap = t.heap ∧ B.U.vm = t.vm ∧ XC E (A.U.calling g mk a) t ∧ t.heap[q]? = some ce ∧ ce.vm = .none ∧ A.U.vm.findClass E = some ce.cls ∧ B.locs = A.locs ++ L ∧ (∀ z ∈ L, free z.base) ∧ B.cells = A.cells + mc ∧ B.slots = A.slots + ms
def vx_Back (l : Launch) (R : Room) (p : Program) (e : Env) (below : List Frame) (s : State) (sargs : Array Value) (y : MethodName) (len W9 : Nat)
    (Pre : Pt → Array Value → Prop) (Post : Pt → Array Value → Option Value → Pt → Prop) (PostX : Pt → Array Value → Addr → Pt → Prop) : Prop :=
  ∀ (m : MethodId) (meth : Method) (c : Code) (A : Pt) (g : JFrame) (ig : Instr) (mk : MethodId) (a : Array Value),
    Stand p l e R s m sargs below meth c A.U A.locs A.cells A.slots → g.method = m → g.locals.size = c.maxLocals → decode c.code g.pc = .ok (ig, len) →
    2 * g.monitorRoom + (g.stack.map fun v => v.category).sum ≤ W9 → A.U.methodNamed? y = some mk → Pre A a →
    (∃ (v : Option Value) (B : Pt), Stand p l e R s m sargs below meth c B.U B.locs B.cells B.slots ∧ Post A a v B ∧
      Steps p.tables e below (doInvoke e (A.U.setTop g) [] mk a).1 (B.U.setTop { g with pc := g.pc + len, stack := v.toList ++ g.stack })) ∨
    (∃ (q : Addr) (B : Pt), Stand p l e R s m sargs below meth c B.U B.locs B.cells B.slots ∧ PostX A a q B ∧
      Steps p.tables e below (doInvoke e (A.U.setTop g) [] mk a).1 ((B.U.setTop g).pushFrame (.throwing q)))
section Payer
variable {l : Launch} {R : Room} {p : Program} {e : Env} {below : List Frame} {s : State} {sargs : Array Value} {y : MethodName} {len W9 : Nat}
theorem vx_back {ws : List Cond} {rm : Room} {Pc : Array Value → State → Prop} {Qc : Array Value → State → Outcome → State → Prop} {XC : String → State → State → Prop} {mc ms : Nat} {free : Addr → Prop} {bytes : ByteArray} {maxL : Nat} {ret : Option FieldType}
    (hM : vx_Met l y ws rm Pc Qc XC mc ms free) (hblind : FrameBlind Pc) (hrc : rm.cells = mc) (hrs : rm.slots = ms)
    (hframes : rm.frames + 1 ≤ R.frames) (hlocals : W9 + (maxL + 11) + rm.locals ≤ R.locals)
    (hws : ∀ w ∈ ws, ∀ a' U, s.WarmedH U.vm → w.before a' U = true) (hcode : Cond.code y bytes maxL ret ∈ ws) (hinit : ∀ a' U, s.WarmedH U.vm → (Cond.initialized y.cls).before a' U = true) :
    vx_Back l R p e below s sargs y len W9 (PreOf R mc ms Pc) (PostOf Qc mc ms free) (vx_Post XC mc ms free) := by
  intro m meth c A g ig mk a X hg hsize hdg hW hn hp
  have h1 : (headSpec ws rm).pre.before a A.U = true := atoms_intro fun w hw => hws w hw _ _ X.warmed
  have h2 : (Cond.code y bytes maxL ret).before a A.U = true := hws _ hcode _ _ X.warmed
  have h3 : (Cond.initialized y.cls).before a A.U = true := hinit _ _ X.warmed
  have h4 : A.cells + (headSpec ws rm).room.cells ≤ R.cells := by rw [show (headSpec ws rm).room.cells = mc from hrc]; exact hp.1
  have h5 : A.slots + (headSpec ws rm).room.slots ≤ R.slots := by rw [show (headSpec ws rm).room.slots = ms from hrs]; exact hp.2.1
  have hPc : Pc a (A.U.calling g mk a) := hblind _ _ _ _ hp.2.2
  obtain ⟨U, Ls, c0, s0⟩ := A
  dsimp only [Pt.U, Pt.locs, Pt.cells, Pt.slots] at h1 h2 h3 h4 h5 X hn hPc ⊢
  obtain ⟨methY, cY, hmY, hcY, -, hlY, -, -, -, -⟩ := Cond.code_spec hn h2
  obtain ⟨kY, hkY, -⟩ := className_of_methodNamed hn
  have hinitY : kY.init = .initialized := Cond.initialized_spec (findClass_of_methodNamed hn) hkY h3
  have h : At U g.method c below := by rw [hg]; exact X.here
  have hlocals9 : W9 + (maxL + 11) + (headSpec ws rm).room.locals ≤ R.locals := hlocals
  have happ : (headSpec ws rm).appliesLoose y e.platform (U.calling g mk a) = true :=
    Spec.appliesLoose_calling (g := g) h hdg hn hkY hinitY
      (X.room_calling (g := g) (R' := (headSpec ws rm).room) hsize hmY hcY hframes (by rw [hlY]; omega) h4 h5) h1
  obtain ⟨mid, hmid⟩ := h.above
  have hfr : (U.setTop g).frames = (.java g :: mid) ++ below := by rw [State.frames_setTop' g h.top, hmid]; rfl
  obtain ⟨o, s₂, hsteps, -, hend, hq⟩ := Steps.callFree hM p X.admits X.cas X.clock (acts := []) hfr happ hPc trivial
  have hq' : vx_Q Qc XC mc ms free a (U.calling g mk a) o s₂ := hq
  rw [State.frames_setTop' g h.top] at hend
  obtain ⟨g₀, hg0⟩ := Option.isSome_iff_exists.mp h.top
  obtain ⟨r, hr⟩ := State.topJava?_eq_some.mp hg0
  have hr' : (({ U with heap := s₂.heap, slotsUsed := s₂.slotsUsed } : State).setVm s₂.vm).frames = .java g₀ :: r := hr
  rcases hq' with ⟨hqc, L, hfe, hL⟩ | ⟨q, rfl, E, ce, L, hx, hce, hcv, hcl, hW₂, hsm, hL⟩
  · obtain ⟨⟨v, rfl⟩, hW₂, e2, q2, q3, q4, q5, q6⟩ := id hfe
    have e3 : s₂ = ({ (U.calling g mk a).setFrames s₂.frames with heap := s₂.heap, slotsUsed := s₂.slotsUsed } : State).setVm s₂.vm := by
      have : s₂ = ({ s₂ with vm := (U.calling g mk a).vm } : State).setVm s₂.vm := rfl
      rw [e2] at this
      exact this
    obtain ⟨c₂, i₂, len₂, hc₂, hd₂, hf₂⟩ := hend
    have hW' : U.WarmedH s₂.vm := hW₂
    have hcc : c₂ = c := by
      have h1 : s₂.code? g.method = U.code? g.method := by
        rw [State.code?_eq, State.code?_eq, hW'.alike.method?]
      exact Option.some.inj (hc₂.symm.trans (h1.trans h.code))
    subst hcc
    have hlen : len₂ = len := by rw [hdg] at hd₂; cases hd₂; rfl
    subst hlen
    have hs₂ : s₂ = (({ U with heap := s₂.heap, slotsUsed := s₂.slotsUsed } : State).setVm s₂.vm).setTop { g with pc := g.pc + len₂, stack := v.toList ++ g.stack } := by
      refine e3.trans ?_
      rw [hf₂, State.calling_eq h.top, State.setFrames_setFrames, State.setTop_of_frames _ hr', hr]
      rfl
    have hsame : U.sameButNew ({ U with heap := s₂.heap, slotsUsed := s₂.slotsUsed } : State) L mc ms := by
      refine ⟨?_, q2, q3, q4, q5, q6⟩
      obtain ⟨t, ht, -⟩ := State.frames_cons hr
      show ({ U with heap := s₂.heap, slotsUsed := s₂.slotsUsed } : State) = { U.setFrames U.frames with heap := s₂.heap, slotsUsed := s₂.slotsUsed }
      rw [State.setFrames_self ht]
    subst hg
    refine Or.inl ⟨v, ⟨(({ U with heap := s₂.heap, slotsUsed := s₂.slotsUsed } : State).setVm s₂.vm), Ls ++ L, c0 + mc, s0 + ms⟩,
      ⟨X.admits, X.cas, X.clock, X.frames, X.room, X.hears, X.method, X.code, (X.here.setHeapUsed s₂.heap s₂.slotsUsed).setVm hW'.alike, X.tail, State.WarmedH.trans X.warmed hW', X.limits, X.bytes, X.same.trans (hsame.setVm s.vm)⟩,
      ⟨g, mk, s₂, L, rfl, rfl, hqc, rfl, hL, rfl, rfl⟩, ?_⟩
    show Steps p.tables e below _ ((({ U with heap := s₂.heap, slotsUsed := s₂.slotsUsed } : State).setVm s₂.vm).setTop { g with pc := g.pc + len₂, stack := v.toList ++ g.stack })
    rw [← hs₂]
    exact hsteps
  · obtain ⟨e2, q2, q3, q4, q5, q6⟩ := id hsm
    have e3 : s₂ = ({ (U.calling g mk a).setFrames s₂.frames with heap := s₂.heap, slotsUsed := s₂.slotsUsed } : State).setVm s₂.vm := by
      have : s₂ = ({ s₂ with vm := (U.calling g mk a).vm } : State).setVm s₂.vm := rfl
      rw [e2] at this
      exact this
    have hf₂ : s₂.frames = .throwing q :: .java g :: U.frames.tail := hend
    have hW' : U.WarmedH s₂.vm := hW₂
    have hs₂ : s₂ = ((({ U with heap := s₂.heap, slotsUsed := s₂.slotsUsed } : State).setVm s₂.vm).setTop g).pushFrame (.throwing q) := by
      refine e3.trans ?_
      rw [hf₂, State.calling_eq h.top, State.setFrames_setFrames, State.pushFrame, State.frames_setTop _ hr', State.setTop_of_frames _ hr', State.setFrames_setFrames, hr]
      rfl
    have hsame : U.sameButNew ({ U with heap := s₂.heap, slotsUsed := s₂.slotsUsed } : State) L mc ms := by
      refine ⟨?_, q2, q3, q4, q5, q6⟩
      obtain ⟨t, ht, -⟩ := State.frames_cons hr
      show ({ U with heap := s₂.heap, slotsUsed := s₂.slotsUsed } : State) = { U.setFrames U.frames with heap := s₂.heap, slotsUsed := s₂.slotsUsed }
      rw [State.setFrames_self ht]
    subst hg
    refine Or.inr ⟨q, ⟨(({ U with heap := s₂.heap, slotsUsed := s₂.slotsUsed } : State).setVm s₂.vm), Ls ++ L, c0 + mc, s0 + ms⟩,
      ⟨X.admits, X.cas, X.clock, X.frames, X.room, X.hears, X.method, X.code, (X.here.setHeapUsed s₂.heap s₂.slotsUsed).setVm hW'.alike, X.tail, State.WarmedH.trans X.warmed hW', X.limits, X.bytes, X.same.trans (hsame.setVm s.vm)⟩,
      ⟨g, mk, s₂, L, E, ce, rfl, rfl, hx, hce, hcv, hcl, rfl, hL, rfl, rfl⟩, ?_⟩
    show Steps p.tables e below _ (((({ U with heap := s₂.heap, slotsUsed := s₂.slotsUsed } : State).setVm s₂.vm).setTop g).pushFrame (.throwing q))
    rw [← hs₂]
    exact hsteps
end Payer
section Calls
variable {p : Program} {l : Launch} {e : Env} {R : Room} {s : State} {m : MethodId} {args : Array Value} {below : List Frame} {meth : Method} {c : Code} {T : State} {locs : List Loc} {cells slots : Nat}
theorem vx_callV (X : Stand p l e R s m args below meth c T locs cells slots) (hexec : p.tables.exec = Jvm.exec) {own C : String} {index : Nat} {y : MethodName} {bytes : ByteArray} {maxL : Nat} {ret : Option FieldType}
    (hown : s.vm.findClass own = some m.cls) (hlink : (Cond.methodLink own index y).before args s = true) (hinst : (Cond.instanceMethod y).before args s = true) (hsel : (Cond.selects C y y).before args s = true)
    (hcode : (Cond.code y bytes maxL ret).before args s = true) (hy : y.cls ≠ "java/lang/invoke/MethodHandle" ∧ y.cls ≠ "java/lang/invoke/VarHandle")
    {W9 : Nat} {Pre : Pt → Array Value → Prop} {Post : Pt → Array Value → Option Value → Pt → Prop} {PostX : Pt → Array Value → Addr → Pt → Prop} (hK : vx_Back l R p e below s args y 3 W9 Pre Post PostX)
    {b : Addr} {cellB : Cell} (hcell : T.heap[b]? = some cellB) (hobj : cellB.vm.isStatics = false) (hcls : s.vm.findClass C = some cellB.cls)
    {g : JFrame} (hg : g.method = m) (hsize : g.locals.size = c.maxLocals) {argsL rest : List Value} (hlen : ∀ sig, parseMethodDescriptor y.desc = some sig → argsL.length = sig.parameters.length)
    (hstack : g.stack = argsL.reverse ++ .ref b :: rest) (hW : 2 * g.monitorRoom + (rest.map fun v => v.category).sum ≤ W9) (hdg : decode c.code g.pc = .ok (.invokevirtual index, 3))
    (hpre : ∀ vm₁, s.WarmedH vm₁ → Pre ⟨T.setVm vm₁, locs, cells, slots⟩ (Value.ref b :: argsL).toArray) :
    (∃ (v : Option Value) (vm₁ : Vm) (B : Pt), s.WarmedH vm₁ ∧ Stand p l e R s m args below meth c B.U B.locs B.cells B.slots ∧ Post ⟨T.setVm vm₁, locs, cells, slots⟩ (Value.ref b :: argsL).toArray v B ∧
      ∀ target, Steps p.tables e below (B.U.setTop { g with pc := g.pc + 3, stack := v.toList ++ rest }) target → Steps p.tables e below (T.setTop g) target) ∨
    (∃ (q : Addr) (vm₁ : Vm) (B : Pt), s.WarmedH vm₁ ∧ Stand p l e R s m args below meth c B.U B.locs B.cells B.slots ∧ PostX ⟨T.setVm vm₁, locs, cells, slots⟩ (Value.ref b :: argsL).toArray q B ∧
      Steps p.tables e below (T.setTop g) ((B.U.setTop { g with stack := rest }).pushFrame (.throwing q))) := by
  obtain ⟨mk, methM, hnamed, hmethM, hstM, habM⟩ := Cond.instanceMethod_spec hinst
  obtain ⟨methM', cM, hmethM', -, -, -, -, -, -, hsigM⟩ := Cond.code_spec hnamed hcode
  cases hmethM.symm.trans hmethM'
  obtain ⟨c2, r2, m2, q1, q2, q3, q4, kP, hkP, hkPi⟩ := Cond.selects_spec hsel
  cases hcls.symm.trans q1
  cases (State.methodFound?_of_named hnamed hy).symm.trans q2
  cases hnamed.symm.trans q3
  have hselP : selectMethod e.platform s.vm cellB.cls mk = .method mk := by rw [Launch.admits_selectMethod X.admits]; exact q4
  obtain ⟨vm₁, X₁, hstep₁⟩ := X.invokevirtual hexec hown hlink hnamed hmethM hstM hkP hkPi hy (a := b) (cell := cellB) hcell
    (fun z h => by rw [h] at hobj; cases hobj) hselP hmethM habM hkP hkPi (g := g) hg (argsL := argsL) (rest := rest) (hlen _ hsigM) hstack hdg
  rcases hK m meth c ⟨T.setVm vm₁, locs, cells, slots⟩ { g with stack := rest } (.invokevirtual index) mk (Value.ref b :: argsL).toArray X₁ hg hsize hdg hW (X₁.named hnamed) (hpre vm₁ X₁.warmed) with ⟨v, B, X', hpost, hsteps⟩ | ⟨q, B, X', hpost, hsteps⟩
  · exact Or.inl ⟨v, vm₁, B, X₁.warmed, X', hpost, fun target h => hstep₁ _ fun acts => by rw [doInvoke_state]; exact hsteps.trans h⟩
  · exact Or.inr ⟨q, vm₁, B, X₁.warmed, X', hpost, hstep₁ _ fun acts => by rw [doInvoke_state]; exact hsteps⟩
theorem vx_callS (X : Stand p l e R s m args below meth c T locs cells slots) (hexec : p.tables.exec = Jvm.exec) {own : String} {index : Nat} {y : MethodName} {bytes : ByteArray} {maxL : Nat} {ret : Option FieldType}
    (hown : s.vm.findClass own = some m.cls) (hlink : (Cond.methodLink own index y).before args s = true) (hstat : (Cond.static y).before args s = true) (hinit : (Cond.initialized y.cls).before args s = true)
    (hcode : (Cond.code y bytes maxL ret).before args s = true) (hy : y.cls ≠ "java/lang/invoke/MethodHandle" ∧ y.cls ≠ "java/lang/invoke/VarHandle")
    {W9 : Nat} {Pre : Pt → Array Value → Prop} {Post : Pt → Array Value → Option Value → Pt → Prop} {PostX : Pt → Array Value → Addr → Pt → Prop} (hK : vx_Back l R p e below s args y 3 W9 Pre Post PostX)
    {g : JFrame} (hg : g.method = m) (hsize : g.locals.size = c.maxLocals) {argsL rest : List Value} (hlen : ∀ sig, parseMethodDescriptor y.desc = some sig → argsL.length = sig.parameters.length)
    (hstack : g.stack = argsL.reverse ++ rest) (hW : 2 * g.monitorRoom + (rest.map fun v => v.category).sum ≤ W9) (hdg : decode c.code g.pc = .ok (.invokestatic index, 3))
    (hpre : ∀ vm₁, s.WarmedH vm₁ → Pre ⟨T.setVm vm₁, locs, cells, slots⟩ argsL.toArray) :
    (∃ (v : Option Value) (vm₁ : Vm) (B : Pt), s.WarmedH vm₁ ∧ Stand p l e R s m args below meth c B.U B.locs B.cells B.slots ∧ Post ⟨T.setVm vm₁, locs, cells, slots⟩ argsL.toArray v B ∧
      ∀ target, Steps p.tables e below (B.U.setTop { g with pc := g.pc + 3, stack := v.toList ++ rest }) target → Steps p.tables e below (T.setTop g) target) ∨
    (∃ (q : Addr) (vm₁ : Vm) (B : Pt), s.WarmedH vm₁ ∧ Stand p l e R s m args below meth c B.U B.locs B.cells B.slots ∧ PostX ⟨T.setVm vm₁, locs, cells, slots⟩ argsL.toArray q B ∧
      Steps p.tables e below (T.setTop g) ((B.U.setTop { g with stack := rest }).pushFrame (.throwing q))) := by
  obtain ⟨mk, hnamed⟩ := Cond.code_named hcode
  obtain ⟨methM, cM, hmethM, -, -, -, -, -, -, hsigM⟩ := Cond.code_spec hnamed hcode
  have hstatic : methM.isStatic = true := Cond.static_spec hnamed hmethM hstat
  obtain ⟨kP, hkP, -⟩ := className_of_methodNamed hnamed
  have hinitP : kP.init = .initialized := Cond.initialized_spec (findClass_of_methodNamed hnamed) hkP hinit
  obtain ⟨vm₁, X₁, hstep₁⟩ := X.invokestatic hexec hown hlink hnamed hmethM hstatic hkP hinitP hy (g := g) hg (argsL := argsL) (rest := rest) (hlen _ hsigM) hstack hdg
  rcases hK m meth c ⟨T.setVm vm₁, locs, cells, slots⟩ { g with stack := rest } (.invokestatic index) mk argsL.toArray X₁ hg hsize hdg hW (X₁.named hnamed) (hpre vm₁ X₁.warmed) with ⟨v, B, X', hpost, hsteps⟩ | ⟨q, B, X', hpost, hsteps⟩
  · exact Or.inl ⟨v, vm₁, B, X₁.warmed, X', hpost, fun target h => hstep₁ _ fun acts => by rw [doInvoke_state]; exact hsteps.trans h⟩
  · exact Or.inr ⟨q, vm₁, B, X₁.warmed, X', hpost, hstep₁ _ fun acts => by rw [doInvoke_state]; exact hsteps⟩
end Calls
theorem vx_cls {s : State} {T : State} {vm₁ : Vm} {E : String} {k : ClassId} (hW : s.WarmedH vm₁) (h : (T.setVm vm₁).vm.findClass E = some k) : s.vm.findClass E = some k := by
  have h1 : vm₁.findClass E = some k := h
  rw [hW.alike.findClass] at h1
  exact h1
/-- the method's frame g, with q thrown over it -/
def vx_W (p : Program) (l : Launch) (e : Env) (R : Room) (s : State) (m : MethodId) (args : Array Value) (below : List Frame) (meth : Method) (c : Code) (H : Heap) (locs : List Loc) (cells slots : Nat) (Q : State → Prop) (g : JFrame) (q : Addr) : Prop :=
  ∀ T : State, T.heap = H → Stand p l e R s m args below meth c T locs cells slots → ∃ t, Steps p.tables e below ((T.setTop g).pushFrame (.throwing q)) t ∧ Q t
def vx_Run (p : Program) (l : Launch) (e : Env) (R : Room) (s : State) (m : MethodId) (args : Array Value) (below : List Frame) (meth : Method) (c : Code) (H : Heap) (locs : List Loc) (cells slots mc ms : Nat) (g : JFrame) (rest : List Value) (Qa : State → Outcome → State → Prop) (XC : String → State → State → Prop) (free : Addr → Prop) : Prop :=
  ∀ T : State, T.heap = H → Stand p l e R s m args below meth c T locs cells slots →
    (∃ (v : Option Value) (st₀ t T' : State) (L : List Loc), st₀.heap = H ∧ Stand p l e R s m args below meth c T' (locs ++ L) (cells + mc) (slots + ms) ∧ (∀ q ∈ L, free q.base) ∧ T'.heap = t.heap ∧ T'.vm = t.vm ∧ Qa st₀ (.returned v) t ∧
      Goes p e below T g T' { g with pc := g.pc + 3, stack := v.toList ++ rest }) ∨
    (∃ (q : Addr) (st₀ t T' : State) (L : List Loc) (E : String) (ce : Cell), st₀.heap = H ∧ Stand p l e R s m args below meth c T' (locs ++ L) (cells + mc) (slots + ms) ∧ (∀ z ∈ L, free z.base) ∧ T'.heap = t.heap ∧ T'.vm = t.vm ∧ XC E st₀ t ∧ t.heap[q]? = some ce ∧ ce.vm = .none ∧ s.vm.findClass E = some ce.cls ∧
      Steps p.tables e below (T.setTop g) ((T'.setTop { g with stack := rest }).pushFrame (.throwing q)))
def vx_X {S : Type} (px : S → Prop) (B : String → S → State → Prop) (A : Nat → Prop) : String → State → State → Prop := fun E st t => ∃ u : S, px u ∧ B E u t ∧ va_F A st t
section Runs
variable {p : Program} {l : Launch} {e : Env} {R : Room} {s : State} {m : MethodId} {args : Array Value} {below : List Frame} {meth : Method} {c : Code} {H : Heap} {locs : List Loc} {cells slots : Nat}
variable {y : MethodName} {bytes cc : ByteArray} {maxL nL mc ms n index : Nat} {ret : Option FieldType} {ws : List Cond} {rm : Room} {Pc : Array Value → State → Prop} {Qc : Array Value → State → Outcome → State → Prop} {XC : String → State → State → Prop} {free : Addr → Prop} {Ts : List Cond} {own C : String} {b : Addr} {As rest : List Value} {g : JFrame}
theorem vx_callBack (cb : CallB R s args own index y bytes maxL ret ws rm mc ms n) (hM : vx_Met l y ws rm Pc Qc XC mc ms free) (hbl : FrameBlind Pc) : vx_Back l R p e below s args y 3 8 (PreOf R mc ms Pc) (PostOf Qc mc ms free) (vx_Post XC mc ms free) := by
  obtain ⟨hrc, hrs, hfr, hlo, hws, hcw, -, hini, -⟩ := cb
  exact vx_back (bytes := bytes) (maxL := maxL) (ret := ret) hM hbl hrc hrs hfr hlo hws hcw (fun a' U hW => word_at hW (Or.inl (by first | rfl | simp [Cond.onTables, Cond.keeps, Cond.steady])) hini)
theorem vx_runV (S : CallFix p m c cc nL s args Ts own) (hM : vx_Met l y ws rm Pc Qc XC mc ms free) (cw : CallW R s args own C index y bytes maxL ret ws rm mc ms n) (hp : PreV s H C b Pc As)
    (hg : g.method = m) (hn : As.length = n) (hsize : g.locals.size = nL) (hstack : g.stack = As.reverse ++ .ref b :: rest) (hW : 2 * g.monitorRoom + (rest.map fun v => v.category).sum ≤ 8) (hdg : decode cc g.pc = .ok (.invokevirtual index, 3)) (hf : cells + mc ≤ R.cells ∧ slots + ms ≤ R.slots) :
    vx_Run p l e R s m args below meth c H locs cells slots mc ms g rest (Qc (Value.ref b :: As).toArray) XC free := by
  have hK : vx_Back l R p e below s args y 3 8 (PreOf R mc ms Pc) (PostOf Qc mc ms free) (vx_Post XC mc ms free) := vx_callBack cw.1 hM hp.1
  obtain ⟨⟨-, -, -, -, -, -, hcode, -, hy, hlen, hl⟩, hin, hse⟩ := cw
  obtain ⟨hx, hb, hml, ho, -⟩ := S
  obtain ⟨-, ⟨cellB, hcB, hoB, hclB⟩, hPc⟩ := hp
  intro T hT X
  rcases vx_callV X hx (C := C) (bytes := bytes) (maxL := maxL) (ret := ret) ho hl hin hse hcode hy hK (by rw [hT]; exact hcB) hoB hclB hg (hsize.trans hml.symm) (argsL := As) (rest := rest) (fun sig h => hn.trans (hlen sig h)) hstack hW (by rw [hb]; exact hdg)
    (fun vm₁ hW₁ => ⟨hf.1, hf.2, hPc (T.setVm vm₁) hT hW₁⟩) with ⟨v, vm₁, ⟨U', l2, c2, s2⟩, hW₁, X', ⟨g', mk, t, L, e1, e2, hq, h1, hL, h2, h3⟩, st⟩ | ⟨q, vm₁, ⟨U', l2, c2, s2⟩, hW₁, X', ⟨g', mk, t, L, E, ce, e1, e2, hq, hce, hcv, hcl, h1, hL, h2, h3⟩, st⟩
  · dsimp only [Pt.U, Pt.locs, Pt.cells, Pt.slots] at X' e1 e2 h1 h2 h3 st
    subst h1; subst h2; subst h3
    exact Or.inl ⟨v, (T.setVm vm₁).calling g' mk (Value.ref b :: As).toArray, t, U', L, hT, X', hL, e1, e2, hq, st⟩
  · dsimp only [Pt.U, Pt.locs, Pt.cells, Pt.slots] at X' e1 e2 h1 h2 h3 st hcl
    subst h1; subst h2; subst h3
    exact Or.inr ⟨q, (T.setVm vm₁).calling g' mk (Value.ref b :: As).toArray, t, U', L, E, ce, hT, X', hL, e1, e2, hq, hce, hcv, vx_cls hW₁ hcl, st⟩
theorem vx_runS (S : CallFix p m c cc nL s args Ts own) (hM : vx_Met l y ws rm Pc Qc XC mc ms free) (cw : CallB R s args own index y bytes maxL ret ws rm mc ms n ∧ (Cond.static y).before args s = true) (hp : PreS s H Pc As)
    (hg : g.method = m) (hn : As.length = n) (hsize : g.locals.size = nL) (hstack : g.stack = As.reverse ++ rest) (hW : 2 * g.monitorRoom + (rest.map fun v => v.category).sum ≤ 8) (hdg : decode cc g.pc = .ok (.invokestatic index, 3)) (hf : cells + mc ≤ R.cells ∧ slots + ms ≤ R.slots) :
    vx_Run p l e R s m args below meth c H locs cells slots mc ms g rest (Qc As.toArray) XC free := by
  have hK : vx_Back l R p e below s args y 3 8 (PreOf R mc ms Pc) (PostOf Qc mc ms free) (vx_Post XC mc ms free) := vx_callBack cw.1 hM hp.1
  obtain ⟨⟨-, -, -, -, -, -, hcode, hini, hy, hlen, hl⟩, hstt⟩ := cw
  obtain ⟨hx, hb, hml, ho, -⟩ := S
  intro T hT X
  rcases vx_callS X hx (bytes := bytes) (maxL := maxL) (ret := ret) ho hl hstt hini hcode hy hK hg (hsize.trans hml.symm) (argsL := As) (rest := rest) (fun sig h => hn.trans (hlen sig h)) hstack hW (by rw [hb]; exact hdg)
    (fun vm₁ hW₁ => ⟨hf.1, hf.2, hp.2 (T.setVm vm₁) hT hW₁⟩) with ⟨v, vm₁, ⟨U', l2, c2, s2⟩, hW₁, X', ⟨g', mk, t, L, e1, e2, hq, h1, hL, h2, h3⟩, st⟩ | ⟨q, vm₁, ⟨U', l2, c2, s2⟩, hW₁, X', ⟨g', mk, t, L, E, ce, e1, e2, hq, hce, hcv, hcl, h1, hL, h2, h3⟩, st⟩
  · dsimp only [Pt.U, Pt.locs, Pt.cells, Pt.slots] at X' e1 e2 h1 h2 h3 st
    subst h1; subst h2; subst h3
    exact Or.inl ⟨v, (T.setVm vm₁).calling g' mk As.toArray, t, U', L, hT, X', hL, e1, e2, hq, st⟩
  · dsimp only [Pt.U, Pt.locs, Pt.cells, Pt.slots] at X' e1 e2 h1 h2 h3 st hcl
    subst h1; subst h2; subst h3
    exact Or.inr ⟨q, (T.setVm vm₁).calling g' mk As.toArray, t, U', L, E, ce, hT, X', hL, e1, e2, hq, hce, hcv, vx_cls hW₁ hcl, st⟩
end Runs
section Rows
variable {p : Program} {l : Launch} {e : Env} {R : Room} {s : State} {m : MethodId} {args : Array Value} {below : List Frame} {meth : Method} {c : Code} {H : Heap} {locs : List Loc} {cells slots : Nat} {Q : State → Prop}
variable {mc ms : Nat} {free : Addr → Prop} {A0 A1 : Nat → Prop} {H0 : Heap} {a : Array Value} {pc : Nat} {ls : Array Slot} {st0 rest : List Value}
theorem vx_keep {st₀ t T' : State} {L : List Loc} (h0 : st₀.heap = H) (e1 : T'.heap = t.heap) (hS : va_S A0 H0 H locs) (hA : ∀ q, q < H.size → A1 q → A0 q) (hf : ∀ q, free q → A0 q) (hL : ∀ q ∈ L, free q.base) (hF : va_F A1 st₀ t) :
    H.size ≤ T'.heap.size ∧ (∀ q : Nat, q < H.size → ¬ A1 q → T'.heap[q]? = H[q]?) ∧ va_S A0 H0 T'.heap (locs ++ L) := by
  obtain ⟨hz, hk⟩ := hF
  rw [h0] at hz hk
  exact ⟨by rw [e1]; exact hz, fun q h1 h2 => by rw [e1]; exact hk q h1 h2,
    ⟨Nat.le_trans hS.1 (by rw [e1]; exact hz), fun q h1 h2 => by rw [e1, hk q (Nat.lt_of_lt_of_le h1 hS.1) (fun z => h2 (hA q (Nat.lt_of_lt_of_le h1 hS.1) z))]; exact hS.2.1 q h1 h2, fun q hq => by
      rcases List.mem_append.mp hq with h | h
      · exact hS.2.2 q h
      · exact hf _ (hL q h)⟩⟩
theorem vx_calli {S SX : Type} {post : Int32 → S → Prop} {px : SX → Prop} {B : S → State → Prop} {BX : String → SX → State → Prop} {AX : Nat → Prop} (hr : vx_Run p l e R s m args below meth c H locs cells slots mc ms (F0 m pc ls st0) rest (va_Qi post B A1 a) (vx_X px BX AX) free) (hS : va_S A0 H0 H locs) (hA : ∀ q, q < H.size → A1 q → A0 q) (hf : ∀ q, free q → A0 q) (hAX : ∀ q, q < H.size → AX q → A0 q)
    (kx : ∀ (E : String) (ce : Cell) (q9 : Addr) (u : SX) (t : State) (H1 : Heap) (locs1 : List Loc), t.heap = H1 → s.vm.Alike t.vm → px u → BX E u t → H.size ≤ H1.size → (∀ q : Nat, q < H.size → ¬ AX q → H1[q]? = H[q]?) → va_S A0 H0 H1 locs1 → H1[q9]? = some ce → ce.vm = .none → s.vm.findClass E = some ce.cls → vx_W p l e R s m args below meth c H1 locs1 (cells + mc) (slots + ms) Q (F0 m pc ls rest) q9)
    (kk : ∀ (r : Int32) (u : S) (t : State) (H1 : Heap) (locs1 : List Loc), t.heap = H1 → s.vm.Alike t.vm → post r u → B u t → H.size ≤ H1.size → (∀ q : Nat, q < H.size → ¬ A1 q → H1[q]? = H[q]?) → va_S A0 H0 H1 locs1 → W p l e R s m args below meth c H1 locs1 (cells + mc) (slots + ms) Q (F0 m (pc + 3) ls (.int r :: rest))) : W p l e R s m args below meth c H locs cells slots Q (F0 m pc ls st0) := by
  intro T hT X
  rcases hr T hT X with ⟨v, st₀, t, T', L, h0, X', hL, e1, e2, ⟨⟨r, u, hv, hp, hb⟩, hF⟩, st⟩ | ⟨q, st₀, t, T', L, E, ce, h0, X', hL, e1, e2, ⟨u, hp, hb, hF⟩, hce, hcv, hcl, st⟩
  · cases hv
    obtain ⟨k1, k2, k3⟩ := vx_keep h0 e1 hS hA hf hL hF
    obtain ⟨t2, a1, b1⟩ := kk r u t T'.heap (locs ++ L) e1.symm (by rw [← e2]; exact X'.warmed.alike) hp hb k1 k2 k3 T' rfl X'
    exact ⟨t2, st t2 a1, b1⟩
  · obtain ⟨k1, k2, k3⟩ := vx_keep h0 e1 hS hAX hf hL hF
    obtain ⟨t2, a1, b1⟩ := kx E ce q u t T'.heap (locs ++ L) e1.symm (by rw [← e2]; exact X'.warmed.alike) hp hb k1 k2 k3 (by rw [e1]; exact hce) hcv hcl T' rfl X'
    exact ⟨t2, st.trans a1, b1⟩
theorem vx_calll {S SX : Type} {post : Int64 → S → Prop} {px : SX → Prop} {B : S → State → Prop} {BX : String → SX → State → Prop} {AX : Nat → Prop} (hr : vx_Run p l e R s m args below meth c H locs cells slots mc ms (F0 m pc ls st0) rest (va_Ql post B A1 a) (vx_X px BX AX) free) (hS : va_S A0 H0 H locs) (hA : ∀ q, q < H.size → A1 q → A0 q) (hf : ∀ q, free q → A0 q) (hAX : ∀ q, q < H.size → AX q → A0 q)
    (kx : ∀ (E : String) (ce : Cell) (q9 : Addr) (u : SX) (t : State) (H1 : Heap) (locs1 : List Loc), t.heap = H1 → s.vm.Alike t.vm → px u → BX E u t → H.size ≤ H1.size → (∀ q : Nat, q < H.size → ¬ AX q → H1[q]? = H[q]?) → va_S A0 H0 H1 locs1 → H1[q9]? = some ce → ce.vm = .none → s.vm.findClass E = some ce.cls → vx_W p l e R s m args below meth c H1 locs1 (cells + mc) (slots + ms) Q (F0 m pc ls rest) q9)
    (kk : ∀ (r : Int64) (u : S) (t : State) (H1 : Heap) (locs1 : List Loc), t.heap = H1 → s.vm.Alike t.vm → post r u → B u t → H.size ≤ H1.size → (∀ q : Nat, q < H.size → ¬ A1 q → H1[q]? = H[q]?) → va_S A0 H0 H1 locs1 → W p l e R s m args below meth c H1 locs1 (cells + mc) (slots + ms) Q (F0 m (pc + 3) ls (.long r :: rest))) : W p l e R s m args below meth c H locs cells slots Q (F0 m pc ls st0) := by
  intro T hT X
  rcases hr T hT X with ⟨v, st₀, t, T', L, h0, X', hL, e1, e2, ⟨⟨r, u, hv, hp, hb⟩, hF⟩, st⟩ | ⟨q, st₀, t, T', L, E, ce, h0, X', hL, e1, e2, ⟨u, hp, hb, hF⟩, hce, hcv, hcl, st⟩
  · cases hv
    obtain ⟨k1, k2, k3⟩ := vx_keep h0 e1 hS hA hf hL hF
    obtain ⟨t2, a1, b1⟩ := kk r u t T'.heap (locs ++ L) e1.symm (by rw [← e2]; exact X'.warmed.alike) hp hb k1 k2 k3 T' rfl X'
    exact ⟨t2, st t2 a1, b1⟩
  · obtain ⟨k1, k2, k3⟩ := vx_keep h0 e1 hS hAX hf hL hF
    obtain ⟨t2, a1, b1⟩ := kx E ce q u t T'.heap (locs ++ L) e1.symm (by rw [← e2]; exact X'.warmed.alike) hp hb k1 k2 k3 (by rw [e1]; exact hce) hcv hcl T' rfl X'
    exact ⟨t2, st.trans a1, b1⟩
theorem vx_callf {S SX : Type} {post : UInt32 → S → Prop} {px : SX → Prop} {B : S → State → Prop} {BX : String → SX → State → Prop} {AX : Nat → Prop} (hr : vx_Run p l e R s m args below meth c H locs cells slots mc ms (F0 m pc ls st0) rest (va_Qf post B A1 a) (vx_X px BX AX) free) (hS : va_S A0 H0 H locs) (hA : ∀ q, q < H.size → A1 q → A0 q) (hf : ∀ q, free q → A0 q) (hAX : ∀ q, q < H.size → AX q → A0 q)
    (kx : ∀ (E : String) (ce : Cell) (q9 : Addr) (u : SX) (t : State) (H1 : Heap) (locs1 : List Loc), t.heap = H1 → s.vm.Alike t.vm → px u → BX E u t → H.size ≤ H1.size → (∀ q : Nat, q < H.size → ¬ AX q → H1[q]? = H[q]?) → va_S A0 H0 H1 locs1 → H1[q9]? = some ce → ce.vm = .none → s.vm.findClass E = some ce.cls → vx_W p l e R s m args below meth c H1 locs1 (cells + mc) (slots + ms) Q (F0 m pc ls rest) q9)
    (kk : ∀ (r : UInt32) (u : S) (t : State) (H1 : Heap) (locs1 : List Loc), t.heap = H1 → s.vm.Alike t.vm → post r u → B u t → H.size ≤ H1.size → (∀ q : Nat, q < H.size → ¬ A1 q → H1[q]? = H[q]?) → va_S A0 H0 H1 locs1 → W p l e R s m args below meth c H1 locs1 (cells + mc) (slots + ms) Q (F0 m (pc + 3) ls (.float r :: rest))) : W p l e R s m args below meth c H locs cells slots Q (F0 m pc ls st0) := by
  intro T hT X
  rcases hr T hT X with ⟨v, st₀, t, T', L, h0, X', hL, e1, e2, ⟨⟨r, u, hv, hp, hb⟩, hF⟩, st⟩ | ⟨q, st₀, t, T', L, E, ce, h0, X', hL, e1, e2, ⟨u, hp, hb, hF⟩, hce, hcv, hcl, st⟩
  · cases hv
    obtain ⟨k1, k2, k3⟩ := vx_keep h0 e1 hS hA hf hL hF
    obtain ⟨t2, a1, b1⟩ := kk r u t T'.heap (locs ++ L) e1.symm (by rw [← e2]; exact X'.warmed.alike) hp hb k1 k2 k3 T' rfl X'
    exact ⟨t2, st t2 a1, b1⟩
  · obtain ⟨k1, k2, k3⟩ := vx_keep h0 e1 hS hAX hf hL hF
    obtain ⟨t2, a1, b1⟩ := kx E ce q u t T'.heap (locs ++ L) e1.symm (by rw [← e2]; exact X'.warmed.alike) hp hb k1 k2 k3 (by rw [e1]; exact hce) hcv hcl T' rfl X'
    exact ⟨t2, st.trans a1, b1⟩
theorem vx_calld {S SX : Type} {post : UInt64 → S → Prop} {px : SX → Prop} {B : S → State → Prop} {BX : String → SX → State → Prop} {AX : Nat → Prop} (hr : vx_Run p l e R s m args below meth c H locs cells slots mc ms (F0 m pc ls st0) rest (va_Qd post B A1 a) (vx_X px BX AX) free) (hS : va_S A0 H0 H locs) (hA : ∀ q, q < H.size → A1 q → A0 q) (hf : ∀ q, free q → A0 q) (hAX : ∀ q, q < H.size → AX q → A0 q)
    (kx : ∀ (E : String) (ce : Cell) (q9 : Addr) (u : SX) (t : State) (H1 : Heap) (locs1 : List Loc), t.heap = H1 → s.vm.Alike t.vm → px u → BX E u t → H.size ≤ H1.size → (∀ q : Nat, q < H.size → ¬ AX q → H1[q]? = H[q]?) → va_S A0 H0 H1 locs1 → H1[q9]? = some ce → ce.vm = .none → s.vm.findClass E = some ce.cls → vx_W p l e R s m args below meth c H1 locs1 (cells + mc) (slots + ms) Q (F0 m pc ls rest) q9)
    (kk : ∀ (r : UInt64) (u : S) (t : State) (H1 : Heap) (locs1 : List Loc), t.heap = H1 → s.vm.Alike t.vm → post r u → B u t → H.size ≤ H1.size → (∀ q : Nat, q < H.size → ¬ A1 q → H1[q]? = H[q]?) → va_S A0 H0 H1 locs1 → W p l e R s m args below meth c H1 locs1 (cells + mc) (slots + ms) Q (F0 m (pc + 3) ls (.double r :: rest))) : W p l e R s m args below meth c H locs cells slots Q (F0 m pc ls st0) := by
  intro T hT X
  rcases hr T hT X with ⟨v, st₀, t, T', L, h0, X', hL, e1, e2, ⟨⟨r, u, hv, hp, hb⟩, hF⟩, st⟩ | ⟨q, st₀, t, T', L, E, ce, h0, X', hL, e1, e2, ⟨u, hp, hb, hF⟩, hce, hcv, hcl, st⟩
  · cases hv
    obtain ⟨k1, k2, k3⟩ := vx_keep h0 e1 hS hA hf hL hF
    obtain ⟨t2, a1, b1⟩ := kk r u t T'.heap (locs ++ L) e1.symm (by rw [← e2]; exact X'.warmed.alike) hp hb k1 k2 k3 T' rfl X'
    exact ⟨t2, st t2 a1, b1⟩
  · obtain ⟨k1, k2, k3⟩ := vx_keep h0 e1 hS hAX hf hL hF
    obtain ⟨t2, a1, b1⟩ := kx E ce q u t T'.heap (locs ++ L) e1.symm (by rw [← e2]; exact X'.warmed.alike) hp hb k1 k2 k3 (by rw [e1]; exact hce) hcv hcl T' rfl X'
    exact ⟨t2, st.trans a1, b1⟩
theorem vx_callv {S SX : Type} {post : S → Prop} {px : SX → Prop} {B : S → State → Prop} {BX : String → SX → State → Prop} {AX : Nat → Prop} (hr : vx_Run p l e R s m args below meth c H locs cells slots mc ms (F0 m pc ls st0) rest (va_Qv post B A1 a) (vx_X px BX AX) free) (hS : va_S A0 H0 H locs) (hA : ∀ q, q < H.size → A1 q → A0 q) (hf : ∀ q, free q → A0 q) (hAX : ∀ q, q < H.size → AX q → A0 q)
    (kx : ∀ (E : String) (ce : Cell) (q9 : Addr) (u : SX) (t : State) (H1 : Heap) (locs1 : List Loc), t.heap = H1 → s.vm.Alike t.vm → px u → BX E u t → H.size ≤ H1.size → (∀ q : Nat, q < H.size → ¬ AX q → H1[q]? = H[q]?) → va_S A0 H0 H1 locs1 → H1[q9]? = some ce → ce.vm = .none → s.vm.findClass E = some ce.cls → vx_W p l e R s m args below meth c H1 locs1 (cells + mc) (slots + ms) Q (F0 m pc ls rest) q9)
    (kk : ∀ (u : S) (t : State) (H1 : Heap) (locs1 : List Loc), t.heap = H1 → s.vm.Alike t.vm → post u → B u t → H.size ≤ H1.size → (∀ q : Nat, q < H.size → ¬ A1 q → H1[q]? = H[q]?) → va_S A0 H0 H1 locs1 → W p l e R s m args below meth c H1 locs1 (cells + mc) (slots + ms) Q (F0 m (pc + 3) ls (rest))) : W p l e R s m args below meth c H locs cells slots Q (F0 m pc ls st0) := by
  intro T hT X
  rcases hr T hT X with ⟨v, st₀, t, T', L, h0, X', hL, e1, e2, ⟨⟨u, hv, hp, hb⟩, hF⟩, st⟩ | ⟨q, st₀, t, T', L, E, ce, h0, X', hL, e1, e2, ⟨u, hp, hb, hF⟩, hce, hcv, hcl, st⟩
  · cases hv
    obtain ⟨k1, k2, k3⟩ := vx_keep h0 e1 hS hA hf hL hF
    obtain ⟨t2, a1, b1⟩ := kk u t T'.heap (locs ++ L) e1.symm (by rw [← e2]; exact X'.warmed.alike) hp hb k1 k2 k3 T' rfl X'
    exact ⟨t2, st t2 a1, b1⟩
  · obtain ⟨k1, k2, k3⟩ := vx_keep h0 e1 hS hAX hf hL hF
    obtain ⟨t2, a1, b1⟩ := kx E ce q u t T'.heap (locs ++ L) e1.symm (by rw [← e2]; exact X'.warmed.alike) hp hb k1 k2 k3 (by rw [e1]; exact hce) hcv hcl T' rfl X'
    exact ⟨t2, st.trans a1, b1⟩
/-- caught by the row x of this method's table; the rows ahead don't take it -/
theorem vx_catch {own name : String} {E : String} {ce : Cell} {q : Addr} (hown : s.vm.findClass own = some m.cls) (pre : List ExceptionTableEntry) (x : ExceptionTableEntry) (suf : List ExceptionTableEntry) (hsplit : c.exceptionTable.toList = pre ++ x :: suf)
    (hpass : ∀ z ∈ pre, covers z pc = false ∨ (z.catchType ≠ 0 ∧ ∃ nm : String, (Cond.classLink own z.catchType nm).before args s = true ∧ va_Nc E nm s)) (hx : covers x pc = true) (h0 : x.catchType ≠ 0)
    (hlink : (Cond.classLink own x.catchType name).before args s = true) (hcast : (Cond.castable E name).before args s = true) (hcell : H[q]? = some ce) (hv : ce.vm = .none) (hcl : s.vm.findClass E = some ce.cls)
    (kk : W p l e R s m args below meth c H locs cells slots Q (F0 m x.handlerPc ls [.ref q])) : vx_W p l e R s m args below meth c H locs cells slots Q (F0 m pc ls rest) q := by
  intro T hT X
  have hpl : e.platform.magicAccessors = ({} : Platform).magicAccessors := by rw [X.admits.platform]
  obtain ⟨c3, c4, hc3, hc4, hasg⟩ := Cond.castable_spec hcast
  cases Option.some.inj (hc3.symm.trans hcl)
  obtain ⟨c5, hc5, hcl5⟩ := Cond.classLink_spec hown hlink e.platform hpl
  cases Option.some.inj (hc4.symm.trans hc5)
  obtain ⟨vm', X', st⟩ := X.thenCaughtThrough q (g := F0 m pc ls rest) rfl (Steps.refl _) (by rw [hT]; exact hcell) (by rw [hv]; rfl) (by obtain ⟨k9, h9, -⟩ := Vm.findClass_spec hcl; exact ⟨k9, h9⟩) pre x suf hsplit
    (fun z hz => by
      rcases hpass z hz with h | ⟨hz0, nm, hl1, hn1⟩
      · exact Or.inl h
      · obtain ⟨c6, hc6, hcl6⟩ := Cond.classLink_spec hown hl1 e.platform hpl
        obtain ⟨a8, b8, h1, h2, h3⟩ := hn1
        cases Option.some.inj (h1.symm.trans hcl)
        cases Option.some.inj (h2.symm.trans hc6)
        exact Or.inr ⟨hz0, _, hcl6, h3⟩) hx (Or.inr ⟨h0, c4, hcl5, hasg⟩)
  obtain ⟨t, a1, b1⟩ := kk (T.setVm vm') hT X'
  exact ⟨t, st.trans a1, b1⟩
end Rows
section Ends
variable {p : Program} {l : Launch} {e : Env} {R : Room} {s : State} {m : MethodId} {args : Array Value} {below : List Frame} {meth : Method} {c : Code} {H : Heap} {locs : List Loc} {cells slots : Nat} {Q : State → Prop}
variable {mc ms : Nat} {free : Addr → Prop} {A0 A1 : Nat → Prop} {H0 : Heap} {a : Array Value} {ls : Array Slot} {st0 rest : List Value}
variable {Qc : Array Value → State → Outcome → State → Prop} {XC : String → State → State → Prop}
/-- what a body that may throw owes at its end -/
def vx_MQ (below : List Frame) (Qc : Array Value → State → Outcome → State → Prop) (XC : String → State → State → Prop) (a : Array Value) (s : State) (mc ms : Nat) (free : Addr → Prop) : State → Prop := fun t =>
  ∃ o, t.status = .running ∧ Ended t below o ∧ vx_Q Qc XC mc ms free a s o t
theorem vx_ret {g : JFrame} {mc ms : Nat} (k : W p l e R s m args below meth c H locs cells slots (MQ below Qc args s mc ms free) g) : W p l e R s m args below meth c H locs cells slots (vx_MQ below Qc XC args s mc ms free) g := by
  intro T hT X
  obtain ⟨t, a1, o, b1, b2, b3, b4⟩ := k T hT X
  exact ⟨t, a1, o, b1, b2, Or.inl ⟨b3, b4⟩⟩
/-- not caught here: it goes on to the caller -/
theorem vx_widen {g : JFrame} {q : Addr} {k n : Nat} (h1 : cells ≤ k) (h2 : slots ≤ n) (kk : vx_W p l e R s m args below meth c H locs k n Q g q) : vx_W p l e R s m args below meth c H locs cells slots Q g q := fun T hT X => kk T hT (stand_widen X h1 h2)
theorem vx_out {pc : Nat} {E : String} {ce : Cell} {q : Addr} {mc ms : Nat} (hout : ∀ x ∈ c.exceptionTable.toList, covers x pc = false) (hlocks : meth.locks = false) (hcell : H[q]? = some ce) (hv : ce.vm = .none) (hcl : s.vm.findClass E = some ce.cls)
    (hx : ∀ t : State, t.heap = H → s.vm.Alike t.vm → XC E s t) (hf : ∀ z ∈ locs, free z.base) (hc : cells ≤ mc) (hs : slots ≤ ms) :
    vx_W p l e R s m args below meth c H locs cells slots (vx_MQ below Qc XC args s mc ms free) (F0 m pc ls rest) q := by
  intro T hT X
  obtain ⟨st1, hrun, hend, hW, hsm⟩ := X.leaveThrown q (g := F0 m pc ls rest) rfl rfl rfl hout hlocks
  have hcell9 : (T.setFrames (.throwing q :: below)).heap[q]? = some ce := by
    show T.heap[q]? = some ce
    rw [hT]; exact hcell
  exact ⟨_, st1, .threw q, hrun, hend, Or.inr ⟨q, rfl, E, ce, locs, hx _ hT hW.alike, hcell9, hv, hcl, hW, hsm.mono hc hs, hf⟩⟩
theorem vx_frame {U : State} {k n : Nat} (h : s.sameButNew ({ U with vm := s.vm } : State) locs k n) : s.heap.size ≤ U.heap.size ∧ ∀ q : Nat, q < s.heap.size → (∀ z ∈ locs, z.base ≠ q) → U.heap[q]? = s.heap[q]? := by
  obtain ⟨-, h2, -, -, -, h6⟩ := h
  refine ⟨h2, fun q hq hz => ?_⟩
  obtain ⟨c9, e1, e2, e3, e4⟩ := h6 q _ (Array.getElem?_eq_getElem hq)
  have hs : c9.slots = (s.heap[q]).slots := Array.ext_getElem? fun i => e4 i fun hm => hz _ hm rfl
  have h9 : c9 = s.heap[q] := by
    rw [hs] at e2
    exact e2
  have e5 : U.heap[q]? = some c9 := e1
  rw [e5, h9, Array.getElem?_eq_getElem hq]
/-- the words of a throw but the four that speak of the heap -/
def vx_no (w : Cond) : Bool := decide (w ≠ .isRef (.static Bundle.tN "UNASSIGNED_STACK" Bundle.steD)) && decide (w ≠ .isRef (.static Bundle.tN "SUPPRESSED_SENTINEL" Bundle.listD)) && decide (w ≠ .laysStatic Bundle.tN "UNASSIGNED_STACK" Bundle.steD) && decide (w ≠ .laysStatic Bundle.tN "SUPPRESSED_SENTINEL" Bundle.listD)
def vx_at0 (own : String) (ic : Nat) (X : String) (names : List String) : List Cond := (Bundle.ownAtoms0 own ic X names).filter vx_no
def vx_atS (own : String) (ic : Nat) (X : String) (names : List String) : List Cond := (Bundle.ownAtoms own ic X names).filter vx_no
/-- a word that the tables alone decide, or a good one -/
def vx_ot (w : Cond) : Bool := w.onTables || goodWord w
theorem vx_ot_at {args a' : Array Value} {s U : State} {w : Cond} (hW : s.WarmedH U.vm) (hvm : s.vm = U.vm) (hg : vx_ot w = true) (h : w.before args s = true) : w.before a' U = true := by
  simp only [vx_ot, Bool.or_eq_true] at hg
  rcases hg with hg | hg
  · exact va_tabs hg hvm h
  · exact word_at hW (good_of_word hg) h
/-- a list's words: the good ones out of the method's own list, the others by premises of their own -/
theorem vx_hat {args : Array Value} {s : State} {L B : List Cond} (h1 : ∀ w ∈ L.filter goodWord, w.before args s = true) (h2 : ∀ w ∈ L.filter (fun w => !goodWord w), w ∈ B) (h3 : ∀ w ∈ B, w.before args s = true) : ∀ w ∈ L, w.before args s = true := by
  intro w hw
  by_cases g : goodWord w = true
  · exact h1 w (List.mem_filter.mpr ⟨hw, g⟩)
  · refine h3 w (h2 w (List.mem_filter.mpr ⟨hw, ?_⟩))
    show (!goodWord w) = true
    cases hgw : goodWord w
    · rfl
    · exact absurd hgw g
theorem vx_c {args : Array Value} {s : State} {w : Cond} {B : List Cond} (h : w.before args s = true) (t : ∀ w ∈ B, w.before args s = true) : ∀ w' ∈ w :: B, w'.before args s = true := fun w' h' => (List.mem_cons.mp h').elim (fun e => by rw [e]; exact h) (t w')
theorem vx_n {args : Array Value} {s : State} : ∀ w ∈ ([] : List Cond), w.before args s = true := fun _ h => nomatch h
theorem vx_own {args : Array Value} {s : State} {L : List Cond} (h1 : ∀ w ∈ L.filter vx_no, w.before args s = true)
    (hU : (Cond.isRef (.static Bundle.tN "UNASSIGNED_STACK" Bundle.steD)).before args s = true) (hN : (Cond.isRef (.static Bundle.tN "SUPPRESSED_SENTINEL" Bundle.listD)).before args s = true)
    (lU : (Cond.laysStatic Bundle.tN "UNASSIGNED_STACK" Bundle.steD).before args s = true) (lN : (Cond.laysStatic Bundle.tN "SUPPRESSED_SENTINEL" Bundle.listD).before args s = true) : ∀ w ∈ L, w.before args s = true := by
  intro w hw
  by_cases e1 : w = .isRef (.static Bundle.tN "UNASSIGNED_STACK" Bundle.steD)
  · rw [e1]; exact hU
  · by_cases e2 : w = .isRef (.static Bundle.tN "SUPPRESSED_SENTINEL" Bundle.listD)
    · rw [e2]; exact hN
    · by_cases e3 : w = .laysStatic Bundle.tN "UNASSIGNED_STACK" Bundle.steD
      · rw [e3]; exact lU
      · by_cases e4 : w = .laysStatic Bundle.tN "SUPPRESSED_SENTINEL" Bundle.listD
        · rw [e4]; exact lN
        · exact h1 w (List.mem_filter.mpr ⟨hw, by unfold vx_no; rw [decide_eq_true e1, decide_eq_true e2, decide_eq_true e3, decide_eq_true e4]; rfl⟩)
/-- where a static field lies, its class's statics cell in H -/
def vx_L (C n d : String) (A : Nat → Prop) (U : State) (H : Heap) : Prop := ∃ (c : ClassId) (k : Class) (i : Nat) (f : Field) (a : Nat) (cell : Cell), U.vm.findClass C = some c ∧ U.fieldFound? C n d = some (c, k, i, f) ∧ f.isStatic = true ∧ k.statics = some a ∧ H[a]? = some cell ∧ cell.vm.isStatics = true ∧ cell.cls = c ∧ f.slot < cell.slots.size ∧ k.staticTypes[f.slot]? = some f.type ∧ ¬ A a
theorem vx_L.moved {C n d : String} {A : Nat → Prop} {u U : State} {H : Heap} (hvm : u.vm.Alike U.vm) (h : vx_L C n d A u H) : vx_L C n d A U H := by
  obtain ⟨c, k, i, f, a, cell, h1, h2, h3, h4, h5, h6, h7, h8, h9, h10⟩ := h
  obtain ⟨k', hi', he⟩ := State.fieldFound?_setVm hvm h2
  exact ⟨c, k', i, f, a, cell, by rw [hvm.findClass]; exact h1, hi', h3, by rw [he]; exact h4, h5, h6, h7, h8, by rw [he]; exact h9, h10⟩
theorem vx_L.kept {C n d : String} {A : Nat → Prop} {U : State} {H H1 : Heap} (h : vx_L C n d A U H) (hq : ∀ a : Nat, a < H.size → ¬ A a → H1[a]? = H[a]?) : vx_L C n d A U H1 := by
  obtain ⟨c, k, i, f, a, cell, h1, h2, h3, h4, h5, h6, h7, h8, h9, h10⟩ := h
  exact ⟨c, k, i, f, a, cell, h1, h2, h3, h4, by rw [hq a (Array.getElem?_eq_some_iff.mp h5).1 h10]; exact h5, h6, h7, h8, h9, h10⟩
theorem vx_L.narrow {C n d : String} {A B : Nat → Prop} {U : State} {H : Heap} (h : vx_L C n d A U H) (hAB : ∀ q, B q → A q) : vx_L C n d B U H := by
  obtain ⟨c, k, i, f, a, cell, h1, h2, h3, h4, h5, h6, h7, h8, h9, h10⟩ := h
  exact ⟨c, k, i, f, a, cell, h1, h2, h3, h4, h5, h6, h7, h8, h9, fun z => h10 (hAB _ z)⟩
theorem vx_L.word {C n d : String} {A : Nat → Prop} {s : State} {args : Array Value} (h : vx_L C n d A s s.heap) : (Cond.laysStatic C n d).before args s = true := by
  obtain ⟨c, k, i, f, a, cell, h1, h2, h3, h4, h5, h6, h7, h8, h9, -⟩ := h
  show (Cond.laysStatic C n d).holds args s none s [] = true
  exact Cond.laysStatic_of h1 h2 h3 h4 h5 h6 h7 h8 h9
/-- .. and what it holds: null or some reference -/
def vx_Zq (C n d : String) (A : Nat → Prop) (U : State) (H : Heap) : Prop := va_Zq C n d A U H ∧ vx_L C n d A U H
theorem vx_Zq.moved {C n d : String} {A : Nat → Prop} {u U : State} {H : Heap} (hvm : u.vm.Alike U.vm) (h : vx_Zq C n d A u H) : vx_Zq C n d A U H := ⟨va_Zq.moved hvm h.1, vx_L.moved hvm h.2⟩
theorem vx_Zq.kept {C n d : String} {A : Nat → Prop} {U : State} {H H1 : Heap} (h : vx_Zq C n d A U H) (hq : ∀ a : Nat, a < H.size → ¬ A a → H1[a]? = H[a]?) : vx_Zq C n d A U H1 := ⟨va_Zq.kept h.1 hq, vx_L.kept h.2 hq⟩
theorem vx_Zq.narrow {C n d : String} {A B : Nat → Prop} {U : State} {H : Heap} (h : vx_Zq C n d A U H) (hAB : ∀ q, B q → A q) : vx_Zq C n d B U H := ⟨va_Zq.narrow h.1 hAB, vx_L.narrow h.2 hAB⟩
theorem vx_Zqof {args : Array Value} {s : State} {C n d : String} {A : Nat → Prop} (hl : (Cond.laysStatic C n d).before args s = true) (hini : (Cond.initialized C).before args s = true) (h : (Cond.isRef (.static C n d)).before args s = true) (hA : ∀ a : Nat, a < s.heap.size → ¬ A a) : vx_Zq C n d A s s.heap := by
  refine ⟨va_Zqof hl hini h hA, ?_⟩
  obtain ⟨c, k, i, f, a, cell, h1, h2, h3, h4, h5, h6, h7, h8, h9⟩ := Cond.laysStatic_spec hl
  exact ⟨c, k, i, f, a, cell, h1, h2, h3, h4, h5, h6, h7, h8, h9, hA a (Array.getElem?_eq_some_iff.mp h5).1⟩
theorem vx_isRef {C n d : String} {v : Value} {A : Nat → Prop} {s : State} {args : Array Value} (h : va_Z C n d v A s s.heap) (hv : v.isRef = true) : (Cond.isRef (.static C n d)).before args s = true := by
  obtain ⟨cf, kf, fi, f, a, cell, h1, h2, h3, h4, h5, h6, h7, -⟩ := h
  have he : (Term.static C n d).eval args s none [] s = some v := by
    simp [Term.eval, State.fieldNamed?, h1, h2, h4, h5, h6, h7]
  simp only [Cond.before, Cond.holds, Cond.value, he]
  cases v <;> simp_all [Value.isRef]
theorem vx_isRefq {C n d : String} {A : Nat → Prop} {s : State} {args : Array Value} (h : va_Zq C n d A s s.heap) : (Cond.isRef (.static C n d)).before args s = true := by
  rcases h with h | ⟨t, h⟩
  · exact vx_isRef h rfl
  · exact vx_isRef h rfl
/-- the same frame, seen from here: as if the method were called anew in this heap -/
theorem vx_rebase {T : State} (X : Stand p l e R s m args below meth c T locs cells slots) {R' : Room} (hf : R'.frames ≤ R.frames) (hl : R'.locals ≤ R.locals) (hc : cells + R'.cells ≤ R.cells) (hs : slots + R'.slots ≤ R.slots) :
    Stand p l e R' ((T.setVm s.vm).setFrames (.invoking m args :: below)) m args below meth c T [] 0 0 := by
  have htop : (T.setVm s.vm).topJava?.isSome := X.here.top
  have hF : ((T.setVm s.vm).setFrames (.invoking m args :: below)).frames = .invoking m args :: below := State.frames_setFrames _ (State.cur_lt_of_top htop)
  obtain ⟨g₀, hg0⟩ := Option.isSome_iff_exists.mp htop
  obtain ⟨r, hr⟩ := State.topJava?_eq_some.mp hg0
  have hl9 : e.platform.stackLimits (T.setVm s.vm).me = e.platform.stackLimits s.me := X.limits
  have hb9 : (T.setVm s.vm).me.stackBytes = s.me.stackBytes := X.bytes
  refine ⟨X.admits, X.cas, X.clock, hF, ?_, X.hears, X.method, X.code, X.here, X.tail, X.warmed, ?_, ?_, ?_⟩
  · have h := X.room
    have hU : ((T.setVm s.vm).setFrames (.invoking m args :: below)).localsInUse = s.localsInUse := by
      rw [State.localsInUse_invoking hF (meth := meth) (c := c) X.method X.code, State.localsInUse_invoking X.frames X.method X.code]
    simp only [State.hasRoom, Bool.and_eq_true, decide_eq_true_eq] at h ⊢
    obtain ⟨⟨⟨⟨h1, h2, h3, h4, h5, h6⟩, h7⟩, h8⟩, h9⟩ := h
    rw [X.frames, List.length_cons] at h2 h3
    have q1 := X.heapSize
    have q2 := X.used
    simp only [hF, hU, List.length_cons, State.stackLimits_setFrames, State.stackBytes_setFrames, hl9, hb9]
    refine ⟨⟨⟨⟨by omega, by omega, by omega, by omega, by omega, h6⟩, ?_⟩, ?_⟩, X.book⟩
    · show T.heap.size + R'.cells ≤ e.platform.maxCells
      omega
    · show T.slotsUsed + R'.slots ≤ e.platform.maxSlots
      omega
  · rw [State.stackLimits_setFrames]; rfl
  · rw [State.stackBytes_setFrames]; rfl
  · refine ⟨?_, Nat.le_refl _, Nat.le_refl _, ?_, ?_, fun a c9 h9 => ⟨c9, h9, rfl, rfl, fun _ _ => rfl⟩⟩
    · obtain ⟨t, ht, -⟩ := State.frames_cons hr
      show T.setVm s.vm = { ((T.setVm s.vm).setFrames (.invoking m args :: below)).setFrames (T.setVm s.vm).frames with heap := T.heap, slotsUsed := T.slotsUsed }
      rw [State.setFrames_setFrames, State.setFrames_self ht]
      rfl
    · show T.slotsUsed = T.slotsUsed + ((T.heap.toList.drop T.heap.size).map (·.slots.size)).sum
      rw [List.drop_eq_nil_of_le (Nat.le_of_eq Array.length_toList)]
      rfl
    · show ((T.heap.toList.drop T.heap.size).map (·.slots.size)).sum ≤ 0
      rw [List.drop_eq_nil_of_le (Nat.le_of_eq Array.length_toList)]
      exact Nat.le_refl _
/-- 'throw new E()': new; dup; invokespecial; athrow -/
theorem vx_throw0 {cc : ByteArray} {pc : Nat} (hexec : p.tables.exec = Jvm.exec) (hb : c.code = cc) (hl : l.stackTraces = false) {own cls : String} {names : List String} {ik ic mc ms : Nat} {A : Nat → Prop}
    (hown : s.vm.findClass own = some m.cls) (hcls : Bundle.fit cls = true) (hnames : ∀ n ∈ names, Bundle.fit n = true)
    (hk : (Cond.classLink own ik cls).before args s = true) (hini : (Cond.initialized cls).before args s = true) (hat : ∀ w ∈ vx_at0 own ic cls names, w.before args s = true)
    (hgood : ∀ w ∈ Cond.classLink own ik cls :: Cond.initialized cls :: vx_at0 own ic cls names, vx_ot w = true)
    (hU : vx_Zq Bundle.tN "UNASSIGNED_STACK" Bundle.steD A s s.heap) (hN : vx_Zq Bundle.tN "SUPPRESSED_SENTINEL" Bundle.listD A s s.heap) (hS : va_S A s.heap H locs) (hsize : ls.size = c.maxLocals)
    (d0 : decode cc pc = .ok (.new ik, 3)) (d3 : decode cc (pc + 3) = .ok (.dup, 1)) (d4 : decode cc (pc + 4) = .ok (.invokespecial ic, 3)) (d7 : decode cc (pc + 7) = .ok (.athrow, 1))
    (hout : ∀ x ∈ c.exceptionTable.toList, covers x (pc + 7) = false)
    (hRframes : names.length + 3 < R.frames) (hRlocals : (rest.map fun v => v.category).sum + (13 * (names.length + 1) + 42) ≤ R.locals) (hRcells : cells + 1 ≤ R.cells) (hRslots : slots + 6 ≤ R.slots) (hlocks : meth.locks = false)
    (hx : ∀ t : State, s.vm.Alike t.vm → H.size ≤ t.heap.size → (∀ q : Nat, q < H.size → t.heap[q]? = H[q]?) → XC cls s t)
    (hf : ∀ z ∈ locs, free z.base) (hc : cells + 1 ≤ mc) (hs : slots + 6 ≤ ms) :
    W p l e R s m args below meth c H locs cells slots (vx_MQ below Qc XC args s mc ms free) (F0 m pc ls rest) := by
  intro T hT X
  have htr : e.platform.stackTraces = false := (show e.platform.stackTraces = l.stackTraces by rw [X.admits.platform]).trans hl
  have Y := vx_rebase X (R' := { frames := R.frames, locals := R.locals, cells := 1, slots := 6 }) (Nat.le_refl _) (Nat.le_refl _) hRcells hRslots
  obtain ⟨s', hA⟩ : ∃ z, z = (T.setVm s.vm).setFrames (.invoking m args :: below) := ⟨_, rfl⟩
  rw [← hA] at Y
  have hvm : s'.vm = s.vm := by rw [hA]; rfl
  have hhp : s'.heap = H := by rw [hA]; exact hT
  have hW0 : s.WarmedH s'.vm := by rw [hvm]; exact State.WarmedH.refl s
  have hat' : ∀ w ∈ vx_at0 own ic cls names, w.before args s' = true := fun w hw => vx_ot_at hW0 hvm.symm (hgood w (List.mem_cons_of_mem _ (List.mem_cons_of_mem _ hw))) (hat w hw)
  have hk' : (Cond.classLink own ik cls).before args s' = true := vx_ot_at hW0 hvm.symm (hgood _ List.mem_cons_self) hk
  have hini' : (Cond.initialized cls).before args s' = true := vx_ot_at hW0 hvm.symm (hgood _ (List.mem_cons_of_mem _ List.mem_cons_self)) hini
  have hU' : vx_Zq Bundle.tN "UNASSIGNED_STACK" Bundle.steD A s' s'.heap := by rw [hhp]; exact vx_Zq.moved hW0.alike (hU.kept hS.2.1)
  have hN' : vx_Zq Bundle.tN "SUPPRESSED_SENTINEL" Bundle.listD A s' s'.heap := by rw [hhp]; exact vx_Zq.moved hW0.alike (hN.kept hS.2.1)
  have h : ∀ w ∈ Bundle.ownAtoms0 own ic cls names, w.before args s' = true := vx_own hat' (vx_isRefq hU'.1) (vx_isRefq hN'.1) hU'.2.word hN'.2.word
  have hown' : s'.vm.findClass own = some m.cls := by rw [hvm]; exact hown
  have hins : (Cond.instantiable cls 6).before args s' = true := h _ (by simp [Bundle.ownAtoms0])
  obtain ⟨vm₁, cX, kX, hfX, hkX, -, -, X₁, st1⟩ := Y.newCold hexec (own := own) (C := cls) (index := ik) (n := 6) hown' hk' hins hini'
    (g := F0 m pc ls rest) rfl (by rw [hb]; exact d0) (Nat.le_refl _) (Nat.le_refl _)
  generalize hT1 : (T.setVm vm₁).pushCell { cls := cX, slots := kX.instanceTypes.map defaultValue, vm := .none } = T1 at X₁ st1
  have hcat : (Value.ref T.heap.size).category = 1 := rfl
  have hcellA : T1.heap[T.heap.size]? = some (freshCell cX kX) := by rw [← hT1]; exact State.heap_pushCell_size _ _
  have d3' : decode c.code (pc + 3) = .ok (.dup, 1) := by rw [hb]; exact d3
  obtain ⟨U, hsteps, hrun, hend, hW, hsame, ce, hce, hO⟩ := X₁.ctorThrow0 hexec htr (own := own) (cls := cls) (names := names) (ic := ic) hown' hcls hnames h (fun x hx => nomatch hx) hfX hkX hcellA (by rw [hhp, hT]; exact Nat.le_refl _)
    (g := { method := m, pc := pc + 4, locals := ls, stack := .ref T.heap.size :: .ref T.heap.size :: rest, locked := none }) rfl hsize rfl rfl (rest := rest) rfl
    (by rw [hb]; exact d4) (by rw [hb]; exact d7) hout hRframes (by simp only [List.map_cons, List.sum_cons, hcat]; omega) hlocks
  obtain ⟨f1, f2⟩ := vx_frame hsame
  rw [hhp] at f1 f2
  have hWs : s.WarmedH U.vm := State.WarmedH.trans hW0 hW
  have hcl : s.vm.findClass cls = some ce.cls := by
    have h9 := hO.cls
    rw [hvm] at h9
    exact h9
  have hall : s.sameButNew ({ U with vm := s.vm } : State) locs mc ms := by
    subst hA
    obtain ⟨e1, e2⟩ := hsame
    rw [State.setFrames_setFrames] at e1
    have h2 : (T.setVm s.vm).sameButNew ({ U with vm := s.vm } : State) [] (0 + 1) (0 + 6) := ⟨e1, e2⟩
    have h3 := X.same.trans h2
    rw [List.append_nil] at h3
    exact h3.mono hc hs
  refine ⟨U, ?_, .threw T.heap.size, hrun, hend, Or.inr ⟨T.heap.size, rfl, cls, ce, locs, hx U hWs.alike f1 (fun q hq => f2 q hq (fun z hz => nomatch hz)), hce, hO.vm, hcl, hWs, hall, hf⟩⟩
  refine st1 _ ?_
  show Steps p.tables e below (T1.setTop { method := m, pc := pc + 3, locals := ls, stack := .ref T.heap.size :: rest, locked := none }) _
  jvm_step X₁.here [X₁.here.top, hexec, d3', Value.category]
  exact hsteps
/-- 'throw new E("text")': new; dup; ldc; invokespecial; athrow -/
theorem vx_throwS {cc : ByteArray} {pc : Nat} (hexec : p.tables.exec = Jvm.exec) (hb : c.code = cc) (hl : l.stackTraces = false) {own cls text : String} {names : List String} {ik is ic mc ms sa : Nat} {A : Nat → Prop}
    (hown : s.vm.findClass own = some m.cls) (hcls : Bundle.fit cls = true) (hnames : ∀ n ∈ names, Bundle.fit n = true)
    (hk : (Cond.classLink own ik cls).before args s = true) (hini : (Cond.initialized cls).before args s = true) (hstr : vk_R own is text sa s) (hat : ∀ w ∈ vx_atS own ic cls names, w.before args s = true)
    (hgood : ∀ w ∈ Cond.classLink own ik cls :: Cond.initialized cls :: vx_atS own ic cls names, vx_ot w = true)
    (hU : vx_Zq Bundle.tN "UNASSIGNED_STACK" Bundle.steD A s s.heap) (hN : vx_Zq Bundle.tN "SUPPRESSED_SENTINEL" Bundle.listD A s s.heap) (hS : va_S A s.heap H locs) (hsize : ls.size = c.maxLocals)
    (d0 : decode cc pc = .ok (.new ik, 3)) (d3 : decode cc (pc + 3) = .ok (.dup, 1)) (d4 : decode cc (pc + 4) = .ok (.ldc is, 2)) (d6 : decode cc (pc + 6) = .ok (.invokespecial ic, 3)) (d9 : decode cc (pc + 9) = .ok (.athrow, 1))
    (hout : ∀ x ∈ c.exceptionTable.toList, covers x (pc + 9) = false)
    (hRframes : names.length + 3 < R.frames) (hRlocals : (rest.map fun v => v.category).sum + (13 * (names.length + 1) + 43) ≤ R.locals) (hRcells : cells + 1 ≤ R.cells) (hRslots : slots + 6 ≤ R.slots) (hlocks : meth.locks = false)
    (hx : ∀ t : State, s.vm.Alike t.vm → H.size ≤ t.heap.size → (∀ q : Nat, q < H.size → t.heap[q]? = H[q]?) → XC cls s t)
    (hf : ∀ z ∈ locs, free z.base) (hc : cells + 1 ≤ mc) (hs : slots + 6 ≤ ms) :
    W p l e R s m args below meth c H locs cells slots (vx_MQ below Qc XC args s mc ms free) (F0 m pc ls rest) := by
  intro T hT X
  have htr : e.platform.stackTraces = false := (show e.platform.stackTraces = l.stackTraces by rw [X.admits.platform]).trans hl
  have Y := vx_rebase X (R' := { frames := R.frames, locals := R.locals, cells := 1, slots := 6 }) (Nat.le_refl _) (Nat.le_refl _) hRcells hRslots
  obtain ⟨s', hA⟩ : ∃ z, z = (T.setVm s.vm).setFrames (.invoking m args :: below) := ⟨_, rfl⟩
  rw [← hA] at Y
  have hvm : s'.vm = s.vm := by rw [hA]; rfl
  have hhp : s'.heap = H := by rw [hA]; exact hT
  have hW0 : s.WarmedH s'.vm := by rw [hvm]; exact State.WarmedH.refl s
  have hat' : ∀ w ∈ vx_atS own ic cls names, w.before args s' = true := fun w hw => vx_ot_at hW0 hvm.symm (hgood w (List.mem_cons_of_mem _ (List.mem_cons_of_mem _ hw))) (hat w hw)
  have hk' : (Cond.classLink own ik cls).before args s' = true := vx_ot_at hW0 hvm.symm (hgood _ List.mem_cons_self) hk
  have hini' : (Cond.initialized cls).before args s' = true := vx_ot_at hW0 hvm.symm (hgood _ (List.mem_cons_of_mem _ List.mem_cons_self)) hini
  have hU' : vx_Zq Bundle.tN "UNASSIGNED_STACK" Bundle.steD A s' s'.heap := by rw [hhp]; exact vx_Zq.moved hW0.alike (hU.kept hS.2.1)
  have hN' : vx_Zq Bundle.tN "SUPPRESSED_SENTINEL" Bundle.listD A s' s'.heap := by rw [hhp]; exact vx_Zq.moved hW0.alike (hN.kept hS.2.1)
  have h : ∀ w ∈ Bundle.ownAtoms own ic cls names, w.before args s' = true := vx_own hat' (vx_isRefq hU'.1) (vx_isRefq hN'.1) hU'.2.word hN'.2.word
  have hown' : s'.vm.findClass own = some m.cls := by rw [hvm]; exact hown
  have hins : (Cond.instantiable cls 6).before args s' = true := h _ (by simp [Bundle.ownAtoms])
  obtain ⟨vm₁, cX, kX, hfX, hkX, -, -, X₁, st1⟩ := Y.newCold hexec (own := own) (C := cls) (index := ik) (n := 6) hown' hk' hins hini'
    (g := F0 m pc ls rest) rfl (by rw [hb]; exact d0) (Nat.le_refl _) (Nat.le_refl _)
  generalize hT1 : (T.setVm vm₁).pushCell { cls := cX, slots := kX.instanceTypes.map defaultValue, vm := .none } = T1 at X₁ st1
  have hcat : (Value.ref T.heap.size).category = 1 := rfl
  have hcellA : T1.heap[T.heap.size]? = some (freshCell cX kX) := by rw [← hT1]; exact State.heap_pushCell_size _ _
  have d3' : decode c.code (pc + 3) = .ok (.dup, 1) := by rw [hb]; exact d3
  have d4' : decode c.code (pc + 4) = .ok (.ldc is, 2) := by rw [hb]; exact d4
  have hstr' : vk_R own is text sa s' := vk_R.warm hW0 hstr
  obtain ⟨U, hsteps, hrun, hend, hW, hsame, ce, hce, hO⟩ := X₁.ctorThrowS hexec htr (own := own) (cls := cls) (names := names) (ic := ic) hown' hcls hnames h (fun x hx => nomatch hx) hfX hkX hcellA (by rw [hhp, hT]; exact Nat.le_refl _) (msg := .ref sa) rfl
    (g := { method := m, pc := pc + 6, locals := ls, stack := .ref sa :: .ref T.heap.size :: .ref T.heap.size :: rest, locked := none }) rfl hsize rfl rfl (rest := rest) rfl
    (by rw [hb]; exact d6) (by rw [hb]; exact d9) hout hRframes (by simp only [List.map_cons, List.sum_cons, hcat]; omega) hlocks
  obtain ⟨f1, f2⟩ := vx_frame hsame
  rw [hhp] at f1 f2
  have hWs : s.WarmedH U.vm := State.WarmedH.trans hW0 hW
  have hcl : s.vm.findClass cls = some ce.cls := by
    have h9 := hO.cls
    rw [hvm] at h9
    exact h9
  have hall : s.sameButNew ({ U with vm := s.vm } : State) locs mc ms := by
    subst hA
    obtain ⟨e1, e2⟩ := hsame
    rw [State.setFrames_setFrames] at e1
    have h2 : (T.setVm s.vm).sameButNew ({ U with vm := s.vm } : State) [] (0 + 1) (0 + 6) := ⟨e1, e2⟩
    have h3 := X.same.trans h2
    rw [List.append_nil] at h3
    exact h3.mono hc hs
  refine ⟨U, ?_, .threw T.heap.size, hrun, hend, Or.inr ⟨T.heap.size, rfl, cls, ce, locs, hx U hWs.alike f1 (fun q hq => f2 q hq (fun z hz => nomatch hz)), hce, hO.vm, hcl, hWs, hall, hf⟩⟩
  refine st1 _ ?_
  show Steps p.tables e below (T1.setTop { method := m, pc := pc + 3, locals := ls, stack := .ref T.heap.size :: rest, locked := none }) _
  jvm_step X₁.here [X₁.here.top, hexec, d3', Value.category]
  exact X₁.ldcString hexec (own := own) (text := text) (index := is) (a := sa) hown' hstr'.1 hstr'.2
    (g := { method := m, pc := pc + 4, locals := ls, stack := .ref T.heap.size :: .ref T.heap.size :: rest, locked := none }) rfl d4' _ hsteps
/-- 'throw new E("text")', the text by a wide index -/
theorem vx_throwSW {cc : ByteArray} {pc : Nat} (hexec : p.tables.exec = Jvm.exec) (hb : c.code = cc) (hl : l.stackTraces = false) {own cls text : String} {names : List String} {ik is ic mc ms sa : Nat} {A : Nat → Prop}
    (hown : s.vm.findClass own = some m.cls) (hcls : Bundle.fit cls = true) (hnames : ∀ n ∈ names, Bundle.fit n = true)
    (hk : (Cond.classLink own ik cls).before args s = true) (hini : (Cond.initialized cls).before args s = true) (hstr : vk_R own is text sa s) (hat : ∀ w ∈ vx_atS own ic cls names, w.before args s = true)
    (hgood : ∀ w ∈ Cond.classLink own ik cls :: Cond.initialized cls :: vx_atS own ic cls names, vx_ot w = true)
    (hU : vx_Zq Bundle.tN "UNASSIGNED_STACK" Bundle.steD A s s.heap) (hN : vx_Zq Bundle.tN "SUPPRESSED_SENTINEL" Bundle.listD A s s.heap) (hS : va_S A s.heap H locs) (hsize : ls.size = c.maxLocals)
    (d0 : decode cc pc = .ok (.new ik, 3)) (d3 : decode cc (pc + 3) = .ok (.dup, 1)) (d4 : decode cc (pc + 4) = .ok (.ldc_w is, 3)) (d7 : decode cc (pc + 7) = .ok (.invokespecial ic, 3)) (d10 : decode cc (pc + 10) = .ok (.athrow, 1))
    (hout : ∀ x ∈ c.exceptionTable.toList, covers x (pc + 10) = false)
    (hRframes : names.length + 3 < R.frames) (hRlocals : (rest.map fun v => v.category).sum + (13 * (names.length + 1) + 43) ≤ R.locals) (hRcells : cells + 1 ≤ R.cells) (hRslots : slots + 6 ≤ R.slots) (hlocks : meth.locks = false)
    (hx : ∀ t : State, s.vm.Alike t.vm → H.size ≤ t.heap.size → (∀ q : Nat, q < H.size → t.heap[q]? = H[q]?) → XC cls s t)
    (hf : ∀ z ∈ locs, free z.base) (hc : cells + 1 ≤ mc) (hs : slots + 6 ≤ ms) :
    W p l e R s m args below meth c H locs cells slots (vx_MQ below Qc XC args s mc ms free) (F0 m pc ls rest) := by
  intro T hT X
  have htr : e.platform.stackTraces = false := (show e.platform.stackTraces = l.stackTraces by rw [X.admits.platform]).trans hl
  have Y := vx_rebase X (R' := { frames := R.frames, locals := R.locals, cells := 1, slots := 6 }) (Nat.le_refl _) (Nat.le_refl _) hRcells hRslots
  obtain ⟨s', hA⟩ : ∃ z, z = (T.setVm s.vm).setFrames (.invoking m args :: below) := ⟨_, rfl⟩
  rw [← hA] at Y
  have hvm : s'.vm = s.vm := by rw [hA]; rfl
  have hhp : s'.heap = H := by rw [hA]; exact hT
  have hW0 : s.WarmedH s'.vm := by rw [hvm]; exact State.WarmedH.refl s
  have hat' : ∀ w ∈ vx_atS own ic cls names, w.before args s' = true := fun w hw => vx_ot_at hW0 hvm.symm (hgood w (List.mem_cons_of_mem _ (List.mem_cons_of_mem _ hw))) (hat w hw)
  have hk' : (Cond.classLink own ik cls).before args s' = true := vx_ot_at hW0 hvm.symm (hgood _ List.mem_cons_self) hk
  have hini' : (Cond.initialized cls).before args s' = true := vx_ot_at hW0 hvm.symm (hgood _ (List.mem_cons_of_mem _ List.mem_cons_self)) hini
  have hU' : vx_Zq Bundle.tN "UNASSIGNED_STACK" Bundle.steD A s' s'.heap := by rw [hhp]; exact vx_Zq.moved hW0.alike (hU.kept hS.2.1)
  have hN' : vx_Zq Bundle.tN "SUPPRESSED_SENTINEL" Bundle.listD A s' s'.heap := by rw [hhp]; exact vx_Zq.moved hW0.alike (hN.kept hS.2.1)
  have h : ∀ w ∈ Bundle.ownAtoms own ic cls names, w.before args s' = true := vx_own hat' (vx_isRefq hU'.1) (vx_isRefq hN'.1) hU'.2.word hN'.2.word
  have hown' : s'.vm.findClass own = some m.cls := by rw [hvm]; exact hown
  have hins : (Cond.instantiable cls 6).before args s' = true := h _ (by simp [Bundle.ownAtoms])
  obtain ⟨vm₁, cX, kX, hfX, hkX, -, -, X₁, st1⟩ := Y.newCold hexec (own := own) (C := cls) (index := ik) (n := 6) hown' hk' hins hini'
    (g := F0 m pc ls rest) rfl (by rw [hb]; exact d0) (Nat.le_refl _) (Nat.le_refl _)
  generalize hT1 : (T.setVm vm₁).pushCell { cls := cX, slots := kX.instanceTypes.map defaultValue, vm := .none } = T1 at X₁ st1
  have hcat : (Value.ref T.heap.size).category = 1 := rfl
  have hcellA : T1.heap[T.heap.size]? = some (freshCell cX kX) := by rw [← hT1]; exact State.heap_pushCell_size _ _
  have d3' : decode c.code (pc + 3) = .ok (.dup, 1) := by rw [hb]; exact d3
  have d4' : decode c.code (pc + 4) = .ok (.ldc_w is, 3) := by rw [hb]; exact d4
  have hstr' : vk_R own is text sa s' := vk_R.warm hW0 hstr
  obtain ⟨U, hsteps, hrun, hend, hW, hsame, ce, hce, hO⟩ := X₁.ctorThrowS hexec htr (own := own) (cls := cls) (names := names) (ic := ic) hown' hcls hnames h (fun x hx => nomatch hx) hfX hkX hcellA (by rw [hhp, hT]; exact Nat.le_refl _) (msg := .ref sa) rfl
    (g := { method := m, pc := pc + 7, locals := ls, stack := .ref sa :: .ref T.heap.size :: .ref T.heap.size :: rest, locked := none }) rfl hsize rfl rfl (rest := rest) rfl
    (by rw [hb]; exact d7) (by rw [hb]; exact d10) hout hRframes (by simp only [List.map_cons, List.sum_cons, hcat]; omega) hlocks
  obtain ⟨f1, f2⟩ := vx_frame hsame
  rw [hhp] at f1 f2
  have hWs : s.WarmedH U.vm := State.WarmedH.trans hW0 hW
  have hcl : s.vm.findClass cls = some ce.cls := by
    have h9 := hO.cls
    rw [hvm] at h9
    exact h9
  have hall : s.sameButNew ({ U with vm := s.vm } : State) locs mc ms := by
    subst hA
    obtain ⟨e1, e2⟩ := hsame
    rw [State.setFrames_setFrames] at e1
    have h2 : (T.setVm s.vm).sameButNew ({ U with vm := s.vm } : State) [] (0 + 1) (0 + 6) := ⟨e1, e2⟩
    have h3 := X.same.trans h2
    rw [List.append_nil] at h3
    exact h3.mono hc hs
  refine ⟨U, ?_, .threw T.heap.size, hrun, hend, Or.inr ⟨T.heap.size, rfl, cls, ce, locs, hx U hWs.alike f1 (fun q hq => f2 q hq (fun z hz => nomatch hz)), hce, hO.vm, hcl, hWs, hall, hf⟩⟩
  refine st1 _ ?_
  show Steps p.tables e below (T1.setTop { method := m, pc := pc + 3, locals := ls, stack := .ref T.heap.size :: rest, locked := none }) _
  jvm_step X₁.here [X₁.here.top, hexec, d3', Value.category]
  exact X₁.ldcStringW hexec (own := own) (text := text) (index := is) (a := sa) hown' hstr'.1 hstr'.2
    (g := { method := m, pc := pc + 4, locals := ls, stack := .ref T.heap.size :: .ref T.heap.size :: rest, locked := none }) rfl d4' _ hsteps
end Ends
section Bodies
variable {l : Launch}
theorem vx_ofW {y : MethodName} {ws ws' : List Cond} {rm : Room} {Pc : Array Value → State → Prop} {Qc : Array Value → State → Outcome → State → Prop} {XC : String → State → State → Prop} {mc ms : Nat} {free : Addr → Prop} {cc : ByteArray} {maxL : Nat} {ret : Option FieldType}
    (hy : plainName y.cls = true) (hw : ws = Cond.code y cc maxL ret :: ws')
    (body : ∀ p e s m args below meth c s₁, BodyLoose p l y (headSpec ws rm) cc maxL ret e s m args below meth c s₁ → c.maxLocals = maxL → (∀ x ∈ c.exceptionTable.toList, False) → Pc args s →
      W p l e (headSpec ws rm).room s m args below meth c s.heap [] 0 0 (vx_MQ below Qc XC args s mc ms free) (entryFrame m args maxL)) : vx_Met l y ws rm Pc Qc XC mc ms free := by
  refine MetFree.of_bodyS (code := cc) (maxLocals := maxL) (ret := ret) hy ?_ ?_
  · intro args s m h hn
    obtain ⟨meth, c, h1, h2, h3, h4, h5, h6, -, -⟩ := Cond.code_spec hn (atoms_spec (ws := ws) h _ (by rw [hw]; exact List.mem_cons_self))
    exact ⟨meth, c, h1, h2, h3, h4, h5, h6⟩
  · intro p e s m args below meth c s₁ B hml hP _
    have hh0 : s₁.heap = s.heap := by rw [B.state]; rfl
    have ht : ∀ x ∈ c.exceptionTable.toList, False := by
      obtain ⟨meth9, c9, h1, h2, -, -, -, -, h7, -⟩ := Cond.code_spec B.named (atoms_spec (ws := ws) B.pre _ (by rw [hw]; exact List.mem_cons_self))
      cases Option.some.inj (h1.symm.trans B.method)
      cases Option.some.inj (h2.symm.trans (Stand.of_body B).code)
      intro x hx
      rw [Array.isEmpty_iff.mp h7] at hx
      cases hx
    obtain ⟨t, a1, o, b1, b2, b3⟩ := body p e s m args below meth c s₁ B hml ht hP s₁ hh0 (Stand.of_body B)
    exact ⟨t, o, a1, b1, b2, b3⟩
/-- the table of a body with handlers -/
theorem vx_table {p : Program} {x y : MethodName} {S : Spec} {cc bytes : ByteArray} {maxL maxL' : Nat} {ret ret' : Option FieldType} {e : Env} {s s₁ : State} {m : MethodId} {args : Array Value} {below : List Frame} {meth : Method} {c : Code} {hh : List (Nat × Nat × Nat × Nat)}
    (B : BodyLoose p l y S cc maxL ret e s m args below meth c s₁) (h : (Cond.codeWith y bytes maxL' ret' hh).before args s = true) : c.exceptionTable.toList = tableOf hh := by
  obtain ⟨m9, meth9, c9, hn9, h1, h2, -, -, h6, -⟩ := Cond.codeWith_spec h
  cases Option.some.inj (hn9.symm.trans B.named)
  cases Option.some.inj (h1.symm.trans B.method)
  cases Option.some.inj (h2.symm.trans (Stand.of_body B).code)
  rw [← h6, table_eq]
end Bodies
end VXA
/-! ===== END ===== -/
/-! ===== BEGIN a static call of a method with an exception table ===== -/
section VXS
variable {p : Program} {l : Launch} {e : Env} {R : Room} {s : State} {m : MethodId} {args : Array Value} {below : List Frame} {meth : Method} {c : Code} {T : State} {H : Heap} {locs : List Loc} {cells slots : Nat}
abbrev vx_CSW (R : Room) (s : State) (args : Array Value) (own : String) (index : Nat) (y : MethodName) (bytes : ByteArray) (maxL : Nat) (ret : Option FieldType) (hh : List (Nat × Nat × Nat × Nat)) (ws : List Cond) (rm : Room) (mc ms n : Nat) : Prop :=
  (rm.cells = mc ∧ rm.slots = ms ∧ rm.frames + 1 ≤ R.frames ∧ 8 + (maxL + 11) + rm.locals ≤ R.locals ∧ (∀ w ∈ ws, ∀ (a' : Array Value) (U : State), s.WarmedH U.vm → w.before a' U = true) ∧ Cond.codeWith y bytes maxL ret hh ∈ ws) ∧
  (Cond.codeWith y bytes maxL ret hh).before args s = true ∧ (Cond.initialized y.cls).before args s = true ∧ (y.cls ≠ "java/lang/invoke/MethodHandle" ∧ y.cls ≠ "java/lang/invoke/VarHandle") ∧
  (∀ sig, parseMethodDescriptor y.desc = some sig → n = sig.parameters.length) ∧ (Cond.methodLink own index y).before args s = true ∧ (Cond.static y).before args s = true
theorem vx_cwSW {own : String} {index maxL mc ms : Nat} {y : MethodName} {bytes : ByteArray} {ret : Option FieldType} {hh : List (Nat × Nat × Nat × Nat)} {Ts ws ws' : List Cond} {rm : Room} (n : Nat) (ht : ∀ w ∈ Ts, w.before args s = true) (hT : GoodIn Ts (va_wsS own index y ws)) (hw : ws = Cond.codeWith y bytes maxL ret hh :: ws') (hrc : rm.cells = mc) (hrs : rm.slots = ms)
    (hd : y.cls ≠ "java/lang/invoke/MethodHandle" ∧ y.cls ≠ "java/lang/invoke/VarHandle" ∧ (parseMethodDescriptor y.desc).map (fun d => d.parameters.length) = some n) (hR : rm.frames + 1 ≤ R.frames ∧ 8 + (maxL + 11) + rm.locals ≤ R.locals) :
    vx_CSW R s args own index y bytes maxL ret hh ws rm mc ms n := by
  have ok : ∀ w ∈ va_wsS own index y ws, w.before args s = true := fun w h => ht w (hT w h).1
  have hG : GoodIn Ts ws := fun w h => hT w (by unfold va_wsS; exact List.mem_append_right _ h)
  have hc : Cond.codeWith y bytes maxL ret hh ∈ ws := by rw [hw]; exact List.mem_cons_self
  refine ⟨⟨hrc, hrs, hR.1, hR.2, pay_in ht hG, hc⟩, ht _ (hG _ hc).1, ok _ (by simp [va_wsS]), ⟨hd.1, hd.2.1⟩, fun sig h => ?_, ok _ (by simp [va_wsS]), ok _ (by simp [va_wsS])⟩
  have h2 := hd.2.2
  rw [h] at h2
  exact (Option.some.inj h2).symm
theorem vx_callSW (X : Stand p l e R s m args below meth c T locs cells slots) (hexec : p.tables.exec = Jvm.exec) {own : String} {index : Nat} {y : MethodName} {bytes : ByteArray} {maxL : Nat} {ret : Option FieldType} {hh : List (Nat × Nat × Nat × Nat)}
    (hown : s.vm.findClass own = some m.cls) (hlink : (Cond.methodLink own index y).before args s = true) (hstat : (Cond.static y).before args s = true) (hinit : (Cond.initialized y.cls).before args s = true)
    (hcode : (Cond.codeWith y bytes maxL ret hh).before args s = true) (hy : y.cls ≠ "java/lang/invoke/MethodHandle" ∧ y.cls ≠ "java/lang/invoke/VarHandle")
    {W9 : Nat} {Pre : Pt → Array Value → Prop} {Post : Pt → Array Value → Option Value → Pt → Prop} (hK : Back l R p e below s args y 3 W9 Pre Post)
    {g : JFrame} (hg : g.method = m) (hsize : g.locals.size = c.maxLocals) {argsL rest : List Value} (hlen : ∀ sig, parseMethodDescriptor y.desc = some sig → argsL.length = sig.parameters.length)
    (hstack : g.stack = argsL.reverse ++ rest) (hW : 2 * g.monitorRoom + (rest.map fun v => v.category).sum ≤ W9) (hdg : decode c.code g.pc = .ok (.invokestatic index, 3))
    (hpre : ∀ vm₁, s.WarmedH vm₁ → Pre ⟨T.setVm vm₁, locs, cells, slots⟩ argsL.toArray) :
    ∃ (v : Option Value) (vm₁ : Vm) (B : Pt), s.WarmedH vm₁ ∧ Stand p l e R s m args below meth c B.U B.locs B.cells B.slots ∧ Post ⟨T.setVm vm₁, locs, cells, slots⟩ argsL.toArray v B ∧
      ∀ target, Steps p.tables e below (B.U.setTop { g with pc := g.pc + 3, stack := v.toList ++ rest }) target → Steps p.tables e below (T.setTop g) target := by
  obtain ⟨mk, methM, cM, hnamed, hmethM, -, -, -, -, -, -, hsigM⟩ := Cond.codeWith_spec hcode
  have hstatic : methM.isStatic = true := Cond.static_spec hnamed hmethM hstat
  obtain ⟨kP, hkP, -⟩ := className_of_methodNamed hnamed
  have hinitP : kP.init = .initialized := Cond.initialized_spec (findClass_of_methodNamed hnamed) hkP hinit
  obtain ⟨vm₁, X₁, hstep₁⟩ := X.invokestatic hexec hown hlink hnamed hmethM hstatic hkP hinitP hy (g := g) hg (argsL := argsL) (rest := rest) (hlen _ hsigM) hstack hdg
  obtain ⟨v, B, X', hpost, hsteps⟩ := hK m meth c ⟨T.setVm vm₁, locs, cells, slots⟩ { g with stack := rest } (.invokestatic index) mk argsL.toArray X₁ hg hsize hdg hW (X₁.named hnamed) (hpre vm₁ X₁.warmed)
  exact ⟨v, vm₁, B, X₁.warmed, X', hpost, fun target h => hstep₁ _ fun acts => by rw [doInvoke_state]; exact hsteps.trans h⟩
theorem vx_runSW {y : MethodName} {bytes cc : ByteArray} {maxL nL mc ms n index : Nat} {ret : Option FieldType} {hh : List (Nat × Nat × Nat × Nat)} {ws : List Cond} {rm : Room} {Pc : Array Value → State → Prop} {Qc : Array Value → State → Outcome → State → Prop} {free : Addr → Prop} {Ts : List Cond} {own : String} {As rest : List Value} {g : JFrame}
    (S : CallFix p m c cc nL s args Ts own) (hM : Met l y ws rm Pc Qc mc ms free) (cw : vx_CSW R s args own index y bytes maxL ret hh ws rm mc ms n) (hp : PreS s H Pc As)
    (hg : g.method = m) (hn : As.length = n) (hsize : g.locals.size = nL) (hstack : g.stack = As.reverse ++ rest) (hW : 2 * g.monitorRoom + (rest.map fun v => v.category).sum ≤ 8) (hdg : decode cc g.pc = .ok (.invokestatic index, 3)) (hf : cells + mc ≤ R.cells ∧ slots + ms ≤ R.slots) :
    va_Run p l e R s m args below meth c H locs cells slots mc ms g rest (Qc As.toArray) (free) := by
  obtain ⟨⟨hrc, hrs, hfr, hlo, hws, hcw⟩, hcode, hini, hy, hlen, hl, hstt⟩ := cw
  have hK : Back l R p e below s args y 3 8 (PreOf R mc ms Pc) (PostOf Qc mc ms free) := va_backW (hh := hh) (bytes := bytes) (maxL := maxL) (ret := ret) hM hp.1 hrc hrs hfr hlo hws hcw (fun a' U hW => word_at hW (Or.inl (by first | rfl | simp [Cond.onTables, Cond.keeps, Cond.steady])) hini)
  obtain ⟨hx, hb, hml, ho, -⟩ := S
  intro T hT X
  obtain ⟨v, vm₁, ⟨U', l2, c2, s2⟩, hW₁, X', ⟨g', mk, t, L, e1, e2, hq, h1, hL, h2, h3⟩, st⟩ := vx_callSW X hx (hh := hh) (bytes := bytes) (maxL := maxL) (ret := ret) ho hl hstt hini hcode hy hK hg (hsize.trans hml.symm) (argsL := As) (rest := rest) (fun sig h => hn.trans (hlen sig h)) hstack hW (by rw [hb]; exact hdg)
    (fun vm₁ hW₁ => ⟨hf.1, hf.2, hp.2 (T.setVm vm₁) hT hW₁⟩)
  dsimp only [Pt.U, Pt.locs, Pt.cells, Pt.slots] at X' e1 e2 h1 h2 h3 st
  subst h1; subst h2; subst h3
  exact ⟨v, (T.setVm vm₁).calling g' mk As.toArray, t, U', L, hT, X', hL, e1, e2, hq, st⟩
/-- not caught here, past rows that name other classes: it goes on to the caller -/
theorem vx_outP {p : Program} {l : Launch} {e : Env} {R : Room} {s : State} {m : MethodId} {args : Array Value} {below : List Frame} {meth : Method} {c : Code} {H : Heap} {locs : List Loc} {cells slots : Nat} {free : Addr → Prop} {ls : Array Slot} {rest : List Value} {Qc : Array Value → State → Outcome → State → Prop} {XC : String → State → State → Prop}
    {pc : Nat} {own E : String} {ce : Cell} {q : Addr} {mc ms : Nat} (hown : s.vm.findClass own = some m.cls) (hlocks : meth.locks = false)
    (hpass : ∀ z ∈ c.exceptionTable.toList, covers z pc = false ∨ (z.catchType ≠ 0 ∧ ∃ nm : String, (Cond.classLink own z.catchType nm).before args s = true ∧ va_Nc E nm s)) (hcell : H[q]? = some ce) (hv : ce.vm = .none) (hcl : s.vm.findClass E = some ce.cls)
    (hx : ∀ t : State, t.heap = H → s.vm.Alike t.vm → XC E s t) (hf : ∀ z ∈ locs, free z.base) (hc : cells ≤ mc) (hs : slots ≤ ms) :
    vx_W p l e R s m args below meth c H locs cells slots (vx_MQ below Qc XC args s mc ms free) (F0 m pc ls rest) q := by
  intro T hT X
  have hpl : e.platform.magicAccessors = ({} : Platform).magicAccessors := by rw [X.admits.platform]
  obtain ⟨vm', hW', X', st⟩ := X.outThrough hlocks q (g := F0 m pc ls rest) rfl rfl rfl (cell := ce) (by rw [hT]; exact hcell) (by rw [hv]; rfl)
    (by obtain ⟨k9, h9, -⟩ := Vm.findClass_spec hcl; exact ⟨k9, h9⟩) (fun z hz => by
      rcases hpass z hz with h | ⟨hz0, nm, hl1, hn1⟩
      · exact Or.inl h
      · obtain ⟨c6, hc6, hcl6⟩ := Cond.classLink_spec hown hl1 e.platform hpl
        obtain ⟨a8, b8, h1, h2, h3⟩ := hn1
        cases Option.some.inj (h1.symm.trans hcl)
        cases Option.some.inj (h2.symm.trans hc6)
        exact Or.inr ⟨hz0, _, hcl6, h3⟩)
  obtain ⟨g₀, hfr⟩ := X'.frames_eq
  have hcell9 : ((T.setVm vm').setFrames (.throwing q :: below)).heap[q]? = some ce := by
    show T.heap[q]? = some ce
    rw [hT]; exact hcell
  have hend : Ended ((T.setVm vm').setFrames (.throwing q :: below)) below (.threw q) := State.frames_setFrames _ (State.cur_lt_of_frames hfr)
  refine ⟨(T.setVm vm').setFrames (.throwing q :: below), ?_, .threw q, X'.here.running, hend, Or.inr ⟨q, rfl, E, ce, locs, hx _ hT (X'.ends _).1.alike, hcell9, hv, hcl, (X'.ends _).1, (X'.ends _).2.mono hc hs, hf⟩⟩
  rw [X.pushThrowing_eq]
  exact st
/-- a thing of a world lies in the heap -/
theorem vx_lt {D : va_G} {cl : List vw_C} {ws : va_W} {H1 : Heap} (h : va_P D cl ws H1) {k : Nat} {q : Nat × va_E} (hk : ws[k]? = some q) : q.1 < H1.size := (h k q hk).lt
end VXS
/-! ===== END ===== -/
/-! ===== BEGIN methods with a table of their own: called by a name, returning or throwing ===== -/
section VXH
/-! vx_backW, vx_callVX, vx_callSX, vx_callVW, vx_runVW, vx_runVX, vx_runSX, vx_ofWH follow the same proofs as their sisters above (Free/Laws.lean, Shelf42/LK1.lean); vx_outP calls Shelf42/NT130.lean (outThrough). -/
section
variable {l : Launch} {R : Room} {p : Program} {e : Env} {below : List Frame} {s : State} {sargs : Array Value} {y : MethodName} {len W9 : Nat}
theorem vx_backW {ws : List Cond} {rm : Room} {Pc : Array Value → State → Prop} {Qc : Array Value → State → Outcome → State → Prop} {XC : String → State → State → Prop} {mc ms : Nat} {free : Addr → Prop} {bytes : ByteArray} {maxL : Nat} {ret : Option FieldType} {hh : List (Nat × Nat × Nat × Nat)}
    (hM : vx_Met l y ws rm Pc Qc XC mc ms free) (hblind : FrameBlind Pc) (hrc : rm.cells = mc) (hrs : rm.slots = ms)
    (hframes : rm.frames + 1 ≤ R.frames) (hlocals : W9 + (maxL + 11) + rm.locals ≤ R.locals)
    (hws : ∀ w ∈ ws, ∀ a' U, s.WarmedH U.vm → w.before a' U = true) (hcode : Cond.codeWith y bytes maxL ret hh ∈ ws) (hinit : ∀ a' U, s.WarmedH U.vm → (Cond.initialized y.cls).before a' U = true) :
    vx_Back l R p e below s sargs y len W9 (PreOf R mc ms Pc) (PostOf Qc mc ms free) (vx_Post XC mc ms free) := by
  intro m meth c A g ig mk a X hg hsize hdg hW hn hp
  have h1 : (headSpec ws rm).pre.before a A.U = true := atoms_intro fun w hw => hws w hw _ _ X.warmed
  have h2 : (Cond.codeWith y bytes maxL ret hh).before a A.U = true := hws _ hcode _ _ X.warmed
  have h3 : (Cond.initialized y.cls).before a A.U = true := hinit _ _ X.warmed
  have h4 : A.cells + (headSpec ws rm).room.cells ≤ R.cells := by rw [show (headSpec ws rm).room.cells = mc from hrc]; exact hp.1
  have h5 : A.slots + (headSpec ws rm).room.slots ≤ R.slots := by rw [show (headSpec ws rm).room.slots = ms from hrs]; exact hp.2.1
  have hPc : Pc a (A.U.calling g mk a) := hblind _ _ _ _ hp.2.2
  obtain ⟨U, Ls, c0, s0⟩ := A
  dsimp only [Pt.U, Pt.locs, Pt.cells, Pt.slots] at h1 h2 h3 h4 h5 X hn hPc ⊢
  obtain ⟨m9, methY, cY, hn9, hmY, hcY, -, hlY, -⟩ := Cond.codeWith_spec h2
  cases Option.some.inj (hn9.symm.trans hn)
  obtain ⟨kY, hkY, -⟩ := className_of_methodNamed hn
  have hinitY : kY.init = .initialized := Cond.initialized_spec (findClass_of_methodNamed hn) hkY h3
  have h : At U g.method c below := by rw [hg]; exact X.here
  have hlocals9 : W9 + (maxL + 11) + (headSpec ws rm).room.locals ≤ R.locals := hlocals
  have happ : (headSpec ws rm).appliesLoose y e.platform (U.calling g mk a) = true :=
    Spec.appliesLoose_calling (g := g) h hdg hn hkY hinitY
      (X.room_calling (g := g) (R' := (headSpec ws rm).room) hsize hmY hcY hframes (by rw [hlY]; omega) h4 h5) h1
  obtain ⟨mid, hmid⟩ := h.above
  have hfr : (U.setTop g).frames = (.java g :: mid) ++ below := by rw [State.frames_setTop' g h.top, hmid]; rfl
  obtain ⟨o, s₂, hsteps, -, hend, hq⟩ := Steps.callFree hM p X.admits X.cas X.clock (acts := []) hfr happ hPc trivial
  have hq' : vx_Q Qc XC mc ms free a (U.calling g mk a) o s₂ := hq
  rw [State.frames_setTop' g h.top] at hend
  obtain ⟨g₀, hg0⟩ := Option.isSome_iff_exists.mp h.top
  obtain ⟨r, hr⟩ := State.topJava?_eq_some.mp hg0
  have hr' : (({ U with heap := s₂.heap, slotsUsed := s₂.slotsUsed } : State).setVm s₂.vm).frames = .java g₀ :: r := hr
  rcases hq' with ⟨hqc, L, hfe, hL⟩ | ⟨q, rfl, E, ce, L, hx, hce, hcv, hcl, hW₂, hsm, hL⟩
  · obtain ⟨⟨v, rfl⟩, hW₂, e2, q2, q3, q4, q5, q6⟩ := id hfe
    have e3 : s₂ = ({ (U.calling g mk a).setFrames s₂.frames with heap := s₂.heap, slotsUsed := s₂.slotsUsed } : State).setVm s₂.vm := by
      have : s₂ = ({ s₂ with vm := (U.calling g mk a).vm } : State).setVm s₂.vm := rfl
      rw [e2] at this
      exact this
    obtain ⟨c₂, i₂, len₂, hc₂, hd₂, hf₂⟩ := hend
    have hW' : U.WarmedH s₂.vm := hW₂
    have hcc : c₂ = c := by
      have h1 : s₂.code? g.method = U.code? g.method := by
        rw [State.code?_eq, State.code?_eq, hW'.alike.method?]
      exact Option.some.inj (hc₂.symm.trans (h1.trans h.code))
    subst hcc
    have hlen : len₂ = len := by rw [hdg] at hd₂; cases hd₂; rfl
    subst hlen
    have hs₂ : s₂ = (({ U with heap := s₂.heap, slotsUsed := s₂.slotsUsed } : State).setVm s₂.vm).setTop { g with pc := g.pc + len₂, stack := v.toList ++ g.stack } := by
      refine e3.trans ?_
      rw [hf₂, State.calling_eq h.top, State.setFrames_setFrames, State.setTop_of_frames _ hr', hr]
      rfl
    have hsame : U.sameButNew ({ U with heap := s₂.heap, slotsUsed := s₂.slotsUsed } : State) L mc ms := by
      refine ⟨?_, q2, q3, q4, q5, q6⟩
      obtain ⟨t, ht, -⟩ := State.frames_cons hr
      show ({ U with heap := s₂.heap, slotsUsed := s₂.slotsUsed } : State) = { U.setFrames U.frames with heap := s₂.heap, slotsUsed := s₂.slotsUsed }
      rw [State.setFrames_self ht]
    subst hg
    refine Or.inl ⟨v, ⟨(({ U with heap := s₂.heap, slotsUsed := s₂.slotsUsed } : State).setVm s₂.vm), Ls ++ L, c0 + mc, s0 + ms⟩,
      ⟨X.admits, X.cas, X.clock, X.frames, X.room, X.hears, X.method, X.code, (X.here.setHeapUsed s₂.heap s₂.slotsUsed).setVm hW'.alike, X.tail, State.WarmedH.trans X.warmed hW', X.limits, X.bytes, X.same.trans (hsame.setVm s.vm)⟩,
      ⟨g, mk, s₂, L, rfl, rfl, hqc, rfl, hL, rfl, rfl⟩, ?_⟩
    show Steps p.tables e below _ ((({ U with heap := s₂.heap, slotsUsed := s₂.slotsUsed } : State).setVm s₂.vm).setTop { g with pc := g.pc + len₂, stack := v.toList ++ g.stack })
    rw [← hs₂]
    exact hsteps
  · obtain ⟨e2, q2, q3, q4, q5, q6⟩ := id hsm
    have e3 : s₂ = ({ (U.calling g mk a).setFrames s₂.frames with heap := s₂.heap, slotsUsed := s₂.slotsUsed } : State).setVm s₂.vm := by
      have : s₂ = ({ s₂ with vm := (U.calling g mk a).vm } : State).setVm s₂.vm := rfl
      rw [e2] at this
      exact this
    have hf₂ : s₂.frames = .throwing q :: .java g :: U.frames.tail := hend
    have hW' : U.WarmedH s₂.vm := hW₂
    have hs₂ : s₂ = ((({ U with heap := s₂.heap, slotsUsed := s₂.slotsUsed } : State).setVm s₂.vm).setTop g).pushFrame (.throwing q) := by
      refine e3.trans ?_
      rw [hf₂, State.calling_eq h.top, State.setFrames_setFrames, State.pushFrame, State.frames_setTop _ hr', State.setTop_of_frames _ hr', State.setFrames_setFrames, hr]
      rfl
    have hsame : U.sameButNew ({ U with heap := s₂.heap, slotsUsed := s₂.slotsUsed } : State) L mc ms := by
      refine ⟨?_, q2, q3, q4, q5, q6⟩
      obtain ⟨t, ht, -⟩ := State.frames_cons hr
      show ({ U with heap := s₂.heap, slotsUsed := s₂.slotsUsed } : State) = { U.setFrames U.frames with heap := s₂.heap, slotsUsed := s₂.slotsUsed }
      rw [State.setFrames_self ht]
    subst hg
    refine Or.inr ⟨q, ⟨(({ U with heap := s₂.heap, slotsUsed := s₂.slotsUsed } : State).setVm s₂.vm), Ls ++ L, c0 + mc, s0 + ms⟩,
      ⟨X.admits, X.cas, X.clock, X.frames, X.room, X.hears, X.method, X.code, (X.here.setHeapUsed s₂.heap s₂.slotsUsed).setVm hW'.alike, X.tail, State.WarmedH.trans X.warmed hW', X.limits, X.bytes, X.same.trans (hsame.setVm s.vm)⟩,
      ⟨g, mk, s₂, L, E, ce, rfl, rfl, hx, hce, hcv, hcl, rfl, hL, rfl, rfl⟩, ?_⟩
    show Steps p.tables e below _ (((({ U with heap := s₂.heap, slotsUsed := s₂.slotsUsed } : State).setVm s₂.vm).setTop g).pushFrame (.throwing q))
    rw [← hs₂]
    exact hsteps
end
variable {p : Program} {l : Launch} {e : Env} {R : Room} {s : State} {m : MethodId} {args : Array Value} {below : List Frame} {meth : Method} {c : Code} {T : State} {H : Heap} {locs : List Loc} {cells slots : Nat}
theorem vx_callVX (X : Stand p l e R s m args below meth c T locs cells slots) (hexec : p.tables.exec = Jvm.exec) {own C : String} {index : Nat} {y : MethodName} {bytes : ByteArray} {maxL : Nat} {ret : Option FieldType} {hh : List (Nat × Nat × Nat × Nat)}
    (hown : s.vm.findClass own = some m.cls) (hlink : (Cond.methodLink own index y).before args s = true) (hinst : (Cond.instanceMethod y).before args s = true) (hsel : (Cond.selects C y y).before args s = true)
    (hcode : (Cond.codeWith y bytes maxL ret hh).before args s = true) (hy : y.cls ≠ "java/lang/invoke/MethodHandle" ∧ y.cls ≠ "java/lang/invoke/VarHandle")
    {W9 : Nat} {Pre : Pt → Array Value → Prop} {Post : Pt → Array Value → Option Value → Pt → Prop} {PostX : Pt → Array Value → Addr → Pt → Prop} (hK : vx_Back l R p e below s args y 3 W9 Pre Post PostX)
    {b : Addr} {cellB : Cell} (hcell : T.heap[b]? = some cellB) (hobj : cellB.vm.isStatics = false) (hcls : s.vm.findClass C = some cellB.cls)
    {g : JFrame} (hg : g.method = m) (hsize : g.locals.size = c.maxLocals) {argsL rest : List Value} (hlen : ∀ sig, parseMethodDescriptor y.desc = some sig → argsL.length = sig.parameters.length)
    (hstack : g.stack = argsL.reverse ++ .ref b :: rest) (hW : 2 * g.monitorRoom + (rest.map fun v => v.category).sum ≤ W9) (hdg : decode c.code g.pc = .ok (.invokevirtual index, 3))
    (hpre : ∀ vm₁, s.WarmedH vm₁ → Pre ⟨T.setVm vm₁, locs, cells, slots⟩ (Value.ref b :: argsL).toArray) :
    (∃ (v : Option Value) (vm₁ : Vm) (B : Pt), s.WarmedH vm₁ ∧ Stand p l e R s m args below meth c B.U B.locs B.cells B.slots ∧ Post ⟨T.setVm vm₁, locs, cells, slots⟩ (Value.ref b :: argsL).toArray v B ∧
      ∀ target, Steps p.tables e below (B.U.setTop { g with pc := g.pc + 3, stack := v.toList ++ rest }) target → Steps p.tables e below (T.setTop g) target) ∨
    (∃ (q : Addr) (vm₁ : Vm) (B : Pt), s.WarmedH vm₁ ∧ Stand p l e R s m args below meth c B.U B.locs B.cells B.slots ∧ PostX ⟨T.setVm vm₁, locs, cells, slots⟩ (Value.ref b :: argsL).toArray q B ∧
      Steps p.tables e below (T.setTop g) ((B.U.setTop { g with stack := rest }).pushFrame (.throwing q))) := by
  obtain ⟨mk, methM, hnamed, hmethM, hstM, habM⟩ := Cond.instanceMethod_spec hinst
  obtain ⟨m8, methM', cM, hn8, hmethM', -, -, -, -, -, -, hsigM⟩ := Cond.codeWith_spec hcode
  cases Option.some.inj (hn8.symm.trans hnamed)
  cases hmethM.symm.trans hmethM'
  obtain ⟨c2, r2, m2, q1, q2, q3, q4, kP, hkP, hkPi⟩ := Cond.selects_spec hsel
  cases hcls.symm.trans q1
  cases (State.methodFound?_of_named hnamed hy).symm.trans q2
  cases hnamed.symm.trans q3
  have hselP : selectMethod e.platform s.vm cellB.cls mk = .method mk := by rw [Launch.admits_selectMethod X.admits]; exact q4
  obtain ⟨vm₁, X₁, hstep₁⟩ := X.invokevirtual hexec hown hlink hnamed hmethM hstM hkP hkPi hy (a := b) (cell := cellB) hcell
    (fun z h => by rw [h] at hobj; cases hobj) hselP hmethM habM hkP hkPi (g := g) hg (argsL := argsL) (rest := rest) (hlen _ hsigM) hstack hdg
  rcases hK m meth c ⟨T.setVm vm₁, locs, cells, slots⟩ { g with stack := rest } (.invokevirtual index) mk (Value.ref b :: argsL).toArray X₁ hg hsize hdg hW (X₁.named hnamed) (hpre vm₁ X₁.warmed) with ⟨v, B, X', hpost, hsteps⟩ | ⟨q, B, X', hpost, hsteps⟩
  · exact Or.inl ⟨v, vm₁, B, X₁.warmed, X', hpost, fun target h => hstep₁ _ fun acts => by rw [doInvoke_state]; exact hsteps.trans h⟩
  · exact Or.inr ⟨q, vm₁, B, X₁.warmed, X', hpost, hstep₁ _ fun acts => by rw [doInvoke_state]; exact hsteps⟩
theorem vx_callSX (X : Stand p l e R s m args below meth c T locs cells slots) (hexec : p.tables.exec = Jvm.exec) {own : String} {index : Nat} {y : MethodName} {bytes : ByteArray} {maxL : Nat} {ret : Option FieldType} {hh : List (Nat × Nat × Nat × Nat)}
    (hown : s.vm.findClass own = some m.cls) (hlink : (Cond.methodLink own index y).before args s = true) (hstat : (Cond.static y).before args s = true) (hinit : (Cond.initialized y.cls).before args s = true)
    (hcode : (Cond.codeWith y bytes maxL ret hh).before args s = true) (hy : y.cls ≠ "java/lang/invoke/MethodHandle" ∧ y.cls ≠ "java/lang/invoke/VarHandle")
    {W9 : Nat} {Pre : Pt → Array Value → Prop} {Post : Pt → Array Value → Option Value → Pt → Prop} {PostX : Pt → Array Value → Addr → Pt → Prop} (hK : vx_Back l R p e below s args y 3 W9 Pre Post PostX)
    {g : JFrame} (hg : g.method = m) (hsize : g.locals.size = c.maxLocals) {argsL rest : List Value} (hlen : ∀ sig, parseMethodDescriptor y.desc = some sig → argsL.length = sig.parameters.length)
    (hstack : g.stack = argsL.reverse ++ rest) (hW : 2 * g.monitorRoom + (rest.map fun v => v.category).sum ≤ W9) (hdg : decode c.code g.pc = .ok (.invokestatic index, 3))
    (hpre : ∀ vm₁, s.WarmedH vm₁ → Pre ⟨T.setVm vm₁, locs, cells, slots⟩ argsL.toArray) :
    (∃ (v : Option Value) (vm₁ : Vm) (B : Pt), s.WarmedH vm₁ ∧ Stand p l e R s m args below meth c B.U B.locs B.cells B.slots ∧ Post ⟨T.setVm vm₁, locs, cells, slots⟩ argsL.toArray v B ∧
      ∀ target, Steps p.tables e below (B.U.setTop { g with pc := g.pc + 3, stack := v.toList ++ rest }) target → Steps p.tables e below (T.setTop g) target) ∨
    (∃ (q : Addr) (vm₁ : Vm) (B : Pt), s.WarmedH vm₁ ∧ Stand p l e R s m args below meth c B.U B.locs B.cells B.slots ∧ PostX ⟨T.setVm vm₁, locs, cells, slots⟩ argsL.toArray q B ∧
      Steps p.tables e below (T.setTop g) ((B.U.setTop { g with stack := rest }).pushFrame (.throwing q))) := by
  obtain ⟨mk, methM, cM, hnamed, hmethM, -, -, -, -, -, -, hsigM⟩ := Cond.codeWith_spec hcode
  have hstatic : methM.isStatic = true := Cond.static_spec hnamed hmethM hstat
  obtain ⟨kP, hkP, -⟩ := className_of_methodNamed hnamed
  have hinitP : kP.init = .initialized := Cond.initialized_spec (findClass_of_methodNamed hnamed) hkP hinit
  obtain ⟨vm₁, X₁, hstep₁⟩ := X.invokestatic hexec hown hlink hnamed hmethM hstatic hkP hinitP hy (g := g) hg (argsL := argsL) (rest := rest) (hlen _ hsigM) hstack hdg
  rcases hK m meth c ⟨T.setVm vm₁, locs, cells, slots⟩ { g with stack := rest } (.invokestatic index) mk argsL.toArray X₁ hg hsize hdg hW (X₁.named hnamed) (hpre vm₁ X₁.warmed) with ⟨v, B, X', hpost, hsteps⟩ | ⟨q, B, X', hpost, hsteps⟩
  · exact Or.inl ⟨v, vm₁, B, X₁.warmed, X', hpost, fun target h => hstep₁ _ fun acts => by rw [doInvoke_state]; exact hsteps.trans h⟩
  · exact Or.inr ⟨q, vm₁, B, X₁.warmed, X', hpost, hstep₁ _ fun acts => by rw [doInvoke_state]; exact hsteps⟩
theorem vx_callVW (X : Stand p l e R s m args below meth c T locs cells slots) (hexec : p.tables.exec = Jvm.exec) {own C : String} {index : Nat} {y : MethodName} {bytes : ByteArray} {maxL : Nat} {ret : Option FieldType} {hh : List (Nat × Nat × Nat × Nat)}
    (hown : s.vm.findClass own = some m.cls) (hlink : (Cond.methodLink own index y).before args s = true) (hinst : (Cond.instanceMethod y).before args s = true) (hsel : (Cond.selects C y y).before args s = true)
    (hcode : (Cond.codeWith y bytes maxL ret hh).before args s = true) (hy : y.cls ≠ "java/lang/invoke/MethodHandle" ∧ y.cls ≠ "java/lang/invoke/VarHandle")
    {W9 : Nat} {Pre : Pt → Array Value → Prop} {Post : Pt → Array Value → Option Value → Pt → Prop} (hK : Back l R p e below s args y 3 W9 Pre Post)
    {b : Addr} {cellB : Cell} (hcell : T.heap[b]? = some cellB) (hobj : cellB.vm.isStatics = false) (hcls : s.vm.findClass C = some cellB.cls)
    {g : JFrame} (hg : g.method = m) (hsize : g.locals.size = c.maxLocals) {argsL rest : List Value} (hlen : ∀ sig, parseMethodDescriptor y.desc = some sig → argsL.length = sig.parameters.length)
    (hstack : g.stack = argsL.reverse ++ .ref b :: rest) (hW : 2 * g.monitorRoom + (rest.map fun v => v.category).sum ≤ W9) (hdg : decode c.code g.pc = .ok (.invokevirtual index, 3))
    (hpre : ∀ vm₁, s.WarmedH vm₁ → Pre ⟨T.setVm vm₁, locs, cells, slots⟩ (Value.ref b :: argsL).toArray) :
    ∃ (v : Option Value) (vm₁ : Vm) (B : Pt), s.WarmedH vm₁ ∧ Stand p l e R s m args below meth c B.U B.locs B.cells B.slots ∧ Post ⟨T.setVm vm₁, locs, cells, slots⟩ (Value.ref b :: argsL).toArray v B ∧
      ∀ target, Steps p.tables e below (B.U.setTop { g with pc := g.pc + 3, stack := v.toList ++ rest }) target → Steps p.tables e below (T.setTop g) target := by
  obtain ⟨mk, methM, hnamed, hmethM, hstM, habM⟩ := Cond.instanceMethod_spec hinst
  obtain ⟨m8, methM', cM, hn8, hmethM', -, -, -, -, -, -, hsigM⟩ := Cond.codeWith_spec hcode
  cases Option.some.inj (hn8.symm.trans hnamed)
  cases hmethM.symm.trans hmethM'
  obtain ⟨c2, r2, m2, q1, q2, q3, q4, kP, hkP, hkPi⟩ := Cond.selects_spec hsel
  cases hcls.symm.trans q1
  cases (State.methodFound?_of_named hnamed hy).symm.trans q2
  cases hnamed.symm.trans q3
  have hselP : selectMethod e.platform s.vm cellB.cls mk = .method mk := by rw [Launch.admits_selectMethod X.admits]; exact q4
  obtain ⟨vm₁, X₁, hstep₁⟩ := X.invokevirtual hexec hown hlink hnamed hmethM hstM hkP hkPi hy (a := b) (cell := cellB) hcell
    (fun z h => by rw [h] at hobj; cases hobj) hselP hmethM habM hkP hkPi (g := g) hg (argsL := argsL) (rest := rest) (hlen _ hsigM) hstack hdg
  obtain ⟨v, B, X', hpost, hsteps⟩ := hK m meth c ⟨T.setVm vm₁, locs, cells, slots⟩ { g with stack := rest } (.invokevirtual index) mk (Value.ref b :: argsL).toArray X₁ hg hsize hdg hW (X₁.named hnamed) (hpre vm₁ X₁.warmed)
  exact ⟨v, vm₁, B, X₁.warmed, X', hpost, fun target h => hstep₁ _ fun acts => by rw [doInvoke_state]; exact hsteps.trans h⟩
abbrev vx_CVW (R : Room) (s : State) (args : Array Value) (own C : String) (index : Nat) (y : MethodName) (bytes : ByteArray) (maxL : Nat) (ret : Option FieldType) (hh : List (Nat × Nat × Nat × Nat)) (ws : List Cond) (rm : Room) (mc ms n : Nat) : Prop :=
  (rm.cells = mc ∧ rm.slots = ms ∧ rm.frames + 1 ≤ R.frames ∧ 8 + (maxL + 11) + rm.locals ≤ R.locals ∧ (∀ w ∈ ws, ∀ (a' : Array Value) (U : State), s.WarmedH U.vm → w.before a' U = true) ∧ Cond.codeWith y bytes maxL ret hh ∈ ws) ∧
  (Cond.codeWith y bytes maxL ret hh).before args s = true ∧ (Cond.initialized y.cls).before args s = true ∧ (y.cls ≠ "java/lang/invoke/MethodHandle" ∧ y.cls ≠ "java/lang/invoke/VarHandle") ∧
  (∀ sig, parseMethodDescriptor y.desc = some sig → n = sig.parameters.length) ∧ (Cond.methodLink own index y).before args s = true ∧ (Cond.instanceMethod y).before args s = true ∧ (Cond.selects C y y).before args s = true
theorem vx_cwVW {own C : String} {index maxL mc ms : Nat} {y : MethodName} {bytes : ByteArray} {ret : Option FieldType} {hh : List (Nat × Nat × Nat × Nat)} {Ts ws ws' : List Cond} {rm : Room} (n : Nat) (ht : ∀ w ∈ Ts, w.before args s = true) (hT : GoodIn Ts (wsV own index C y ws)) (hw : ws = Cond.codeWith y bytes maxL ret hh :: ws') (hrc : rm.cells = mc) (hrs : rm.slots = ms)
    (hd : y.cls = C ∧ y.cls ≠ "java/lang/invoke/MethodHandle" ∧ y.cls ≠ "java/lang/invoke/VarHandle" ∧ (parseMethodDescriptor y.desc).map (fun d => d.parameters.length) = some n) (hR : rm.frames + 1 ≤ R.frames ∧ 8 + (maxL + 11) + rm.locals ≤ R.locals) :
    vx_CVW R s args own C index y bytes maxL ret hh ws rm mc ms n := by
  obtain ⟨hC, hd⟩ := hd
  subst hC
  have ok : ∀ w ∈ wsV own index y.cls y ws, w.before args s = true := fun w h => ht w (hT w h).1
  have hG : GoodIn Ts ws := fun w h => hT w (by unfold wsV; exact List.mem_append_right _ h)
  have hc : Cond.codeWith y bytes maxL ret hh ∈ ws := by rw [hw]; exact List.mem_cons_self
  refine ⟨⟨hrc, hrs, hR.1, hR.2, pay_in ht hG, hc⟩, ht _ (hG _ hc).1, ok _ (by simp [wsV]), ⟨hd.1, hd.2.1⟩, fun sig h => ?_, ok _ (by simp [wsV]), ok _ (by simp [wsV]), ok _ (by simp [wsV])⟩
  have h2 := hd.2.2
  rw [h] at h2
  exact (Option.some.inj h2).symm
theorem vx_runVW {y : MethodName} {bytes cc : ByteArray} {maxL nL mc ms n index : Nat} {ret : Option FieldType} {hh : List (Nat × Nat × Nat × Nat)} {ws : List Cond} {rm : Room} {Pc : Array Value → State → Prop} {Qc : Array Value → State → Outcome → State → Prop} {free : Addr → Prop} {Ts : List Cond} {own C : String} {b : Addr} {As rest : List Value} {g : JFrame}
    (S : CallFix p m c cc nL s args Ts own) (hM : Met l y ws rm Pc Qc mc ms free) (cw : vx_CVW R s args own C index y bytes maxL ret hh ws rm mc ms n) (hp : PreV s H C b Pc As)
    (hg : g.method = m) (hn : As.length = n) (hsize : g.locals.size = nL) (hstack : g.stack = As.reverse ++ .ref b :: rest) (hW : 2 * g.monitorRoom + (rest.map fun v => v.category).sum ≤ 8) (hdg : decode cc g.pc = .ok (.invokevirtual index, 3)) (hf : cells + mc ≤ R.cells ∧ slots + ms ≤ R.slots) :
    va_Run p l e R s m args below meth c H locs cells slots mc ms g rest (Qc (Value.ref b :: As).toArray) free := by
  obtain ⟨⟨hrc, hrs, hfr, hlo, hws, hcw⟩, hcode, hini, hy, hlen, hl, hin, hse⟩ := cw
  have hK : Back l R p e below s args y 3 8 (PreOf R mc ms Pc) (PostOf Qc mc ms free) := va_backW (hh := hh) (bytes := bytes) (maxL := maxL) (ret := ret) hM hp.1 hrc hrs hfr hlo hws hcw (fun a' U hW => word_at hW (Or.inl (by first | rfl | simp [Cond.onTables, Cond.keeps, Cond.steady])) hini)
  obtain ⟨hx, hb, hml, ho, -⟩ := S
  obtain ⟨-, ⟨cellB, hcB, hoB, hclB⟩, hPc⟩ := hp
  intro T hT X
  obtain ⟨v, vm₁, ⟨U', l2, c2, s2⟩, hW₁, X', ⟨g', mk, t, L, e1, e2, hq, h1, hL, h2, h3⟩, st⟩ := vx_callVW X hx (C := C) (hh := hh) (bytes := bytes) (maxL := maxL) (ret := ret) ho hl hin hse hcode hy hK (by rw [hT]; exact hcB) hoB hclB hg (hsize.trans hml.symm) (argsL := As) (rest := rest) (fun sig h => hn.trans (hlen sig h)) hstack hW (by rw [hb]; exact hdg)
    (fun vm₁ hW₁ => ⟨hf.1, hf.2, hPc (T.setVm vm₁) hT hW₁⟩)
  dsimp only [Pt.U, Pt.locs, Pt.cells, Pt.slots] at X' e1 e2 h1 h2 h3 st
  subst h1; subst h2; subst h3
  exact ⟨v, (T.setVm vm₁).calling g' mk (Value.ref b :: As).toArray, t, U', L, hT, X', hL, e1, e2, hq, st⟩
section
variable {y : MethodName} {bytes cc : ByteArray} {maxL nL mc ms n index : Nat} {ret : Option FieldType} {ws : List Cond} {rm : Room} {Pc : Array Value → State → Prop} {Qc : Array Value → State → Outcome → State → Prop} {XC : String → State → State → Prop} {free : Addr → Prop} {Ts : List Cond} {own C : String} {b : Addr} {As rest : List Value} {g : JFrame}
theorem vx_runVX {hh : List (Nat × Nat × Nat × Nat)} (S : CallFix p m c cc nL s args Ts own) (hM : vx_Met l y ws rm Pc Qc XC mc ms free) (cw : vx_CVW R s args own C index y bytes maxL ret hh ws rm mc ms n) (hp : PreV s H C b Pc As)
    (hg : g.method = m) (hn : As.length = n) (hsize : g.locals.size = nL) (hstack : g.stack = As.reverse ++ .ref b :: rest) (hW : 2 * g.monitorRoom + (rest.map fun v => v.category).sum ≤ 8) (hdg : decode cc g.pc = .ok (.invokevirtual index, 3)) (hf : cells + mc ≤ R.cells ∧ slots + ms ≤ R.slots) :
    vx_Run p l e R s m args below meth c H locs cells slots mc ms g rest (Qc (Value.ref b :: As).toArray) XC free := by
  obtain ⟨⟨hrc, hrs, hfr, hlo, hws, hcw⟩, hcode, hini, hy, hlen, hl, hin, hse⟩ := cw
  have hK : vx_Back l R p e below s args y 3 8 (PreOf R mc ms Pc) (PostOf Qc mc ms free) (vx_Post XC mc ms free) := vx_backW (hh := hh) (bytes := bytes) (maxL := maxL) (ret := ret) hM hp.1 hrc hrs hfr hlo hws hcw (fun a' U hW => word_at hW (Or.inl (by first | rfl | simp [Cond.onTables, Cond.keeps, Cond.steady])) hini)
  obtain ⟨hx, hb, hml, ho, -⟩ := S
  obtain ⟨-, ⟨cellB, hcB, hoB, hclB⟩, hPc⟩ := hp
  intro T hT X
  rcases vx_callVX X hx (C := C) (hh := hh) (bytes := bytes) (maxL := maxL) (ret := ret) ho hl hin hse hcode hy hK (by rw [hT]; exact hcB) hoB hclB hg (hsize.trans hml.symm) (argsL := As) (rest := rest) (fun sig h => hn.trans (hlen sig h)) hstack hW (by rw [hb]; exact hdg)
    (fun vm₁ hW₁ => ⟨hf.1, hf.2, hPc (T.setVm vm₁) hT hW₁⟩) with ⟨v, vm₁, ⟨U', l2, c2, s2⟩, hW₁, X', ⟨g', mk, t, L, e1, e2, hq, h1, hL, h2, h3⟩, st⟩ | ⟨q, vm₁, ⟨U', l2, c2, s2⟩, hW₁, X', ⟨g', mk, t, L, E, ce, e1, e2, hq, hce, hcv, hcl, h1, hL, h2, h3⟩, st⟩
  · dsimp only [Pt.U, Pt.locs, Pt.cells, Pt.slots] at X' e1 e2 h1 h2 h3 st
    subst h1; subst h2; subst h3
    exact Or.inl ⟨v, (T.setVm vm₁).calling g' mk (Value.ref b :: As).toArray, t, U', L, hT, X', hL, e1, e2, hq, st⟩
  · dsimp only [Pt.U, Pt.locs, Pt.cells, Pt.slots] at X' e1 e2 h1 h2 h3 st hcl
    subst h1; subst h2; subst h3
    exact Or.inr ⟨q, (T.setVm vm₁).calling g' mk (Value.ref b :: As).toArray, t, U', L, E, ce, hT, X', hL, e1, e2, hq, hce, hcv, vx_cls hW₁ hcl, st⟩
theorem vx_runSX {hh : List (Nat × Nat × Nat × Nat)} (S : CallFix p m c cc nL s args Ts own) (hM : vx_Met l y ws rm Pc Qc XC mc ms free) (cw : vx_CSW R s args own index y bytes maxL ret hh ws rm mc ms n) (hp : PreS s H Pc As)
    (hg : g.method = m) (hn : As.length = n) (hsize : g.locals.size = nL) (hstack : g.stack = As.reverse ++ rest) (hW : 2 * g.monitorRoom + (rest.map fun v => v.category).sum ≤ 8) (hdg : decode cc g.pc = .ok (.invokestatic index, 3)) (hf : cells + mc ≤ R.cells ∧ slots + ms ≤ R.slots) :
    vx_Run p l e R s m args below meth c H locs cells slots mc ms g rest (Qc As.toArray) XC free := by
  obtain ⟨⟨hrc, hrs, hfr, hlo, hws, hcw⟩, hcode, hini, hy, hlen, hl, hstt⟩ := cw
  have hK : vx_Back l R p e below s args y 3 8 (PreOf R mc ms Pc) (PostOf Qc mc ms free) (vx_Post XC mc ms free) := vx_backW (hh := hh) (bytes := bytes) (maxL := maxL) (ret := ret) hM hp.1 hrc hrs hfr hlo hws hcw (fun a' U hW => word_at hW (Or.inl (by first | rfl | simp [Cond.onTables, Cond.keeps, Cond.steady])) hini)
  obtain ⟨hx, hb, hml, ho, -⟩ := S
  intro T hT X
  rcases vx_callSX X hx (hh := hh) (bytes := bytes) (maxL := maxL) (ret := ret) ho hl hstt hini hcode hy hK hg (hsize.trans hml.symm) (argsL := As) (rest := rest) (fun sig h => hn.trans (hlen sig h)) hstack hW (by rw [hb]; exact hdg)
    (fun vm₁ hW₁ => ⟨hf.1, hf.2, hp.2 (T.setVm vm₁) hT hW₁⟩) with ⟨v, vm₁, ⟨U', l2, c2, s2⟩, hW₁, X', ⟨g', mk, t, L, e1, e2, hq, h1, hL, h2, h3⟩, st⟩ | ⟨q, vm₁, ⟨U', l2, c2, s2⟩, hW₁, X', ⟨g', mk, t, L, E, ce, e1, e2, hq, hce, hcv, hcl, h1, hL, h2, h3⟩, st⟩
  · dsimp only [Pt.U, Pt.locs, Pt.cells, Pt.slots] at X' e1 e2 h1 h2 h3 st
    subst h1; subst h2; subst h3
    exact Or.inl ⟨v, (T.setVm vm₁).calling g' mk As.toArray, t, U', L, hT, X', hL, e1, e2, hq, st⟩
  · dsimp only [Pt.U, Pt.locs, Pt.cells, Pt.slots] at X' e1 e2 h1 h2 h3 st hcl
    subst h1; subst h2; subst h3
    exact Or.inr ⟨q, (T.setVm vm₁).calling g' mk As.toArray, t, U', L, E, ce, hT, X', hL, e1, e2, hq, hce, hcv, vx_cls hW₁ hcl, st⟩
end
end VXH
theorem vx_ofWH {l : Launch} {y : MethodName} {ws ws' : List Cond} {rm : Room} {Pc : Array Value → State → Prop} {Qc : Array Value → State → Outcome → State → Prop} {XC : String → State → State → Prop} {mc ms : Nat} {free : Addr → Prop} {cc : ByteArray} {maxL : Nat} {ret : Option FieldType} {hh : List (Nat × Nat × Nat × Nat)}
    (hy : plainName y.cls = true) (hw : ws = Cond.codeWith y cc maxL ret hh :: ws')
    (body : ∀ p e s m args below meth c s₁, BodyLoose p l y (headSpec ws rm) cc maxL ret e s m args below meth c s₁ → c.maxLocals = maxL → Pc args s →
      W p l e (headSpec ws rm).room s m args below meth c s.heap [] 0 0 (vx_MQ below Qc XC args s mc ms free) (entryFrame m args maxL)) : vx_Met l y ws rm Pc Qc XC mc ms free := by
  refine MetFree.of_bodyS (code := cc) (maxLocals := maxL) (ret := ret) hy ?_ ?_
  · intro args s m h hn
    obtain ⟨m9, meth, c, hn9, h1, h2, h3, h4, -, h5, h6, -⟩ := Cond.codeWith_spec (atoms_spec (ws := ws) h _ (by rw [hw]; exact List.mem_cons_self))
    cases hn.symm.trans hn9
    exact ⟨meth, c, h1, h2, h3, h4, h5, h6⟩
  · intro p e s m args below meth c s₁ B hml hP _
    have hh0 : s₁.heap = s.heap := by rw [B.state]; rfl
    obtain ⟨t, a1, o, b1, b2, b3⟩ := body p e s m args below meth c s₁ B hml hP s₁ hh0 (Stand.of_body B)
    exact ⟨t, o, a1, b1, b2, b3⟩
/-! ===== END ===== -/
end
section
/-! NAMES: classes, fields, words -/
def N_X : String := "OrderRows3"
def T_X : u_T := fun k => match k with
  | 0 => ("OrderRows3", "orders", "Ljava/util/ArrayList;", true)
  | _ => ("OrderRows3", "lines", "Ljava/util/ArrayList;", true)
def t_X : Nat → FieldType := fun k => match k with
  | 0 => .object "java/util/ArrayList"
  | _ => .object "java/util/ArrayList"
def N_O : String := "OrderRows3$Order"
def T_O : u_T := fun k => match k with
  | 0 => ("OrderRows3$Order", "index", "I", true)
  | 1 => ("OrderRows3$Order", "customer", "I", true)
  | 2 => ("OrderRows3$Order", "ownNumber", "I", true)
  | 3 => ("OrderRows3$Order", "rank", "I", true)
  | 4 => ("OrderRows3$Order", "lines", "Ljava/util/ArrayList;", true)
  | 5 => ("OrderRows3$Order", "day", "I", false)
  | 6 => ("OrderRows3$Order", "phase", "I", false)
  | 7 => ("OrderRows3$Order", "blockers", "I", false)
  | 8 => ("OrderRows3$Order", "version", "I", false)
  | _ => ("OrderRows3$Order", "mergedInto", "I", false)
def t_O : Nat → FieldType := fun k => match k with
  | 0 => .int
  | 1 => .int
  | 2 => .int
  | 3 => .int
  | 4 => .object "java/util/ArrayList"
  | 5 => .int
  | 6 => .int
  | 7 => .int
  | 8 => .int
  | _ => .int
def N_L : String := "OrderRows3$Line"
def T_L : u_T := fun k => match k with
  | 0 => ("OrderRows3$Line", "index", "I", true)
  | 1 => ("OrderRows3$Line", "good", "I", true)
  | 2 => ("OrderRows3$Line", "home", "LOrderRows3$Order;", false)
  | 3 => ("OrderRows3$Line", "wanted", "I", false)
  | 4 => ("OrderRows3$Line", "rules", "I", false)
  | 5 => ("OrderRows3$Line", "held", "I", false)
  | 6 => ("OrderRows3$Line", "picked", "I", false)
  | 7 => ("OrderRows3$Line", "shipped", "I", false)
  | 8 => ("OrderRows3$Line", "instead", "I", false)
  | 9 => ("OrderRows3$Line", "live", "Z", false)
  | _ => ("OrderRows3$Line", "backordered", "Z", false)
def t_L : Nat → FieldType := fun k => match k with
  | 0 => .int
  | 1 => .int
  | 2 => .object "OrderRows3$Order"
  | 3 => .int
  | 4 => .int
  | 5 => .int
  | 6 => .int
  | 7 => .int
  | 8 => .int
  | 9 => .boolean
  | _ => .boolean
def N_A : String := "java/util/ArrayList"
def T_A : u_T := fun k => match k with
  | 0 => ("java/util/ArrayList", "elementData", "[Ljava/lang/Object;", false)
  | 1 => ("java/util/ArrayList", "size", "I", false)
  | _ => ("java/util/AbstractList", "modCount", "I", false)
def t_A : Nat → FieldType := fun k => match k with
  | 0 => .array (.object "java/lang/Object")
  | 1 => .int
  | _ => .int
def N_R : String := "OrderRows3Model"
def T_R : u_T := fun k => match k with
  | 0 => ("OrderRows3Model", "code", "I", false)
  | 1 => ("OrderRows3Model", "orders", "I", false)
  | 2 => ("OrderRows3Model", "customer", "[I", true)
  | 3 => ("OrderRows3Model", "number", "[I", true)
  | 4 => ("OrderRows3Model", "rank", "[I", true)
  | 5 => ("OrderRows3Model", "day", "[I", true)
  | 6 => ("OrderRows3Model", "phase", "[I", true)
  | 7 => ("OrderRows3Model", "blocks", "[I", true)
  | 8 => ("OrderRows3Model", "version", "[I", true)
  | 9 => ("OrderRows3Model", "into", "[I", true)
  | 10 => ("OrderRows3Model", "size", "[I", true)
  | 11 => ("OrderRows3Model", "linesOf", "[I", true)
  | 12 => ("OrderRows3Model", "lines", "I", false)
  | 13 => ("OrderRows3Model", "orderOf", "[I", true)
  | 14 => ("OrderRows3Model", "good", "[I", true)
  | 15 => ("OrderRows3Model", "instead", "[I", true)
  | 16 => ("OrderRows3Model", "rules", "[I", true)
  | 17 => ("OrderRows3Model", "wanted", "[I", true)
  | 18 => ("OrderRows3Model", "held", "[I", true)
  | 19 => ("OrderRows3Model", "picked", "[I", true)
  | 20 => ("OrderRows3Model", "shipped", "[I", true)
  | 21 => ("OrderRows3Model", "live", "[Z", true)
  | _ => ("OrderRows3Model", "again", "[Z", true)
def t_R : Nat → FieldType := fun k => match k with
  | 0 => .int
  | 1 => .int
  | 2 => .array .int
  | 3 => .array .int
  | 4 => .array .int
  | 5 => .array .int
  | 6 => .array .int
  | 7 => .array .int
  | 8 => .array .int
  | 9 => .array .int
  | 10 => .array .int
  | 11 => .array .int
  | 12 => .int
  | 13 => .array .int
  | 14 => .array .int
  | 15 => .array .int
  | 16 => .array .int
  | 17 => .array .int
  | 18 => .array .int
  | 19 => .array .int
  | 20 => .array .int
  | 21 => .array .boolean
  | _ => .array .boolean
def ev_cl : List vw_C := [(N_X, T_X, 2), (N_O, T_O, 10), (N_L, T_L, 11), (N_A, T_A, 3), (N_R, T_R, 23)]
theorem ev_cl_len : ev_cl.length < 100 := by decide
def ev_TB : List Cond := lw_tbl.filter goodWord
theorem ev_good : GoodIn ev_TB ev_TB := fun w hw => ⟨hw, good_of_word (List.mem_filter.mp hw).2⟩
theorem ev_tb {w : Cond} (i : Nat) (h : tables_1[i]? = some w) (g : goodWord w = true) : w ∈ ev_TB := List.mem_filter.mpr ⟨List.mem_append_right _ (List.mem_of_getElem? h), g⟩
theorem ev_tp {w : Cond} (i : Nat) (h : (k2_sels lw_privs)[i]? = some w) (g : goodWord w = true) : w ∈ ev_TB := List.mem_filter.mpr ⟨List.mem_append_left _ (List.mem_of_getElem? h), g⟩
def ev_strs : List (String × Nat × String) := [("OrderRows3", 208, "a number outside its range"), ("OrderRows3", 219, "no room"), ("OrderRows3", 203, "no such order"), ("OrderRows3", 214, "not as it is now"), ("OrderRows3", 206, "no such line"), ("OrderRows3", 210, "a place below 0"), ("OrderRows3", 184, "an order tells 0 to 9")]
def ev_casts : List (String × String) := [("java/lang/IllegalArgumentException", "java/lang/IllegalArgumentException"), ("java/lang/UnsupportedOperationException", "java/lang/UnsupportedOperationException"), ("java/util/NoSuchElementException", "java/util/NoSuchElementException"), ("java/lang/IllegalStateException", "java/lang/IllegalStateException"), ("OrderRows3$Line", "OrderRows3$Line"), ("OrderRows3$Order", "OrderRows3$Order"), ("OrderRows3", "java/lang/Object"), ("OrderRows3Model", "java/lang/Object"), ("OrderRows3$Order", "java/lang/Object"), ("OrderRows3$Line", "java/lang/Object"), ("java/lang/String", "java/lang/Object")]
def ev_decls : List MethodName := [⟨"java/lang/RuntimeException", "<init>", "()V"⟩, ⟨"java/lang/RuntimeException", "<init>", "(Ljava/lang/String;)V"⟩, ⟨"java/lang/Exception", "<init>", "()V"⟩, ⟨"java/lang/Exception", "<init>", "(Ljava/lang/String;)V"⟩, ⟨"java/lang/Throwable", "<init>", "()V"⟩, ⟨"java/lang/Throwable", "<init>", "(Ljava/lang/String;)V"⟩, ⟨"java/lang/Object", "getClass", "()Ljava/lang/Class;"⟩]
def ev_nocasts : List (String × String) := [("OrderRows3", "java/lang/IllegalArgumentException"), ("OrderRows3", "java/lang/IllegalStateException"), ("OrderRows3", "java/lang/UnsupportedOperationException"), ("OrderRows3", "java/util/NoSuchElementException"), ("OrderRows3$Line", "java/lang/IllegalArgumentException"), ("OrderRows3$Line", "java/lang/IllegalStateException"), ("OrderRows3$Line", "java/lang/UnsupportedOperationException"), ("OrderRows3$Line", "java/util/NoSuchElementException"), ("OrderRows3$Order", "java/lang/IllegalArgumentException"), ("OrderRows3$Order", "java/lang/IllegalStateException"), ("OrderRows3$Order", "java/lang/UnsupportedOperationException"), ("OrderRows3$Order", "java/util/NoSuchElementException"), ("OrderRows3Model", "java/lang/IllegalArgumentException"), ("OrderRows3Model", "java/lang/IllegalStateException"), ("OrderRows3Model", "java/lang/UnsupportedOperationException"), ("OrderRows3Model", "java/util/NoSuchElementException"), ("java/lang/IllegalArgumentException", "java/lang/IllegalStateException"), ("java/lang/IllegalArgumentException", "java/lang/UnsupportedOperationException"), ("java/lang/IllegalArgumentException", "java/util/NoSuchElementException"), ("java/lang/IllegalStateException", "java/lang/IllegalArgumentException"), ("java/lang/IllegalStateException", "java/lang/UnsupportedOperationException"), ("java/lang/IllegalStateException", "java/util/NoSuchElementException"), ("java/lang/UnsupportedOperationException", "java/lang/IllegalArgumentException"), ("java/lang/UnsupportedOperationException", "java/lang/IllegalStateException"), ("java/lang/UnsupportedOperationException", "java/util/NoSuchElementException"), ("java/util/ArrayList", "java/lang/IllegalArgumentException"), ("java/util/ArrayList", "java/lang/IllegalStateException"), ("java/util/ArrayList", "java/lang/UnsupportedOperationException"), ("java/util/ArrayList", "java/util/NoSuchElementException"), ("java/util/NoSuchElementException", "java/lang/IllegalArgumentException"), ("java/util/NoSuchElementException", "java/lang/IllegalStateException"), ("java/util/NoSuchElementException", "java/lang/UnsupportedOperationException")]
end
section
/-! CORE: one heap of the mind for all methods. A cell is (kind, contents); kinds below 100 are places in ev_cl, 100 + j is an array of the type ev_ty j. -/
abbrev ev_Cel : Type := Nat × List Value
abbrev ev_AH : Type := Nat → Option ev_Cel
/-- where the law's own cells begin; class numbers; slots; array classes; the empty list's array; the mirror of Object[]; the script: cell, length, ints -/
abbrev ev_G : Type := Nat × (Nat → ClassId) × (Nat → Nat → Nat) × (Nat → ClassId) × Nat × Nat × Nat × Nat × (Nat → Int32)
def g_B (G : ev_G) : Nat := G.1
abbrev g_D (G : ev_G) : va_G := (G.2.1, G.2.2.1)
def g_A (G : ev_G) : Nat → Prop := fun q => g_B G ≤ q
def g_dA (G : ev_G) : Nat → ClassId := G.2.2.2.1
def g_t0 (G : ev_G) : Nat := G.2.2.2.2.1
def g_mi (G : ev_G) : Nat := G.2.2.2.2.2.1
def g_sb (G : ev_G) : Nat := G.2.2.2.2.2.2.1
def g_sL (G : ev_G) : Nat := G.2.2.2.2.2.2.2.1
def g_xs (G : ev_G) : Nat → Int32 := G.2.2.2.2.2.2.2.2
def g_tys (G : ev_G) : List (ClassId × FieldType) := [(g_dA G 0, .int), (g_dA G 1, .boolean), (g_dA G 2, .long), (g_dA G 3, .object "java/lang/Object")]
def ev_at (G : ev_G) (a : Nat) (c : ev_Cel) (H : Heap) : Prop :=
  (∃ r : vw_C, ev_cl[c.1]? = some r ∧ c.2.length = r.2.2 ∧ t_OB a (G.2.1 c.1) r.2.2 (G.2.2.1 c.1) H (vp_V c.2)) ∨
  (∃ j : Nat, j < 4 ∧ c.1 = 100 + j ∧ H[a]? = some (arrV (g_dA G j) c.2.length (vp_V c.2)))
theorem ev_at.kept {G : ev_G} {a : Nat} {c : ev_Cel} {H H1 : Heap} (h : ev_at G a c H) (hq : H1[a]? = H[a]?) : ev_at G a c H1 := by
  rcases h with ⟨r, h1, h2, h3⟩ | ⟨j, h1, h2, h3⟩
  · exact Or.inl ⟨r, h1, h2, h3.kept hq⟩
  · exact Or.inr ⟨j, h1, h2, hq.trans h3⟩
theorem ev_at.lt {G : ev_G} {a : Nat} {c : ev_Cel} {H : Heap} (h : ev_at G a c H) : a < H.size := by
  rcases h with ⟨r, h1, h2, cell, h3, -⟩ | ⟨j, h1, h2, h3⟩
  · exact (Array.getElem?_eq_some_iff.mp h3).1
  · exact (Array.getElem?_eq_some_iff.mp h3).1
def ev_H (G : ev_G) (h : ev_AH) (H : Heap) : Prop := ∀ (a : Nat) (c : ev_Cel), h a = some c → g_B G ≤ a ∧ ev_at G a c H
def ev_up (h : ev_AH) (a : Nat) (c : ev_Cel) : ev_AH := fun b => if b = a then some c else h b
theorem ev_H.up {G : ev_G} {h : ev_AH} {H H1 : Heap} {a : Nat} {c : ev_Cel} (hH : ev_H G h H) (hB : g_B G ≤ a) (he : ev_at G a c H1) (oq : ∀ q : Nat, q ≠ a → H1[q]? = H[q]?) : ev_H G (ev_up h a c) H1 := by
  intro b d hb
  unfold ev_up at hb
  by_cases e : b = a
  · rw [if_pos e] at hb
    cases hb
    subst e
    exact ⟨hB, he⟩
  · rw [if_neg e] at hb
    exact ⟨(hH b d hb).1, (hH b d hb).2.kept (oq b e)⟩
theorem ev_H.fresh {G : ev_G} {h : ev_AH} {H : Heap} (hH : ev_H G h H) {q : Nat} (hq : H.size ≤ q) : h q = none := by
  cases e : h q with
  | none => rfl
  | some c => exact absurd (hH q c e).2.lt (by omega)
theorem ev_H.new {G : ev_G} {h : ev_AH} {H H1 : Heap} {c : ev_Cel} (hH : ev_H G h H) (hB : g_B G ≤ H.size) (he : ev_at G H.size c H1) (o1 : ∀ q : Nat, q < H.size → H1[q]? = H[q]?) : ev_H G (ev_up h H.size c) H1 := by
  intro b d hb
  unfold ev_up at hb
  by_cases e : b = H.size
  · rw [if_pos e] at hb
    cases hb
    subst e
    exact ⟨hB, he⟩
  · rw [if_neg e] at hb
    exact ⟨(hH b d hb).1, (hH b d hb).2.kept (o1 b (hH b d hb).2.lt)⟩
theorem ev_H.keep {G : ev_G} {h : ev_AH} {H H1 : Heap} (hH : ev_H G h H) (o1 : ∀ q : Nat, q < H.size → H1[q]? = H[q]?) : ev_H G h H1 :=
  fun b d hb => ⟨(hH b d hb).1, (hH b d hb).2.kept (o1 b (hH b d hb).2.lt)⟩
/-- what a cell of the kind ci holds at its place k -/
def ev_f (h : ev_AH) (a ci k : Nat) : Option Value := match h a with
  | some c => if c.1 = ci then c.2[k]? else none
  | none => none
/-- how many places a cell of the kind ci has -/
def ev_n (h : ev_AH) (a ci : Nat) : Option Nat := match h a with
  | some c => if c.1 = ci then some c.2.length else none
  | none => none
/-- a place of a cell written -/
def ev_s (h : ev_AH) (a k : Nat) (v : Value) : ev_AH := fun b => if b = a then (h a).map (fun c => (c.1, c.2.set k v)) else h b
theorem ev_f_of {h : ev_AH} {a ci k : Nat} {v : Value} (e : ev_f h a ci k = some v) : ∃ fs : List Value, h a = some (ci, fs) ∧ fs[k]? = some v := by
  unfold ev_f at e
  cases q : h a with
  | none => rw [q] at e; cases e
  | some c =>
    rw [q] at e
    by_cases z : c.1 = ci
    · simp only [z, if_true] at e
      exact ⟨c.2, by rw [← z], e⟩
    · simp only [z, if_false] at e
      cases e
theorem ev_n_of {h : ev_AH} {a ci n : Nat} (e : ev_n h a ci = some n) : ∃ fs : List Value, h a = some (ci, fs) ∧ fs.length = n := by
  unfold ev_n at e
  cases q : h a with
  | none => rw [q] at e; cases e
  | some c =>
    rw [q] at e
    by_cases z : c.1 = ci
    · simp only [z, if_true, Option.some.injEq] at e
      exact ⟨c.2, by rw [← z], e⟩
    · simp only [z, if_false] at e
      cases e
theorem ev_s_eq {h : ev_AH} {a ci k : Nat} {fs : List Value} {v : Value} (e : h a = some (ci, fs)) : ev_s h a k v = ev_up h a (ci, fs.set k v) := by
  funext b
  unfold ev_s ev_up
  by_cases z : b = a
  · rw [if_pos z, if_pos z, e]; rfl
  · rw [if_neg z, if_neg z]
/-! reading behind writing -/
theorem ev_f_s {h : ev_AH} {a b ci k j : Nat} {v w : Value} (e : ev_f h a ci k = some w) : ev_f (ev_s h a k v) b ci j = if b = a ∧ j = k then some v else ev_f h b ci j := by
  obtain ⟨fs, h1, h2⟩ := ev_f_of e
  by_cases z : b = a
  · subst z
    unfold ev_f ev_s
    rw [if_pos rfl, h1]
    have hl : k < fs.length := (List.getElem?_eq_some_iff.mp h2).1
    by_cases y : j = k
    · subst y
      simp [hl]
    · simp [y, Ne.symm y]
  · unfold ev_f ev_s
    rw [if_neg z, if_neg (fun q => z q.1)]
theorem ev_f_so {h : ev_AH} {a b ci cj k j : Nat} {v w : Value} (e : ev_f h a ci k = some w) (hc : cj ≠ ci) : ev_f (ev_s h a k v) b cj j = ev_f h b cj j := by
  obtain ⟨fs, h1, h2⟩ := ev_f_of e
  by_cases z : b = a
  · subst z
    unfold ev_f ev_s
    rw [if_pos rfl, h1]
    simp [Ne.symm hc]
  · unfold ev_f ev_s
    rw [if_neg z]
theorem ev_n_s {h : ev_AH} {a b cj k : Nat} {v : Value} : ev_n (ev_s h a k v) b cj = ev_n h b cj := by
  unfold ev_n ev_s
  by_cases z : b = a
  · subst z
    rw [if_pos rfl]
    cases h b with
    | none => rfl
    | some c => simp
  · rw [if_neg z]
theorem ev_f_up {h : ev_AH} {a b ci j : Nat} {c : ev_Cel} (hb : b ≠ a) : ev_f (ev_up h a c) b ci j = ev_f h b ci j := by
  unfold ev_f ev_up
  rw [if_neg hb]
theorem ev_f_upn {h : ev_AH} {a b ci j : Nat} {c : ev_Cel} {v : Value} (hn : h a = none) (e : ev_f h b ci j = some v) : ev_f (ev_up h a c) b ci j = some v := by
  have hb : b ≠ a := fun z => by
    subst z
    unfold ev_f at e
    rw [hn] at e
    cases e
  rw [ev_f_up hb]
  exact e
theorem ev_f_new {h : ev_AH} {a ci j : Nat} {fs : List Value} : ev_f (ev_up h a (ci, fs)) a ci j = fs[j]? := by
  unfold ev_f ev_up
  rw [if_pos rfl]
  simp
/-! the start's own things: statics, strings, the script -/
def ev_Low (G : ev_G) (U : State) (H : Heap) : Prop :=
  va_Z "java/util/ArrayList" "DEFAULTCAPACITY_EMPTY_ELEMENTDATA" "[Ljava/lang/Object;" (.ref (g_t0 G)) (g_A G) U H ∧
  va_T (.object "java/lang/Object") (g_t0 G) 0 (fun _ => .null) (g_A G) U H ∧
  vx_Zq Bundle.tN "UNASSIGNED_STACK" Bundle.steD (g_A G) U H ∧ vx_Zq Bundle.tN "SUPPRESSED_SENTINEL" Bundle.listD (g_A G) U H ∧
  (∀ q ∈ ev_strs, ∃ a : Nat, vk_R q.1 q.2.1 q.2.2 a U) ∧ va_Mi "[Ljava/lang/Object;" (g_mi G) U ∧ va_X (g_sb G) (g_sL G) (g_xs G) U H ∧ g_sb G < g_B G ∧ g_t0 G < g_B G ∧
  (∀ q ∈ ev_casts, va_Nw (.castable q.1 q.2) U) ∧ (∀ q ∈ ev_nocasts, va_Nc q.1 q.2 U) ∧ va_AO "java/lang/Object" U ∧ va_Dc U ∧ (∀ x ∈ ev_decls, va_Nw (.declares x) U)
end
section
/-! EV: a method's walk over the heap of the mind -/
/-- a method: name, bytes, locals, answer; frames, locals' words, cells, slots; its table -/
abbrev ev_M : Type := MethodName × ByteArray × Nat × Option FieldType × (Nat × Nat × Nat × Nat) × List (Nat × Nat × Nat × Nat)
def m_y (M : ev_M) : MethodName := M.1
def m_cc (M : ev_M) : ByteArray := M.2.1
def m_nL (M : ev_M) : Nat := M.2.2.1
def m_rt (M : ev_M) : Option FieldType := M.2.2.2.1
def m_mc (M : ev_M) : Nat := M.2.2.2.2.1.2.2.1
def m_ms (M : ev_M) : Nat := M.2.2.2.2.1.2.2.2
def m_rm (M : ev_M) : Room := { frames := M.2.2.2.2.1.1, cells := m_mc M, slots := m_ms M, locals := M.2.2.2.2.1.2.1 }
def m_ht (M : ev_M) : List (Nat × Nat × Nat × Nat) := M.2.2.2.2.2
def ev_C (l : Launch) (G : ev_G) (M : ev_M) (p : Program) (s : State) (m : MethodId) (args : Array Value) (meth : Method) (c : Code) : Prop :=
  p.tables.exec = Jvm.exec ∧ c.code = m_cc M ∧ c.maxLocals = m_nL M ∧ s.vm.findClass (m_y M).cls = some m.cls ∧ (∀ w ∈ ev_TB, w.before args s = true) ∧ meth.sig.returnType = m_rt M ∧ meth.locks = false ∧ meth.name = (m_y M).name ∧
  c.exceptionTable.toList = tableOf (m_ht M) ∧ l.stackTraces = false ∧ va_K (g_D G) ev_cl (g_tys G) s ∧ g_B G ≤ s.heap.size ∧ ev_Low G s s.heap
abbrev ev_Fin : Type := List Frame → Array Value → State → State → Prop
def Ev (l : Launch) (G : ev_G) (M : ev_M) (pc : Nat) (ls : List (Nat × Value)) (st : List Value) (h : ev_AH) (uc us : Nat) (Q : ev_Fin) : Prop :=
  ∀ (p : Program) (e : Env) (s : State) (m : MethodId) (args : Array Value) (below : List Frame) (meth : Method) (c : Code) (H : Heap) (locs : List Loc) (cells slots : Nat) (lsA : Array Slot),
    ev_C l G M p s m args meth c → ev_H G h H → va_S (g_A G) s.heap H locs → lv_has lsA (m_nL M) ls → cells + uc ≤ m_mc M → slots + us ≤ m_ms M →
    W p l e (m_rm M) s m args below meth c H locs cells slots (Q below args s) (F0 m pc lsA st)
/-- thrown over the frame at pc: an object of the class E -/
def EvX (l : Launch) (G : ev_G) (M : ev_M) (pc : Nat) (ls : List (Nat × Value)) (h : ev_AH) (uc us : Nat) (Q : ev_Fin) (E : String) : Prop :=
  ∀ (p : Program) (e : Env) (s : State) (m : MethodId) (args : Array Value) (below : List Frame) (meth : Method) (c : Code) (H : Heap) (locs : List Loc) (cells slots : Nat) (lsA : Array Slot) (st : List Value) (q : Addr) (ce : Cell),
    ev_C l G M p s m args meth c → ev_H G h H → va_S (g_A G) s.heap H locs → lv_has lsA (m_nL M) ls → cells + uc ≤ m_mc M → slots + us ≤ m_ms M → H[q]? = some ce → ce.vm = .none → s.vm.findClass E = some ce.cls →
    vx_W p l e (m_rm M) s m args below meth c H locs cells slots (Q below args s) (F0 m pc lsA st) q
/-- a method's end: an answer, or the name of what is thrown; the heap then -/
abbrev ev_Post : Type := Option Value ⊕ String → ev_AH → Prop
def ev_Qc (G : ev_G) (P : ev_Post) : Array Value → State → Outcome → State → Prop := fun _ st o t => ∃ (v : Option Value) (h : ev_AH), o = .returned v ∧ P (.inl v) h ∧ ev_H G h t.heap ∧ va_F (g_A G) st t
def ev_XC (G : ev_G) (P : ev_Post) : String → State → State → Prop := fun E st t => ∃ h : ev_AH, P (.inr E) h ∧ ev_H G h t.heap ∧ va_F (g_A G) st t
def ev_fin (G : ev_G) (M : ev_M) (P : ev_Post) : ev_Fin := fun below args s => vx_MQ below (ev_Qc G P) (ev_XC G P) args s (m_mc M) (m_ms M) (g_A G)
def ev_Pc (l : Launch) (G : ev_G) (as : List Value) (h : ev_AH) : Array Value → State → Prop := fun v U => v = as.toArray ∧ l.stackTraces = false ∧ ev_H G h U.heap ∧ va_K (g_D G) ev_cl (g_tys G) U ∧ g_B G ≤ U.heap.size ∧ ev_Low G U U.heap
def m_code (M : ev_M) : Cond := match M.2.2.2.2.2 with
  | [] => .code (m_y M) (m_cc M) (m_nL M) (m_rt M)
  | _ => .codeWith (m_y M) (m_cc M) (m_nL M) (m_rt M) (m_ht M)
/-- a method's contract at these arguments and this heap -/
def Mt (l : Launch) (G : ev_G) (M : ev_M) (as : List Value) (h : ev_AH) (P : ev_Post) : Prop :=
  vx_Met l (m_y M) (m_code M :: ev_TB) (m_rm M) (ev_Pc l G as h) (ev_Qc G P) (ev_XC G P) (m_mc M) (m_ms M) (g_A G)
theorem ev_Low.moved {G : ev_G} {u U : State} {H : Heap} (hW : u.WarmedH U.vm) (h : ev_Low G u H) : ev_Low G U H := by
  obtain ⟨h1, h2, h3, h4, h5, h6, h7, h8, h9, h10, h11, h12, h13, h14⟩ := h
  have hvm := hW.alike
  exact ⟨va_Z.moved hvm h1, va_T.moved hvm h2, vx_Zq.moved hvm h3, vx_Zq.moved hvm h4, fun q hq => (h5 q hq).imp fun a ha => vk_R.warm hW ha, va_Mi.moved hvm h6, va_X.moved hvm h7, h8, h9, fun q hq => va_Nw.warmC hW (h10 q hq), fun q hq => va_Nc.moved hvm (h11 q hq), va_AO.moved hvm h12, va_Dc.moved hvm h13, fun x hx => va_Nw.warmD hW (h14 x hx)⟩
theorem ev_Low.kept {G : ev_G} {U : State} {H H1 : Heap} (h : ev_Low G U H) (hq : ∀ a : Nat, a < H.size → ¬ g_A G a → H1[a]? = H[a]?) : ev_Low G U H1 := by
  obtain ⟨h1, h2, h3, h4, h5, h6, h7, h8, h9, h10⟩ := h
  refine ⟨h1.kept hq, h2.kept hq, h3.kept hq, h4.kept hq, h5, h6, h7.kept (hq _ ?_ ?_), h8, h9, h10⟩
  · obtain ⟨scr, e, -⟩ := h7
    exact (Array.getElem?_eq_some_iff.mp e).1
  · unfold g_A
    omega
/-- the same tables, another stack of frames -/
theorem ev_Low.same {G : ev_G} {u U : State} {H : Heap} (hv : U.vm = u.vm) (h : ev_Low G u H) : ev_Low G U H := by
  refine ev_Low.moved (u := u) ?_ h
  rw [hv]
  exact State.WarmedH.refl u
theorem ev_Pc.blind {l : Launch} {G : ev_G} {as : List Value} {h : ev_AH} : FrameBlind (ev_Pc l G as h) := by
  intro a U g mk q
  obtain ⟨q0, q1, q2, q3, q4, q5⟩ := q
  exact ⟨q0, q1, q2, va_K.moved (u := U) (U := U.calling g mk a) (Vm.Alike.refl U.vm) q3, q4, ev_Low.same (u := U) (U := U.calling g mk a) rfl q5⟩
section EV
variable {l : Launch} {G : ev_G} {M : ev_M} {pc : Nat} {ls : List (Nat × Value)} {st : List Value} {h : ev_AH} {uc us : Nat} {Q : ev_Fin} {P : ev_Post}
theorem Ev.widen {vc vs : Nat} (hc : vc ≤ uc) (hs : vs ≤ us) (K : Ev l G M pc ls st h vc vs Q) : Ev l G M pc ls st h uc us Q :=
  fun p e s m args below meth c H locs cells slots lsA C hH hS hl h1 h2 => K p e s m args below meth c H locs cells slots lsA C hH hS hl (by omega) (by omega)
theorem Ev.loc {ls' : List (Nat × Value)} (ks : List Nat) (hk : lv_pick ls ks = ls') (K : Ev l G M pc ls' st h uc us Q) : Ev l G M pc ls st h uc us Q :=
  fun p e s m args below meth c H locs cells slots lsA C hH hS hl h1 h2 => K p e s m args below meth c H locs cells slots lsA C hH hS (lv_sub hl ks hk) h1 h2
/-- the walk from the entry gives the contract: a method without a table -/
theorem Mt.of {as : List Value} (hy : plainName (m_y M).cls = true) (ht : m_ht M = []) (hn : (lg_sl as).length ≤ m_nL M) (K : Ev l G M 0 (lv_args 0 as) [] h (m_mc M) (m_ms M) (ev_fin G M P)) : Mt l G M as h P := by
  have hcode : m_code M = .code (m_y M) (m_cc M) (m_nL M) (m_rt M) := by
    unfold m_code
    unfold m_ht at ht
    rw [ht]
  unfold Mt
  rw [hcode]
  refine vx_ofW (cc := m_cc M) (maxL := m_nL M) (ret := m_rt M) hy rfl ?_
  intro p e s m args below meth c s₁ B hml htab hv
  obtain ⟨rfl, hst, hH, hK, hB, hL⟩ := hv
  have hts := atoms_spec (ws := Cond.code (m_y M) (m_cc M) (m_nL M) (m_rt M) :: ev_TB) B.pre
  have htb : c.exceptionTable.toList = tableOf (m_ht M) := by
    rw [ht]
    cases q : c.exceptionTable.toList with
    | nil => rfl
    | cons x xs => exact (htab x (by rw [q]; exact List.mem_cons_self)).elim
  have hl := lv_entry as (n := m_nL M) hn
  rw [lg_entry_eq]
  exact K p e s m _ below meth c s.heap [] 0 0 _ ⟨B.exec, B.bytes, hml, findClass_of_methodNamed B.named, fun w hw => hts w (List.mem_cons_of_mem _ hw), B.returns, B.notSynchronized, (name_of_methodNamed B.named B.method).1, htb, hst, hK, hB, hL⟩ hH va_S.rf hl (by omega) (by omega)
end EV
end
section
section ROWS
variable {l : Launch} {G : ev_G} {M : ev_M} {pc : Nat} {ls : List (Nat × Value)} {st : List Value} {h : ev_AH} {uc us : Nat} {Q : ev_Fin} {P : ev_Post}
theorem e_iconst {n : Int} {v : Int32} (hd : decode (m_cc M) pc = .ok (.iconst n, 1)) (hv : Int32.ofInt n = v) (K : Ev l G M (pc + 1) ls (.int v :: st) h uc us Q) : Ev l G M pc ls st h uc us Q :=
  fun p e s m args below meth c H locs cells slots lsA C hH hS hl h1 h2 => lv_iconst C.1 C.2.1 hd hv (K p e s m args below meth c H locs cells slots lsA C hH hS hl h1 h2)
theorem e_bipush {n : Int} {v : Int32} (hd : decode (m_cc M) pc = .ok (.bipush n, 2)) (hv : (Int8.ofInt n).toInt32 = v) (K : Ev l G M (pc + 2) ls (.int v :: st) h uc us Q) : Ev l G M pc ls st h uc us Q :=
  fun p e s m args below meth c H locs cells slots lsA C hH hS hl h1 h2 => lv_bipush C.1 C.2.1 hd hv (K p e s m args below meth c H locs cells slots lsA C hH hS hl h1 h2)
theorem e_sipush {n : Int} {v : Int32} (hd : decode (m_cc M) pc = .ok (.sipush n, 3)) (hv : (Int16.ofInt n).toInt32 = v) (K : Ev l G M (pc + 3) ls (.int v :: st) h uc us Q) : Ev l G M pc ls st h uc us Q :=
  fun p e s m args below meth c H locs cells slots lsA C hH hS hl h1 h2 => lv_sipush C.1 C.2.1 hd hv (K p e s m args below meth c H locs cells slots lsA C hH hS hl h1 h2)
theorem e_lconst {n : Fin 2} {v : Int64} (hd : decode (m_cc M) pc = .ok (.lconst n, 1)) (hv : Int64.ofNat (n : Nat) = v) (K : Ev l G M (pc + 1) ls (.long v :: st) h uc us Q) : Ev l G M pc ls st h uc us Q :=
  fun p e s m args below meth c H locs cells slots lsA C hH hS hl h1 h2 => lv_lconst C.1 C.2.1 hd hv (K p e s m args below meth c H locs cells slots lsA C hH hS hl h1 h2)
theorem e_null (hd : decode (m_cc M) pc = .ok (.aconst_null, 1)) (K : Ev l G M (pc + 1) ls (.null :: st) h uc us Q) : Ev l G M pc ls st h uc us Q :=
  fun p e s m args below meth c H locs cells slots lsA C hH hS hl h1 h2 => lv_null C.1 C.2.1 hd (K p e s m args below meth c H locs cells slots lsA C hH hS hl h1 h2)
theorem e_iload_n {q : Fin 4} {i : Nat} {x : Int32} (hd : decode (m_cc M) pc = .ok (.iload_n q, 1)) (hi : (q : Nat) = i) (k : Nat) (hk : ls[k]? = some (i, .int x)) (K : Ev l G M (pc + 1) ls (.int x :: st) h uc us Q) : Ev l G M pc ls st h uc us Q :=
  fun p e s m args below meth c H locs cells slots lsA C hH hS hl h1 h2 => lv_iload_n C.1 C.2.1 hd hi (lv_at hl k hk) (K p e s m args below meth c H locs cells slots lsA C hH hS hl h1 h2)
theorem e_iload {i : Nat} {x : Int32} (hd : decode (m_cc M) pc = .ok (.iload i, 2)) (k : Nat) (hk : ls[k]? = some (i, .int x)) (K : Ev l G M (pc + 2) ls (.int x :: st) h uc us Q) : Ev l G M pc ls st h uc us Q :=
  fun p e s m args below meth c H locs cells slots lsA C hH hS hl h1 h2 => lv_iload C.1 C.2.1 hd (lv_at hl k hk) (K p e s m args below meth c H locs cells slots lsA C hH hS hl h1 h2)
theorem e_lload_n {q : Fin 4} {i : Nat} {x : Int64} (hd : decode (m_cc M) pc = .ok (.lload_n q, 1)) (hi : (q : Nat) = i) (k : Nat) (hk : ls[k]? = some (i, .long x)) (K : Ev l G M (pc + 1) ls (.long x :: st) h uc us Q) : Ev l G M pc ls st h uc us Q :=
  fun p e s m args below meth c H locs cells slots lsA C hH hS hl h1 h2 => lv_lload_n C.1 C.2.1 hd hi (lv_at hl k hk) (K p e s m args below meth c H locs cells slots lsA C hH hS hl h1 h2)
theorem e_lload {i : Nat} {x : Int64} (hd : decode (m_cc M) pc = .ok (.lload i, 2)) (k : Nat) (hk : ls[k]? = some (i, .long x)) (K : Ev l G M (pc + 2) ls (.long x :: st) h uc us Q) : Ev l G M pc ls st h uc us Q :=
  fun p e s m args below meth c H locs cells slots lsA C hH hS hl h1 h2 => lv_lload C.1 C.2.1 hd (lv_at hl k hk) (K p e s m args below meth c H locs cells slots lsA C hH hS hl h1 h2)
theorem e_aload_n {q : Fin 4} {i : Nat} {x : Nat} (hd : decode (m_cc M) pc = .ok (.aload_n q, 1)) (hi : (q : Nat) = i) (k : Nat) (hk : ls[k]? = some (i, .ref x)) (K : Ev l G M (pc + 1) ls (.ref x :: st) h uc us Q) : Ev l G M pc ls st h uc us Q :=
  fun p e s m args below meth c H locs cells slots lsA C hH hS hl h1 h2 => lv_aload_n C.1 C.2.1 hd hi (lv_at hl k hk) (K p e s m args below meth c H locs cells slots lsA C hH hS hl h1 h2)
theorem e_aload {i : Nat} {x : Nat} (hd : decode (m_cc M) pc = .ok (.aload i, 2)) (k : Nat) (hk : ls[k]? = some (i, .ref x)) (K : Ev l G M (pc + 2) ls (.ref x :: st) h uc us Q) : Ev l G M pc ls st h uc us Q :=
  fun p e s m args below meth c H locs cells slots lsA C hH hS hl h1 h2 => lv_aload C.1 C.2.1 hd (lv_at hl k hk) (K p e s m args below meth c H locs cells slots lsA C hH hS hl h1 h2)
theorem e_aload_nN {q : Fin 4} {i : Nat} (hd : decode (m_cc M) pc = .ok (.aload_n q, 1)) (hi : (q : Nat) = i) (k : Nat) (hk : ls[k]? = some (i, .null)) (K : Ev l G M (pc + 1) ls (.null :: st) h uc us Q) : Ev l G M pc ls st h uc us Q :=
  fun p e s m args below meth c H locs cells slots lsA C hH hS hl h1 h2 => lv_aload_nN C.1 C.2.1 hd hi (lv_at hl k hk) (K p e s m args below meth c H locs cells slots lsA C hH hS hl h1 h2)
theorem e_istore_n {q : Fin 4} {i : Nat} {x : Int32} {ls' : List (Nat × Value)} (hd : decode (m_cc M) pc = .ok (.istore_n q, 1)) (hi : (q : Nat) = i) (hn : i < m_nL M) (hl' : (i, Value.int x) :: ls.filter (fun q => !(q.1 == i) && !(q.1 + 1 == i && q.2.category == 2)) = ls') (K : Ev l G M (pc + 1) ls' st h uc us Q) : Ev l G M pc ls (.int x :: st) h uc us Q :=
  fun p e s m args below meth c H locs cells slots lsA C hH hS hl h1 h2 => lv_istore_n C.1 C.2.1 hd hi hl hn hl' (fun lsB hb => K p e s m args below meth c H locs cells slots lsB C hH hS hb h1 h2)
theorem e_istore {i : Nat} {x : Int32} {ls' : List (Nat × Value)} (hd : decode (m_cc M) pc = .ok (.istore i, 2)) (hn : i < m_nL M) (hl' : (i, Value.int x) :: ls.filter (fun q => !(q.1 == i) && !(q.1 + 1 == i && q.2.category == 2)) = ls') (K : Ev l G M (pc + 2) ls' st h uc us Q) : Ev l G M pc ls (.int x :: st) h uc us Q :=
  fun p e s m args below meth c H locs cells slots lsA C hH hS hl h1 h2 => lv_istore C.1 C.2.1 hd hl hn hl' (fun lsB hb => K p e s m args below meth c H locs cells slots lsB C hH hS hb h1 h2)
theorem e_astore_n {q : Fin 4} {i : Nat} {x : Nat} {ls' : List (Nat × Value)} (hd : decode (m_cc M) pc = .ok (.astore_n q, 1)) (hi : (q : Nat) = i) (hn : i < m_nL M) (hl' : (i, Value.ref x) :: ls.filter (fun q => !(q.1 == i) && !(q.1 + 1 == i && q.2.category == 2)) = ls') (K : Ev l G M (pc + 1) ls' st h uc us Q) : Ev l G M pc ls (.ref x :: st) h uc us Q :=
  fun p e s m args below meth c H locs cells slots lsA C hH hS hl h1 h2 => lv_astore_n C.1 C.2.1 hd hi hl hn hl' (fun lsB hb => K p e s m args below meth c H locs cells slots lsB C hH hS hb h1 h2)
theorem e_astore {i : Nat} {x : Nat} {ls' : List (Nat × Value)} (hd : decode (m_cc M) pc = .ok (.astore i, 2)) (hn : i < m_nL M) (hl' : (i, Value.ref x) :: ls.filter (fun q => !(q.1 == i) && !(q.1 + 1 == i && q.2.category == 2)) = ls') (K : Ev l G M (pc + 2) ls' st h uc us Q) : Ev l G M pc ls (.ref x :: st) h uc us Q :=
  fun p e s m args below meth c H locs cells slots lsA C hH hS hl h1 h2 => lv_astore C.1 C.2.1 hd hl hn hl' (fun lsB hb => K p e s m args below meth c H locs cells slots lsB C hH hS hb h1 h2)
theorem e_lstore_n {q : Fin 4} {i : Nat} {x : Int64} {ls' : List (Nat × Value)} (hd : decode (m_cc M) pc = .ok (.lstore_n q, 1)) (hi : (q : Nat) = i) (hn : i + 1 < m_nL M) (hl' : (i, Value.long x) :: ls.filter (fun q => !(q.1 == i) && (!(q.1 == i + 1) && !(q.1 + 1 == i && q.2.category == 2))) = ls') (K : Ev l G M (pc + 1) ls' st h uc us Q) : Ev l G M pc ls (.long x :: st) h uc us Q :=
  fun p e s m args below meth c H locs cells slots lsA C hH hS hl h1 h2 => lv_lstore_n C.1 C.2.1 hd hi hl hn hl' (fun lsB hb => K p e s m args below meth c H locs cells slots lsB C hH hS hb h1 h2)
theorem e_lstore {i : Nat} {x : Int64} {ls' : List (Nat × Value)} (hd : decode (m_cc M) pc = .ok (.lstore i, 2)) (hn : i + 1 < m_nL M) (hl' : (i, Value.long x) :: ls.filter (fun q => !(q.1 == i) && (!(q.1 == i + 1) && !(q.1 + 1 == i && q.2.category == 2))) = ls') (K : Ev l G M (pc + 2) ls' st h uc us Q) : Ev l G M pc ls (.long x :: st) h uc us Q :=
  fun p e s m args below meth c H locs cells slots lsA C hH hS hl h1 h2 => lv_lstore C.1 C.2.1 hd hl hn hl' (fun lsB hb => K p e s m args below meth c H locs cells slots lsB C hH hS hb h1 h2)
theorem e_iinc {i k : Nat} {n : Int} {x v : Int32} {ls' : List (Nat × Value)} (hd : decode (m_cc M) pc = .ok (.iinc i n, 3)) (hk : ls[k]? = some (i, .int x)) (hv : x + Int32.ofInt n = v) (hn : i < m_nL M) (hl' : (i, Value.int v) :: ls.filter (fun q => !(q.1 == i) && !(q.1 + 1 == i && q.2.category == 2)) = ls') (K : Ev l G M (pc + 3) ls' st h uc us Q) : Ev l G M pc ls st h uc us Q :=
  fun p e s m args below meth c H locs cells slots lsA C hH hS hl h1 h2 => lv_iinc C.1 C.2.1 hd hl hk hv hn hl' (fun lsB hb => K p e s m args below meth c H locs cells slots lsB C hH hS hb h1 h2)
theorem e_iadd {x y : Int32} (hd : decode (m_cc M) pc = .ok (.iadd, 1)) (K : Ev l G M (pc + 1) ls (.int (x + y) :: st) h uc us Q) : Ev l G M pc ls (.int y :: .int x :: st) h uc us Q :=
  fun p e s m args below meth c H locs cells slots lsA C hH hS hl h1 h2 => lv_iadd C.1 C.2.1 hd (K p e s m args below meth c H locs cells slots lsA C hH hS hl h1 h2)
theorem e_isub {x y : Int32} (hd : decode (m_cc M) pc = .ok (.isub, 1)) (K : Ev l G M (pc + 1) ls (.int (x - y) :: st) h uc us Q) : Ev l G M pc ls (.int y :: .int x :: st) h uc us Q :=
  fun p e s m args below meth c H locs cells slots lsA C hH hS hl h1 h2 => lv_isub C.1 C.2.1 hd (K p e s m args below meth c H locs cells slots lsA C hH hS hl h1 h2)
theorem e_imul {x y : Int32} (hd : decode (m_cc M) pc = .ok (.imul, 1)) (K : Ev l G M (pc + 1) ls (.int (x * y) :: st) h uc us Q) : Ev l G M pc ls (.int y :: .int x :: st) h uc us Q :=
  fun p e s m args below meth c H locs cells slots lsA C hH hS hl h1 h2 => lv_imul C.1 C.2.1 hd (K p e s m args below meth c H locs cells slots lsA C hH hS hl h1 h2)
theorem e_iand {x y : Int32} (hd : decode (m_cc M) pc = .ok (.iand, 1)) (K : Ev l G M (pc + 1) ls (.int (x &&& y) :: st) h uc us Q) : Ev l G M pc ls (.int y :: .int x :: st) h uc us Q :=
  fun p e s m args below meth c H locs cells slots lsA C hH hS hl h1 h2 => lv_iand C.1 C.2.1 hd (K p e s m args below meth c H locs cells slots lsA C hH hS hl h1 h2)
theorem e_ior {x y : Int32} (hd : decode (m_cc M) pc = .ok (.ior, 1)) (K : Ev l G M (pc + 1) ls (.int (x ||| y) :: st) h uc us Q) : Ev l G M pc ls (.int y :: .int x :: st) h uc us Q :=
  fun p e s m args below meth c H locs cells slots lsA C hH hS hl h1 h2 => lv_ior C.1 C.2.1 hd (K p e s m args below meth c H locs cells slots lsA C hH hS hl h1 h2)
theorem e_ixor {x y : Int32} (hd : decode (m_cc M) pc = .ok (.ixor, 1)) (K : Ev l G M (pc + 1) ls (.int (x ^^^ y) :: st) h uc us Q) : Ev l G M pc ls (.int y :: .int x :: st) h uc us Q :=
  fun p e s m args below meth c H locs cells slots lsA C hH hS hl h1 h2 => lv_ixor C.1 C.2.1 hd (K p e s m args below meth c H locs cells slots lsA C hH hS hl h1 h2)
theorem e_ishl {x y : Int32} (hd : decode (m_cc M) pc = .ok (.ishl, 1)) (K : Ev l G M (pc + 1) ls (.int (x <<< (y &&& 31)) :: st) h uc us Q) : Ev l G M pc ls (.int y :: .int x :: st) h uc us Q :=
  fun p e s m args below meth c H locs cells slots lsA C hH hS hl h1 h2 => lv_ishl C.1 C.2.1 hd (K p e s m args below meth c H locs cells slots lsA C hH hS hl h1 h2)
theorem e_ishr {x y : Int32} (hd : decode (m_cc M) pc = .ok (.ishr, 1)) (K : Ev l G M (pc + 1) ls (.int (x >>> (y &&& 31)) :: st) h uc us Q) : Ev l G M pc ls (.int y :: .int x :: st) h uc us Q :=
  fun p e s m args below meth c H locs cells slots lsA C hH hS hl h1 h2 => lv_ishr C.1 C.2.1 hd (K p e s m args below meth c H locs cells slots lsA C hH hS hl h1 h2)
theorem e_lor {x y : Int64} (hd : decode (m_cc M) pc = .ok (.lor, 1)) (K : Ev l G M (pc + 1) ls (.long (x ||| y) :: st) h uc us Q) : Ev l G M pc ls (.long y :: .long x :: st) h uc us Q :=
  fun p e s m args below meth c H locs cells slots lsA C hH hS hl h1 h2 => lv_lor C.1 C.2.1 hd (K p e s m args below meth c H locs cells slots lsA C hH hS hl h1 h2)
theorem e_lshl {x v : Int64} {y : Int32} (hd : decode (m_cc M) pc = .ok (.lshl, 1)) (hv : x <<< (y.toInt64 &&& 63) = v) (K : Ev l G M (pc + 1) ls (.long v :: st) h uc us Q) : Ev l G M pc ls (.int y :: .long x :: st) h uc us Q :=
  fun p e s m args below meth c H locs cells slots lsA C hH hS hl h1 h2 => lv_lshl C.1 C.2.1 hd hv (K p e s m args below meth c H locs cells slots lsA C hH hS hl h1 h2)
theorem e_i2l {x : Int32} {v : Int64} (hd : decode (m_cc M) pc = .ok (.i2l, 1)) (hv : x.toInt64 = v) (K : Ev l G M (pc + 1) ls (.long v :: st) h uc us Q) : Ev l G M pc ls (.int x :: st) h uc us Q :=
  fun p e s m args below meth c H locs cells slots lsA C hH hS hl h1 h2 => lv_i2l C.1 C.2.1 hd hv (K p e s m args below meth c H locs cells slots lsA C hH hS hl h1 h2)
theorem e_lcmp {x y : Int64} (hd : decode (m_cc M) pc = .ok (.lcmp, 1)) (K : Ev l G M (pc + 1) ls (.int (lg_cmp x y) :: st) h uc us Q) : Ev l G M pc ls (.long y :: .long x :: st) h uc us Q :=
  fun p e s m args below meth c H locs cells slots lsA C hH hS hl h1 h2 => W.lcmp C.1 C.2.1 hd (K p e s m args below meth c H locs cells slots lsA C hH hS hl h1 h2)
theorem e_dup {v : Value} (hd : decode (m_cc M) pc = .ok (.dup, 1)) (hv : v.category = 1) (K : Ev l G M (pc + 1) ls (v :: v :: st) h uc us Q) : Ev l G M pc ls (v :: st) h uc us Q :=
  fun p e s m args below meth c H locs cells slots lsA C hH hS hl h1 h2 => lv_dup C.1 C.2.1 hd hv (K p e s m args below meth c H locs cells slots lsA C hH hS hl h1 h2)
theorem e_pop {v : Value} (hd : decode (m_cc M) pc = .ok (.pop, 1)) (hv : v.category = 1) (K : Ev l G M (pc + 1) ls st h uc us Q) : Ev l G M pc ls (v :: st) h uc us Q :=
  fun p e s m args below meth c H locs cells slots lsA C hH hS hl h1 h2 => lv_pop C.1 C.2.1 hd hv (K p e s m args below meth c H locs cells slots lsA C hH hS hl h1 h2)
theorem e_dup_x1 {v w : Value} (hd : decode (m_cc M) pc = .ok (.dup_x1, 1)) (hv : v.category = 1) (hw : w.category = 1) (K : Ev l G M (pc + 1) ls (v :: w :: v :: st) h uc us Q) : Ev l G M pc ls (v :: w :: st) h uc us Q :=
  fun p e s m args below meth c H locs cells slots lsA C hH hS hl h1 h2 => lv_dup_x1 C.1 C.2.1 hd hv hw (K p e s m args below meth c H locs cells slots lsA C hH hS hl h1 h2)
theorem e_dup2 {v w : Value} (hd : decode (m_cc M) pc = .ok (.dup2, 1)) (hv : v.category = 1) (hw : w.category = 1) (K : Ev l G M (pc + 1) ls (v :: w :: v :: w :: st) h uc us Q) : Ev l G M pc ls (v :: w :: st) h uc us Q :=
  fun p e s m args below meth c H locs cells slots lsA C hH hS hl h1 h2 => lv_dup2_11 C.1 C.2.1 hd hv hw (K p e s m args below meth c H locs cells slots lsA C hH hS hl h1 h2)
theorem e_if_eq {x : Int32} {off : Int} {tgt : Nat} (hd : decode (m_cc M) pc = .ok (.ifCond .eq off, 3)) (ht : (pc : Int) + off = (tgt : Int)) (kt : x = 0 → Ev l G M tgt ls st h uc us Q) (kf : ¬ x = 0 → Ev l G M (pc + 3) ls st h uc us Q) : Ev l G M pc ls (.int x :: st) h uc us Q :=
  fun p e s m args below meth c H locs cells slots lsA C hH hS hl h1 h2 => lv_if_eq C.1 C.2.1 hd ht (fun z => kt z p e s m args below meth c H locs cells slots lsA C hH hS hl h1 h2) (fun z => kf z p e s m args below meth c H locs cells slots lsA C hH hS hl h1 h2)
theorem e_icmp_eq {x y : Int32} {off : Int} {tgt : Nat} (hd : decode (m_cc M) pc = .ok (.if_icmp .eq off, 3)) (ht : (pc : Int) + off = (tgt : Int)) (kt : x = y → Ev l G M tgt ls st h uc us Q) (kf : ¬ x = y → Ev l G M (pc + 3) ls st h uc us Q) : Ev l G M pc ls (.int y :: .int x :: st) h uc us Q :=
  fun p e s m args below meth c H locs cells slots lsA C hH hS hl h1 h2 => lv_icmp_eq C.1 C.2.1 hd ht (fun z => kt z p e s m args below meth c H locs cells slots lsA C hH hS hl h1 h2) (fun z => kf z p e s m args below meth c H locs cells slots lsA C hH hS hl h1 h2)
theorem e_if_ne {x : Int32} {off : Int} {tgt : Nat} (hd : decode (m_cc M) pc = .ok (.ifCond .ne off, 3)) (ht : (pc : Int) + off = (tgt : Int)) (kt : ¬ x = 0 → Ev l G M tgt ls st h uc us Q) (kf : x = 0 → Ev l G M (pc + 3) ls st h uc us Q) : Ev l G M pc ls (.int x :: st) h uc us Q :=
  fun p e s m args below meth c H locs cells slots lsA C hH hS hl h1 h2 => lv_if_ne C.1 C.2.1 hd ht (fun z => kt z p e s m args below meth c H locs cells slots lsA C hH hS hl h1 h2) (fun z => kf z p e s m args below meth c H locs cells slots lsA C hH hS hl h1 h2)
theorem e_icmp_ne {x y : Int32} {off : Int} {tgt : Nat} (hd : decode (m_cc M) pc = .ok (.if_icmp .ne off, 3)) (ht : (pc : Int) + off = (tgt : Int)) (kt : ¬ x = y → Ev l G M tgt ls st h uc us Q) (kf : x = y → Ev l G M (pc + 3) ls st h uc us Q) : Ev l G M pc ls (.int y :: .int x :: st) h uc us Q :=
  fun p e s m args below meth c H locs cells slots lsA C hH hS hl h1 h2 => lv_icmp_ne C.1 C.2.1 hd ht (fun z => kt z p e s m args below meth c H locs cells slots lsA C hH hS hl h1 h2) (fun z => kf z p e s m args below meth c H locs cells slots lsA C hH hS hl h1 h2)
theorem e_if_lt {x : Int32} {off : Int} {tgt : Nat} (hd : decode (m_cc M) pc = .ok (.ifCond .lt off, 3)) (ht : (pc : Int) + off = (tgt : Int)) (kt : x < 0 → Ev l G M tgt ls st h uc us Q) (kf : ¬ x < 0 → Ev l G M (pc + 3) ls st h uc us Q) : Ev l G M pc ls (.int x :: st) h uc us Q :=
  fun p e s m args below meth c H locs cells slots lsA C hH hS hl h1 h2 => lv_if_lt C.1 C.2.1 hd ht (fun z => kt z p e s m args below meth c H locs cells slots lsA C hH hS hl h1 h2) (fun z => kf z p e s m args below meth c H locs cells slots lsA C hH hS hl h1 h2)
theorem e_icmp_lt {x y : Int32} {off : Int} {tgt : Nat} (hd : decode (m_cc M) pc = .ok (.if_icmp .lt off, 3)) (ht : (pc : Int) + off = (tgt : Int)) (kt : x < y → Ev l G M tgt ls st h uc us Q) (kf : ¬ x < y → Ev l G M (pc + 3) ls st h uc us Q) : Ev l G M pc ls (.int y :: .int x :: st) h uc us Q :=
  fun p e s m args below meth c H locs cells slots lsA C hH hS hl h1 h2 => lv_icmp_lt C.1 C.2.1 hd ht (fun z => kt z p e s m args below meth c H locs cells slots lsA C hH hS hl h1 h2) (fun z => kf z p e s m args below meth c H locs cells slots lsA C hH hS hl h1 h2)
theorem e_if_ge {x : Int32} {off : Int} {tgt : Nat} (hd : decode (m_cc M) pc = .ok (.ifCond .ge off, 3)) (ht : (pc : Int) + off = (tgt : Int)) (kt : 0 ≤ x → Ev l G M tgt ls st h uc us Q) (kf : ¬ 0 ≤ x → Ev l G M (pc + 3) ls st h uc us Q) : Ev l G M pc ls (.int x :: st) h uc us Q :=
  fun p e s m args below meth c H locs cells slots lsA C hH hS hl h1 h2 => lv_if_ge C.1 C.2.1 hd ht (fun z => kt z p e s m args below meth c H locs cells slots lsA C hH hS hl h1 h2) (fun z => kf z p e s m args below meth c H locs cells slots lsA C hH hS hl h1 h2)
theorem e_icmp_ge {x y : Int32} {off : Int} {tgt : Nat} (hd : decode (m_cc M) pc = .ok (.if_icmp .ge off, 3)) (ht : (pc : Int) + off = (tgt : Int)) (kt : y ≤ x → Ev l G M tgt ls st h uc us Q) (kf : ¬ y ≤ x → Ev l G M (pc + 3) ls st h uc us Q) : Ev l G M pc ls (.int y :: .int x :: st) h uc us Q :=
  fun p e s m args below meth c H locs cells slots lsA C hH hS hl h1 h2 => lv_icmp_ge C.1 C.2.1 hd ht (fun z => kt z p e s m args below meth c H locs cells slots lsA C hH hS hl h1 h2) (fun z => kf z p e s m args below meth c H locs cells slots lsA C hH hS hl h1 h2)
theorem e_if_gt {x : Int32} {off : Int} {tgt : Nat} (hd : decode (m_cc M) pc = .ok (.ifCond .gt off, 3)) (ht : (pc : Int) + off = (tgt : Int)) (kt : 0 < x → Ev l G M tgt ls st h uc us Q) (kf : ¬ 0 < x → Ev l G M (pc + 3) ls st h uc us Q) : Ev l G M pc ls (.int x :: st) h uc us Q :=
  fun p e s m args below meth c H locs cells slots lsA C hH hS hl h1 h2 => lv_if_gt C.1 C.2.1 hd ht (fun z => kt z p e s m args below meth c H locs cells slots lsA C hH hS hl h1 h2) (fun z => kf z p e s m args below meth c H locs cells slots lsA C hH hS hl h1 h2)
theorem e_icmp_gt {x y : Int32} {off : Int} {tgt : Nat} (hd : decode (m_cc M) pc = .ok (.if_icmp .gt off, 3)) (ht : (pc : Int) + off = (tgt : Int)) (kt : y < x → Ev l G M tgt ls st h uc us Q) (kf : ¬ y < x → Ev l G M (pc + 3) ls st h uc us Q) : Ev l G M pc ls (.int y :: .int x :: st) h uc us Q :=
  fun p e s m args below meth c H locs cells slots lsA C hH hS hl h1 h2 => lv_icmp_gt C.1 C.2.1 hd ht (fun z => kt z p e s m args below meth c H locs cells slots lsA C hH hS hl h1 h2) (fun z => kf z p e s m args below meth c H locs cells slots lsA C hH hS hl h1 h2)
theorem e_if_le {x : Int32} {off : Int} {tgt : Nat} (hd : decode (m_cc M) pc = .ok (.ifCond .le off, 3)) (ht : (pc : Int) + off = (tgt : Int)) (kt : x ≤ 0 → Ev l G M tgt ls st h uc us Q) (kf : ¬ x ≤ 0 → Ev l G M (pc + 3) ls st h uc us Q) : Ev l G M pc ls (.int x :: st) h uc us Q :=
  fun p e s m args below meth c H locs cells slots lsA C hH hS hl h1 h2 => lv_if_le C.1 C.2.1 hd ht (fun z => kt z p e s m args below meth c H locs cells slots lsA C hH hS hl h1 h2) (fun z => kf z p e s m args below meth c H locs cells slots lsA C hH hS hl h1 h2)
theorem e_icmp_le {x y : Int32} {off : Int} {tgt : Nat} (hd : decode (m_cc M) pc = .ok (.if_icmp .le off, 3)) (ht : (pc : Int) + off = (tgt : Int)) (kt : x ≤ y → Ev l G M tgt ls st h uc us Q) (kf : ¬ x ≤ y → Ev l G M (pc + 3) ls st h uc us Q) : Ev l G M pc ls (.int y :: .int x :: st) h uc us Q :=
  fun p e s m args below meth c H locs cells slots lsA C hH hS hl h1 h2 => lv_icmp_le C.1 C.2.1 hd ht (fun z => kt z p e s m args below meth c H locs cells slots lsA C hH hS hl h1 h2) (fun z => kf z p e s m args below meth c H locs cells slots lsA C hH hS hl h1 h2)
theorem e_acmp_eq {x y : Nat} {off : Int} {tgt : Nat} (hd : decode (m_cc M) pc = .ok (.if_acmp .eq off, 3)) (ht : (pc : Int) + off = (tgt : Int)) (kt : x = y → Ev l G M tgt ls st h uc us Q) (kf : ¬ x = y → Ev l G M (pc + 3) ls st h uc us Q) : Ev l G M pc ls (.ref y :: .ref x :: st) h uc us Q :=
  fun p e s m args below meth c H locs cells slots lsA C hH hS hl h1 h2 => lv_acmp_eq (rx := some x) (ry := some y) C.1 C.2.1 hd ht (fun z => kt (by simpa using z) p e s m args below meth c H locs cells slots lsA C hH hS hl h1 h2) (fun z => kf (by simpa using z) p e s m args below meth c H locs cells slots lsA C hH hS hl h1 h2)
theorem e_acmp_ne {x y : Nat} {off : Int} {tgt : Nat} (hd : decode (m_cc M) pc = .ok (.if_acmp .ne off, 3)) (ht : (pc : Int) + off = (tgt : Int)) (kt : ¬ x = y → Ev l G M tgt ls st h uc us Q) (kf : x = y → Ev l G M (pc + 3) ls st h uc us Q) : Ev l G M pc ls (.ref y :: .ref x :: st) h uc us Q :=
  fun p e s m args below meth c H locs cells slots lsA C hH hS hl h1 h2 => lv_acmp_ne (rx := some x) (ry := some y) C.1 C.2.1 hd ht (fun z => kt (by simpa using z) p e s m args below meth c H locs cells slots lsA C hH hS hl h1 h2) (fun z => kf (by simpa using z) p e s m args below meth c H locs cells slots lsA C hH hS hl h1 h2)
theorem e_goto {off : Int} {tgt : Nat} (hd : decode (m_cc M) pc = .ok (.goto off, 3)) (ht : (pc : Int) + off = (tgt : Int)) (K : Ev l G M tgt ls st h uc us Q) : Ev l G M pc ls st h uc us Q :=
  fun p e s m args below meth c H locs cells slots lsA C hH hS hl h1 h2 => lv_goto C.1 C.2.1 hd ht (K p e s m args below meth c H locs cells slots lsA C hH hS hl h1 h2)
theorem e_tin {dflt lo hi : Int} {offs : Array Int} {len : Nat} {x : Int32} {off : Int} {tgt : Nat} (hd : decode (m_cc M) pc = .ok (.tableswitch dflt lo hi offs, len)) (i1 : ¬ x.toInt < lo) (i2 : ¬ hi < x.toInt) (ho : offs[(x.toInt - lo).toNat]? = some off) (ht : (pc : Int) + off = (tgt : Int)) (K : Ev l G M tgt ls st h uc us Q) : Ev l G M pc ls (.int x :: st) h uc us Q :=
  fun p e s m args below meth c H locs cells slots lsA C hH hS hl h1 h2 => lv_tableIn C.1 C.2.1 hd i1 i2 ho ht (K p e s m args below meth c H locs cells slots lsA C hH hS hl h1 h2)
theorem e_tout {dflt lo hi : Int} {offs : Array Int} {len : Nat} {x : Int32} {tgt : Nat} (hd : decode (m_cc M) pc = .ok (.tableswitch dflt lo hi offs, len)) (i1 : x.toInt < lo ∨ hi < x.toInt) (ht : (pc : Int) + dflt = (tgt : Int)) (K : Ev l G M tgt ls st h uc us Q) : Ev l G M pc ls (.int x :: st) h uc us Q :=
  fun p e s m args below meth c H locs cells slots lsA C hH hS hl h1 h2 => lv_tableOut C.1 C.2.1 hd i1 ht (K p e s m args below meth c H locs cells slots lsA C hH hS hl h1 h2)
end ROWS
end
section
/-! HEAP ROWS: fields, arrays, new cells, answers -/
/-- a class of the list: its words are there, its fields' types, their names apart -/
def ev_cls (ci : Nat) (r : vw_C) (ty : Nat → FieldType) : Prop := ev_cl[ci]? = some r ∧ (∀ w ∈ u_ws r.1 r.2.1 r.2.2, w ∈ ev_TB) ∧ (∀ k, k < r.2.2 → parseFieldDescriptor (r.2.1 k).2.2.1 = some (ty k)) ∧ ∀ a, a < r.2.2 → ∀ b, b < r.2.2 → a ≠ b → (r.2.1 a).2.1 ≠ (r.2.1 b).2.1
/-- the pool's place idx of the class own names field k of class ci -/
def ev_FL (own : String) (idx ci k : Nat) : Prop := ∃ (r : vw_C) (ty : Nat → FieldType) (ref : String), ev_cls ci r ty ∧ k < r.2.2 ∧ Cond.fieldLink own idx ref (r.2.1 k).2.1 (r.2.1 k).2.2.1 ∈ ev_TB ∧ (ref = (r.2.1 k).1 ∨ Cond.sameField ref (r.2.1 k).1 (r.2.1 k).2.1 (r.2.1 k).2.2.1 ∈ ev_TB)
/-- .. and it may be written: its type -/
def ev_FP (own : String) (idx ci k : Nat) (ft : FieldType) : Prop := ∃ (r : vw_C) (ty : Nat → FieldType) (ref : String), ev_cls ci r ty ∧ k < r.2.2 ∧ Cond.fieldLink own idx ref (r.2.1 k).2.1 (r.2.1 k).2.2.1 ∈ ev_TB ∧ (ref = (r.2.1 k).1 ∨ Cond.sameField ref (r.2.1 k).1 (r.2.1 k).2.1 (r.2.1 k).2.2.1 ∈ ev_TB) ∧ (r.2.1 k).2.2.2 = false ∧ ty k = ft
/-- .. a final one, in its class's constructor -/
def ev_FF (own : String) (idx ci k : Nat) (ft : FieldType) : Prop := ∃ (r : vw_C) (ty : Nat → FieldType) (ref : String), ev_cls ci r ty ∧ k < r.2.2 ∧ Cond.fieldLink own idx ref (r.2.1 k).2.1 (r.2.1 k).2.2.1 ∈ ev_TB ∧ ref = (r.2.1 k).1 ∧ (r.2.1 k).2.2.2 = true ∧ (r.2.1 k).1 = own ∧ ty k = ft
/-- 'new' of class ci by the pool's place idx; its fields at first -/
def ev_NW (own : String) (idx ci : Nat) (fs : List Value) : Prop := ∃ (r : vw_C) (ty : Nat → FieldType), ev_cls ci r ty ∧ Cond.classLink own idx r.1 ∈ ev_TB ∧ Cond.instantiable r.1 r.2.2 ∈ ev_TB ∧ Cond.initialized r.1 ∈ ev_TB ∧ fs.length = r.2.2 ∧ ∀ j, j < r.2.2 → defaultValue (ty j) = vp_V fs j
theorem ev_obj {G : ev_G} {h : ev_AH} {H : Heap} {a ci : Nat} {fs : List Value} {r : vw_C} (hH : ev_H G h H) (e : h a = some (ci, fs)) (hr : ev_cl[ci]? = some r) : g_A G a ∧ fs.length = r.2.2 ∧ t_OB a (G.2.1 ci) r.2.2 (G.2.2.1 ci) H (vp_V fs) := by
  obtain ⟨hB, hat⟩ := hH a _ e
  rcases hat with ⟨r', g1, g2, g3⟩ | ⟨j, j1, j2, -⟩
  · have hrr : r' = r := Option.some.inj (g1.symm.trans hr)
    subst hrr
    exact ⟨hB, g2, g3⟩
  · have hlt : ci < ev_cl.length := (List.getElem?_eq_some_iff.mp hr).1
    have hle := ev_cl_len
    have j3 : ci = 100 + j := j2
    omega
theorem ev_arr {G : ev_G} {h : ev_AH} {H : Heap} {a j : Nat} {vs : List Value} (hH : ev_H G h H) (e : h a = some (100 + j, vs)) : g_A G a ∧ j < 4 ∧ H[a]? = some (arrV (g_dA G j) vs.length (vp_V vs)) := by
  obtain ⟨hB, hat⟩ := hH a _ e
  rcases hat with ⟨r', g1, g2, g3⟩ | ⟨i, j1, j2, j3⟩
  · have hlt : 100 + j < ev_cl.length := (List.getElem?_eq_some_iff.mp g1).1
    have hle := ev_cl_len
    omega
  · have hij : i = j := by
      have z : 100 + j = 100 + i := j2
      omega
    subst hij
    exact ⟨hB, j1, j3⟩
theorem ev_one {D : va_G} {cl : List vw_C} {a : Nat} {e : va_E} {H : Heap} (h : va_at D cl (a, e) H) : va_P D cl [(a, e)] H := by
  intro k q hk
  cases k with
  | zero => cases hk; exact h
  | succ k => simp at hk
theorem ev_tyAt (G : ev_G) : (g_tys G)[0]? = some (g_dA G 0, .int) ∧ (g_tys G)[1]? = some (g_dA G 1, .boolean) ∧ (g_tys G)[2]? = some (g_dA G 2, .long) ∧ (g_tys G)[3]? = some (g_dA G 3, .object "java/lang/Object") := ⟨rfl, rfl, rfl, rfl⟩
theorem ev_arrSet {cA : ClassId} {vs : List Value} {k : Nat} (v : Value) (hk : k < vs.length) : (arrV cA vs.length (vp_V vs)).setSlot k v = arrV cA (vs.set k v).length (vp_V (vs.set k v)) := by
  rw [arrV_store, List.length_set]
  congr 1
  funext j
  exact vp_updV_set hk v j
theorem ev_arrEq {cA : ClassId} {n : Nat} {f g : Nat → Value} (h : ∀ j, j < n → f j = g j) : arrV cA n f = arrV cA n g := by
  unfold arrV
  congr 2
  funext j
  exact h j.val j.isLt
theorem ev_rep (cA : ClassId) (n : Nat) (x : Value) : some (arrV cA n (fun _ => x)) = some (arrV cA (List.replicate n x).length (vp_V (List.replicate n x))) := by
  rw [List.length_replicate]
  exact congrArg some (ev_arrEq fun j hj => by simp [vp_V, hj])
section HROWS
variable {l : Launch} {G : ev_G} {M : ev_M} {pc : Nat} {ls : List (Nat × Value)} {st : List Value} {h : ev_AH} {uc us : Nat} {Q : ev_Fin} {P : ev_Post}
theorem e_get {idx ci k a : Nat} {v : Value} (hd : decode (m_cc M) pc = .ok (.getfield idx, 3)) (hF : ev_FL (m_y M).cls idx ci k) (hv : ev_f h a ci k = some v) (K : Ev l G M (pc + 3) ls (v :: st) h uc us Q) : Ev l G M pc ls (.ref a :: st) h uc us Q := by
  intro p e s m args below meth c H locs cells slots lsA C hH hS hl h1 h2
  obtain ⟨hx, hb, hml, hown, hts, hr, hlk, hnm, htb, hst, hK, hB, hL⟩ := id C
  obtain ⟨fs, q1, q2⟩ := ev_f_of hv
  obtain ⟨r, ty, ref, ⟨f1, f3, -, -⟩, f2, f4, f5⟩ := hF
  obtain ⟨hBa, g2, g3⟩ := ev_obj hH q1 f1
  refine va_get (D := g_D G) (ci := ci) (v := v) (C := r.1) (T := r.2.1) (N := r.2.2) hx hb hts f3 hown hK (ev_one (e := .inr (ci, fs)) ⟨r, f1, g3⟩) 0 rfl f1 k f2 (hts _ f4) ?_ q2 hd (K p e s m args below meth c H locs cells slots lsA C hH hS hl h1 h2)
  intro x hx9
  rcases f5 with rfl | f5
  · exact hx9
  · exact u_same (hts _ f5) x hx9
theorem e_put {idx ci k a : Nat} {v w : Value} {ft : FieldType} (hd : decode (m_cc M) pc = .ok (.putfield idx, 3)) (hF : ev_FP (m_y M).cls idx ci k ft) (hv : ev_f h a ci k = some w) (hn : narrow ft v = v) (hfit : fits ft v = true) (K : ∀ h' : ev_AH, h' = ev_s h a k v → Ev l G M (pc + 3) ls st h' uc us Q) : Ev l G M pc ls (v :: .ref a :: st) h uc us Q := by
  intro p e s m args below meth c H locs cells slots lsA C hH hS hl h1 h2
  obtain ⟨hx, hb, hml, hown, hts, hr, hlk, hnm, htb, hst, hK, hB, hL⟩ := id C
  obtain ⟨fs, q1, q2⟩ := ev_f_of hv
  obtain ⟨r, ty, ref, ⟨f1, f3, f6, f7⟩, f2, f4, f5, hfin, f8⟩ := hF
  obtain ⟨hBa, g2, cell, p1, p2, p3, p4⟩ := ev_obj hH q1 f1
  have hap := va_apart (D := g_D G) (own := (m_y M).cls) hts f3 ty f6 f7 hK f1
  obtain ⟨hS', hfc, kC, hkC, hkind⟩ := hK.1 ci _ f1
  obtain ⟨cf, kf, fi, f, hi, hsl⟩ := hS' k f2
  have hlay := hts _ (f3 _ (u_in_lay f2))
  unfold u_lay at hlay
  rw [if_neg (by rw [hfin]; decide)] at hlay
  have hst2 := (u_facts hfc hkC (u_lays hts f3 f2) hi).1
  have h6 := u_store hfc hkC hkind hlay hi (f6 k f2) (by rw [f8]; exact hn) (by rw [f8]; exact hfit)
  have hsame : ∀ x, s.fieldFound? (r.2.1 k).1 (r.2.1 k).2.1 (r.2.1 k).2.2.1 = some x → s.fieldFound? ref (r.2.1 k).2.1 (r.2.1 k).2.2.1 = some x := by
    intro x hx9
    rcases f5 with rfl | f5
    · exact hx9
    · exact u_same (hts _ f5) x hx9
  have hlk9 : k < fs.length := (List.getElem?_eq_some_iff.mp q2).1
  refine W.putK hx hb (f := f) ⟨hown, hts _ f4, ⟨_, _, _, hsame _ hi⟩, hst2⟩ (by rw [p2]; exact h6) p1 p3 (by rw [hsl]; exact k2_hasslot (p4 k f2)) rfl rfl hd fun H' e1 e2 e3 => ?_
  rw [hsl] at e1
  exact K _ (ev_s_eq q1).symm p e s m args below meth c H' _ cells slots lsA C (hH.up hBa (Or.inl ⟨r, f1, by rw [List.length_set]; exact g2, t_OB.to (V := updV (vp_V fs) k v) ⟨_, e1, p2, p3, t_set p4 hap f2 v⟩ (fun j _ => vp_updV_set hlk9 v j)⟩) e3) (hS.put e2 e3 hBa) hl h1 h2
theorem e_putF {idx ci k a : Nat} {v w : Value} {ft : FieldType} (hd : decode (m_cc M) pc = .ok (.putfield idx, 3)) (hF : ev_FF (m_y M).cls idx ci k ft) (hin : (m_y M).name = "<init>") (hv : ev_f h a ci k = some w) (hn : narrow ft v = v) (hfit : fits ft v = true) (K : ∀ h' : ev_AH, h' = ev_s h a k v → Ev l G M (pc + 3) ls st h' uc us Q) : Ev l G M pc ls (v :: .ref a :: st) h uc us Q := by
  intro p e s m args below meth c H locs cells slots lsA C hH hS hl h1 h2
  obtain ⟨hx, hb, hml, hown, hts, hr, hlk, hnm, htb, hst, hK, hB, hL⟩ := id C
  obtain ⟨fs, q1, q2⟩ := ev_f_of hv
  obtain ⟨r, ty, ref, ⟨f1, f3, f6, f7⟩, f2, f4, rfl, hfin, hdecl, f8⟩ := hF
  obtain ⟨hBa, g2, cell, p1, p2, p3, p4⟩ := ev_obj hH q1 f1
  have hap := va_apart (D := g_D G) (own := (m_y M).cls) hts f3 ty f6 f7 hK f1
  obtain ⟨hS', hfc, kC, hkC, hkind⟩ := hK.1 ci _ f1
  obtain ⟨cf, kf, fi, f, hi, hsl⟩ := hS' k f2
  have hlay := hts _ (f3 _ (u_in_lay f2))
  unfold u_lay at hlay
  rw [if_pos hfin] at hlay
  have hst2 := (u_facts hfc hkC (u_lays hts f3 f2) hi).1
  have hcf : m.cls = cf := by
    obtain ⟨_, _, c', _, _, _, -, -, hf', -, -, -, hown2, -⟩ := Cond.laysFinal_spec hlay
    have e1 : c' = cf := by have := hi.symm.trans hf'; simp at this; exact this.1.symm
    rw [hdecl] at hown2
    rw [← e1]; exact Option.some.inj (hown.symm.trans hown2)
  have h6 := u_fits hfc hkC hkind (Or.inr hlay) hi (f6 k f2) (by rw [f8]; exact hn) (by rw [f8]; exact hfit)
  have hlk9 : k < fs.length := (List.getElem?_eq_some_iff.mp q2).1
  refine W.putFinK hx hb hown (hts _ f4) hi hst2 hcf (hnm.trans hin) (by rw [p2]; exact h6) p1 p3 (by rw [hsl]; exact k2_hasslot (p4 k f2)) rfl rfl hd fun H' e1 e2 e3 => ?_
  rw [hsl] at e1
  exact K _ (ev_s_eq q1).symm p e s m args below meth c H' _ cells slots lsA C (hH.up hBa (Or.inl ⟨r, f1, by rw [List.length_set]; exact g2, t_OB.to (V := updV (vp_V fs) k v) ⟨_, e1, p2, p3, t_set p4 hap f2 v⟩ (fun j _ => vp_updV_set hlk9 v j)⟩) e3) (hS.put e2 e3 hBa) hl h1 h2
theorem e_new {idx ci n uc' us' : Nat} {fs : List Value} (hd : decode (m_cc M) pc = .ok (.new idx, 3)) (hN : ev_NW (m_y M).cls idx ci fs) (hn : fs.length = n) (hc : 1 + uc' ≤ uc) (hs : n + us' ≤ us) (K : ∀ q : Nat, h q = none → ∀ h' : ev_AH, h' = ev_up h q (ci, fs) → Ev l G M (pc + 3) ls (.ref q :: st) h' uc' us' Q) : Ev l G M pc ls st h uc us Q := by
  intro p e s m args below meth c H locs cells slots lsA C hH hS hl h1 h2
  obtain ⟨hx, hb, hml, hown, hts, hr, hlk, hnm, htb, hst, hK, hB, hL⟩ := id C
  obtain ⟨r, ty, ⟨f1, f3, f6, f7⟩, n1, n2, n3, n4, n5⟩ := hN
  have hKn := hK.1 ci _ f1
  have hrc : (m_rm M).cells = m_mc M := rfl
  have hrs : (m_rm M).slots = m_ms M := rfl
  refine W.newcK hx hb hown (hts _ n1) (hts _ n2) (hts _ n3) rfl hd (by rw [hrc]; omega) (by rw [hrs]; omega) hKn.2.1 rfl fun H1 kC hkC e1 z1 o1 => ?_
  have hS1 : va_S (g_A G) s.heap H1 locs := ⟨Nat.le_trans hS.1 (by omega), fun x a1 a2 => (o1 x (Nat.lt_of_lt_of_le a1 hS.1)).trans (hS.2.1 x a1 a2), hS.2.2⟩
  exact K H.size (hH.fresh (Nat.le_refl _)) _ rfl p e s m args below meth c H1 locs (cells + 1) (slots + r.2.2) lsA C (hH.new (Nat.le_trans hB hS.1) (Or.inl ⟨r, f1, n4, (u_born ty hts f3 hKn hkC e1 f6).to n5⟩) o1) hS1 hl (by omega) (by omega)
theorem e_alen {j a n : Nat} {v : Int32} (hd : decode (m_cc M) pc = .ok (.arraylength, 1)) (hn : ev_n h a (100 + j) = some n) (hv : nI n = v) (K : Ev l G M (pc + 1) ls (.int v :: st) h uc us Q) : Ev l G M pc ls (.ref a :: st) h uc us Q := by
  intro p e s m args below meth c H locs cells slots lsA C hH hS hl h1 h2
  obtain ⟨hx, hb, hml, hown, hts, hr, hlk, hnm, htb, hst, hK, hB, hL⟩ := id C
  obtain ⟨vs, q1, q2⟩ := ev_n_of hn
  obtain ⟨hBa, hj, hc⟩ := ev_arr hH q1
  have ht := ev_tyAt G
  have hsz : (arrV (g_dA G j) vs.length (vp_V vs)).slots.size.toInt32 = v := by rw [arrV_size, q2]; exact hv
  rcases (show j = 0 ∨ j = 1 ∨ j = 2 ∨ j = 3 by omega) with rfl | rfl | rfl | rfl
  · exact W.alen hx hb hc ((hK.2 0 _ ht.1).1 vs.length (vp_V vs)) hsz rfl rfl hd (K p e s m args below meth c H locs cells slots lsA C hH hS hl h1 h2)
  · exact W.alen hx hb hc ((hK.2 1 _ ht.2.1).1 vs.length (vp_V vs)) hsz rfl rfl hd (K p e s m args below meth c H locs cells slots lsA C hH hS hl h1 h2)
  · exact W.alen hx hb hc ((hK.2 2 _ ht.2.2.1).1 vs.length (vp_V vs)) hsz rfl rfl hd (K p e s m args below meth c H locs cells slots lsA C hH hS hl h1 h2)
  · exact W.alen hx hb hc ((hK.2 3 _ ht.2.2.2).1 vs.length (vp_V vs)) hsz rfl rfl hd (K p e s m args below meth c H locs cells slots lsA C hH hS hl h1 h2)
theorem ev_in {i : Int32} {vs : List Value} {v : Value} (h0 : ¬ i < 0) (q : vs[i.toNatClampNeg]? = some v) {cA : ClassId} : ¬ (i < 0 ∨ (arrV cA vs.length (vp_V vs)).slots.size ≤ i.toNatClampNeg) ∧ (arrV cA vs.length (vp_V vs)).slots[i.toNatClampNeg]? = some v := by
  have hlt := (List.getElem?_eq_some_iff.mp q).1
  refine ⟨fun z => z.elim h0 (fun y => by rw [arrV_size] at y; omega), ?_⟩
  rw [arrV_read _ _ hlt]
  simp [vp_V, q]
theorem e_iald {a : Nat} {i : Int32} {x : Int32} (hd : decode (m_cc M) pc = .ok (.iaload, 1)) (h0 : ¬ i < 0) (hv : ev_f h a 100 i.toNatClampNeg = some (.int x)) (K : Ev l G M (pc + 1) ls (.int x :: st) h uc us Q) : Ev l G M pc ls (.int i :: .ref a :: st) h uc us Q := by
  intro p e s m args below meth c H locs cells slots lsA C hH hS hl h1 h2
  obtain ⟨hx, hb, hml, hown, hts, hr, hlk, hnm, htb, hst, hK, hB, hL⟩ := id C
  obtain ⟨vs, q1, q2⟩ := ev_f_of hv
  obtain ⟨hBa, hj, hc⟩ := ev_arr (j := 0) hH q1
  have ht := ev_tyAt G
  obtain ⟨i1, i2⟩ := ev_in (cA := g_dA G 0) h0 q2
  exact W.iald hx hb hc ((hK.2 0 _ ht.1).1 vs.length (vp_V vs)) (fun z => by cases z) i1 i2 rfl rfl hd (K p e s m args below meth c H locs cells slots lsA C hH hS hl h1 h2)
theorem e_zald {a : Nat} {i : Int32} {x : Int32} (hd : decode (m_cc M) pc = .ok (.baload, 1)) (h0 : ¬ i < 0) (hv : ev_f h a 101 i.toNatClampNeg = some (.int x)) (K : Ev l G M (pc + 1) ls (.int x :: st) h uc us Q) : Ev l G M pc ls (.int i :: .ref a :: st) h uc us Q := by
  intro p e s m args below meth c H locs cells slots lsA C hH hS hl h1 h2
  obtain ⟨hx, hb, hml, hown, hts, hr, hlk, hnm, htb, hst, hK, hB, hL⟩ := id C
  obtain ⟨vs, q1, q2⟩ := ev_f_of hv
  obtain ⟨hBa, hj, hc⟩ := ev_arr (j := 1) hH q1
  have ht := ev_tyAt G
  obtain ⟨i1, i2⟩ := ev_in (cA := g_dA G 1) h0 q2
  exact W.zald hx hb hc ((hK.2 1 _ ht.2.1).1 vs.length (vp_V vs)) (fun z => by cases z) i1 i2 rfl rfl hd (K p e s m args below meth c H locs cells slots lsA C hH hS hl h1 h2)
theorem e_lald {a : Nat} {i : Int32} {x : Int64} (hd : decode (m_cc M) pc = .ok (.laload, 1)) (h0 : ¬ i < 0) (hv : ev_f h a 102 i.toNatClampNeg = some (.long x)) (K : Ev l G M (pc + 1) ls (.long x :: st) h uc us Q) : Ev l G M pc ls (.int i :: .ref a :: st) h uc us Q := by
  intro p e s m args below meth c H locs cells slots lsA C hH hS hl h1 h2
  obtain ⟨hx, hb, hml, hown, hts, hr, hlk, hnm, htb, hst, hK, hB, hL⟩ := id C
  obtain ⟨vs, q1, q2⟩ := ev_f_of hv
  obtain ⟨hBa, hj, hc⟩ := ev_arr (j := 2) hH q1
  have ht := ev_tyAt G
  obtain ⟨i1, i2⟩ := ev_in (cA := g_dA G 2) h0 q2
  exact W.lald hx hb hc ((hK.2 2 _ ht.2.2.1).1 vs.length (vp_V vs)) (fun z => by cases z) i1 i2 rfl rfl hd (K p e s m args below meth c H locs cells slots lsA C hH hS hl h1 h2)
theorem e_iast {a : Nat} {i : Int32} {x : Int32} {w : Value} (hd : decode (m_cc M) pc = .ok (.iastore, 1)) (h0 : ¬ i < 0) (hv : ev_f h a 100 i.toNatClampNeg = some w) (K : ∀ h' : ev_AH, h' = ev_s h a i.toNatClampNeg (.int x) → Ev l G M (pc + 1) ls st h' uc us Q) : Ev l G M pc ls (.int x :: .int i :: .ref a :: st) h uc us Q := by
  intro p e s m args below meth c H locs cells slots lsA C hH hS hl h1 h2
  obtain ⟨hx, hb, hml, hown, hts, hr, hlk, hnm, htb, hst, hK, hB, hL⟩ := id C
  obtain ⟨vs, q1, q2⟩ := ev_f_of hv
  obtain ⟨hBa, hj, hc⟩ := ev_arr (j := 0) hH q1
  have ht := ev_tyAt G
  obtain ⟨i1, i2⟩ := ev_in (cA := g_dA G 0) h0 q2
  have hlt := (List.getElem?_eq_some_iff.mp q2).1
  refine W.iast hx hb hc ((hK.2 0 _ ht.1).1 vs.length (vp_V vs)) (fun z => by cases z) i1 rfl rfl hd fun H' e1 e2 e3 => ?_
  rw [ev_arrSet _ hlt] at e1
  exact K _ (ev_s_eq q1).symm p e s m args below meth c H' _ cells slots lsA C (hH.up hBa (Or.inr ⟨0, by omega, rfl, e1⟩) e3) (hS.put e2 e3 hBa) hl h1 h2
theorem e_zast {a : Nat} {i : Int32} {x : Int32} {w : Value} (hd : decode (m_cc M) pc = .ok (.bastore, 1)) (h0 : ¬ i < 0) (hv : ev_f h a 101 i.toNatClampNeg = some w) (K : ∀ h' : ev_AH, h' = ev_s h a i.toNatClampNeg (narrow .boolean (.int x)) → Ev l G M (pc + 1) ls st h' uc us Q) : Ev l G M pc ls (.int x :: .int i :: .ref a :: st) h uc us Q := by
  intro p e s m args below meth c H locs cells slots lsA C hH hS hl h1 h2
  obtain ⟨hx, hb, hml, hown, hts, hr, hlk, hnm, htb, hst, hK, hB, hL⟩ := id C
  obtain ⟨vs, q1, q2⟩ := ev_f_of hv
  obtain ⟨hBa, hj, hc⟩ := ev_arr (j := 1) hH q1
  have ht := ev_tyAt G
  obtain ⟨i1, i2⟩ := ev_in (cA := g_dA G 1) h0 q2
  have hlt := (List.getElem?_eq_some_iff.mp q2).1
  refine W.zast hx hb hc ((hK.2 1 _ ht.2.1).1 vs.length (vp_V vs)) (fun z => by cases z) i1 rfl rfl hd fun H' e1 e2 e3 => ?_
  rw [ev_arrSet _ hlt] at e1
  exact K _ (ev_s_eq q1).symm p e s m args below meth c H' _ cells slots lsA C (hH.up hBa (Or.inr ⟨1, by omega, rfl, e1⟩) e3) (hS.put e2 e3 hBa) hl h1 h2
theorem e_last {a : Nat} {i : Int32} {x : Int64} {w : Value} (hd : decode (m_cc M) pc = .ok (.lastore, 1)) (h0 : ¬ i < 0) (hv : ev_f h a 102 i.toNatClampNeg = some w) (K : ∀ h' : ev_AH, h' = ev_s h a i.toNatClampNeg (.long x) → Ev l G M (pc + 1) ls st h' uc us Q) : Ev l G M pc ls (.long x :: .int i :: .ref a :: st) h uc us Q := by
  intro p e s m args below meth c H locs cells slots lsA C hH hS hl h1 h2
  obtain ⟨hx, hb, hml, hown, hts, hr, hlk, hnm, htb, hst, hK, hB, hL⟩ := id C
  obtain ⟨vs, q1, q2⟩ := ev_f_of hv
  obtain ⟨hBa, hj, hc⟩ := ev_arr (j := 2) hH q1
  have ht := ev_tyAt G
  obtain ⟨i1, i2⟩ := ev_in (cA := g_dA G 2) h0 q2
  have hlt := (List.getElem?_eq_some_iff.mp q2).1
  refine W.last hx hb hc ((hK.2 2 _ ht.2.2.1).1 vs.length (vp_V vs)) (fun z => by cases z) i1 rfl rfl hd fun H' e1 e2 e3 => ?_
  rw [ev_arrSet _ hlt] at e1
  exact K _ (ev_s_eq q1).symm p e s m args below meth c H' _ cells slots lsA C (hH.up hBa (Or.inr ⟨2, by omega, rfl, e1⟩) e3) (hS.put e2 e3 hBa) hl h1 h2
theorem e_aald {a : Nat} {i : Int32} {v : Value} (hd : decode (m_cc M) pc = .ok (.aaload, 1)) (h0 : ¬ i < 0) (hv : ev_f h a 103 i.toNatClampNeg = some v) (K : Ev l G M (pc + 1) ls (v :: st) h uc us Q) : Ev l G M pc ls (.int i :: .ref a :: st) h uc us Q := by
  intro p e s m args below meth c H locs cells slots lsA C hH hS hl h1 h2
  obtain ⟨hx, hb, hml, hown, hts, hr, hlk, hnm, htb, hst, hK, hB, hL⟩ := id C
  obtain ⟨vs, q1, q2⟩ := ev_f_of hv
  obtain ⟨hBa, hj, hc⟩ := ev_arr (j := 3) hH q1
  have ht := ev_tyAt G
  obtain ⟨i1, i2⟩ := ev_in (cA := g_dA G 3) h0 q2
  exact W.aald hx hb hc ((hK.2 3 _ ht.2.2.2).1 vs.length (vp_V vs)) rfl (fun z => by cases z) i1 i2 rfl rfl hd (K p e s m args below meth c H locs cells slots lsA C hH hS hl h1 h2)
theorem e_aast {a v ci : Nat} {i : Int32} {w : Value} {fs : List Value} {r : vw_C} (hd : decode (m_cc M) pc = .ok (.aastore, 1)) (h0 : ¬ i < 0) (hv : ev_f h a 103 i.toNatClampNeg = some w) (ho : h v = some (ci, fs)) (hr : ev_cl[ci]? = some r) (hca : (r.1, "java/lang/Object") ∈ ev_casts) (K : ∀ h' : ev_AH, h' = ev_s h a i.toNatClampNeg (.ref v) → Ev l G M (pc + 1) ls st h' uc us Q) : Ev l G M pc ls (.ref v :: .int i :: .ref a :: st) h uc us Q := by
  intro p e s m args below meth c H locs cells slots lsA C hH hS hl h1 h2
  obtain ⟨hx, hb, hml, hown, hts, hrt, hlk, hnm, htb, hst, hK, hB, hL⟩ := id C
  obtain ⟨vs, q1, q2⟩ := ev_f_of hv
  obtain ⟨hBa, hj, hc⟩ := ev_arr (j := 3) hH q1
  obtain ⟨i1, i2⟩ := ev_in (cA := g_dA G 3) h0 q2
  have hlt := (List.getElem?_eq_some_iff.mp q2).1
  obtain ⟨-, -, cellV, g1, g2, g3, -⟩ := ev_obj hH ho hr
  have hcls := (hK.1 ci r hr).2
  obtain ⟨kA, comp, k1, k2, k3, -⟩ := (hK.2 3 _ (ev_tyAt G).2.2.2).2
  obtain ⟨kE, hkE, -⟩ := Vm.findClass_spec k3
  obtain ⟨c0, t1, f1, f2, f3⟩ := Cond.castable_spec (va_Nw.use (A := args) rfl (hL.2.2.2.2.2.2.2.2.2.1 _ hca))
  cases hcls.1.symm.trans f1
  cases k3.symm.trans f2
  obtain ⟨kC, hkC, -⟩ := hcls.2
  refine W.aast hx hb hc (fun q z => by cases z) (fun z => by cases z) k1 k2 rfl hkE ⟨h0, by rw [arrV_size]; exact hlt⟩ g1 (fun q z => by rw [g3] at z; cases z) (by rw [g2]; exact hkC) (by rw [g2]; exact f3) rfl rfl hd fun H' e1 e2 e3 => ?_
  rw [ev_arrSet _ hlt] at e1
  exact K _ (ev_s_eq q1).symm p e s m args below meth c H' _ cells slots lsA C (hH.up hBa (Or.inr ⟨3, by omega, rfl, e1⟩) e3) (hS.put e2 e3 hBa) hl h1 h2
theorem e_newa0 {i : Int32} {n uc' us' : Nat} (hd : decode (m_cc M) pc = .ok (.newarray .int, 2)) (hw : Cond.arrayClass .int ∈ ev_TB) (hi : nI n = i) (hn : n < 1000) (hc : 1 + uc' ≤ uc) (hs : n + us' ≤ us) (K : ∀ q : Nat, h q = none → ∀ h' : ev_AH, h' = (ev_up h q (100, List.replicate n (.int 0))) → Ev l G M (pc + 2) ls (.ref q :: st) h' uc' us' Q) : Ev l G M pc ls (.int i :: st) h uc us Q := by
  intro p e s m args below meth c H locs cells slots lsA C hH hS hl h1 h2
  obtain ⟨hx, hb, hml, hown, hts, hr, hlk, hnm, htb, hst, hK, hB, hL⟩ := id C
  subst hi
  have hrc : (m_rm M).cells = m_mc M := rfl
  have hrs : (m_rm M).slots = m_ms M := rfl
  have hN : (nI n).toNatClampNeg = n := nI_clamp (by omega)
  refine W.newa (atype := .int) hx hb (hts _ hw) rfl hd rfl (nI_pos (by omega)) (by rw [hN]; show n * _ ≤ _; simp [componentBytes, newarray.typeOf]; omega) (by rw [hrc]; omega) (by rw [hrs, hN]; omega) fun cA kA comp f1 f2 f3 => ?_
  rw [hN]
  have hcA : cA = g_dA G 0 := Option.some.inj (f1.symm.trans (hK.2 0 _ (ev_tyAt G).1).2)
  subst hcA
  generalize hH1 : H.push ({ cls := g_dA G 0, slots := Array.replicate n (defaultValue (newarray.typeOf .int)), vm := .none } : Cell) = H1
  have z1 : H1.size = H.size + 1 := by rw [← hH1, Array.size_push]
  have e1 : H1[H.size]? = some (arrV (g_dA G 0) n (fun _ => .int 0)) := by rw [← hH1, Array.getElem?_push_size, ← arrV_new]; rfl
  have o1 : ∀ q : Nat, q < H.size → H1[q]? = H[q]? := fun q hq => by rw [← hH1, Array.getElem?_push, if_neg (Nat.ne_of_lt hq)]
  have hS1 : va_S (g_A G) s.heap H1 locs := ⟨Nat.le_trans hS.1 (by omega), fun x a1 a2 => (o1 x (Nat.lt_of_lt_of_le a1 hS.1)).trans (hS.2.1 x a1 a2), hS.2.2⟩
  refine K H.size (hH.fresh (Nat.le_refl _)) _ rfl p e s m args below meth c H1 locs (cells + 1) (slots + n) lsA C (hH.new (Nat.le_trans hB hS.1) (Or.inr ⟨0, by omega, rfl, ?_⟩) o1) hS1 hl (by omega) (by omega)
  rw [e1]
  exact ev_rep _ _ _
theorem e_newa1 {i : Int32} {n uc' us' : Nat} (hd : decode (m_cc M) pc = .ok (.newarray .boolean, 2)) (hw : Cond.arrayClass .boolean ∈ ev_TB) (hi : nI n = i) (hn : n < 1000) (hc : 1 + uc' ≤ uc) (hs : n + us' ≤ us) (K : ∀ q : Nat, h q = none → ∀ h' : ev_AH, h' = (ev_up h q (101, List.replicate n (.int 0))) → Ev l G M (pc + 2) ls (.ref q :: st) h' uc' us' Q) : Ev l G M pc ls (.int i :: st) h uc us Q := by
  intro p e s m args below meth c H locs cells slots lsA C hH hS hl h1 h2
  obtain ⟨hx, hb, hml, hown, hts, hr, hlk, hnm, htb, hst, hK, hB, hL⟩ := id C
  subst hi
  have hrc : (m_rm M).cells = m_mc M := rfl
  have hrs : (m_rm M).slots = m_ms M := rfl
  have hN : (nI n).toNatClampNeg = n := nI_clamp (by omega)
  refine W.newa (atype := .boolean) hx hb (hts _ hw) rfl hd rfl (nI_pos (by omega)) (by rw [hN]; show n * _ ≤ _; simp [componentBytes, newarray.typeOf]; omega) (by rw [hrc]; omega) (by rw [hrs, hN]; omega) fun cA kA comp f1 f2 f3 => ?_
  rw [hN]
  have hcA : cA = g_dA G 1 := Option.some.inj (f1.symm.trans (hK.2 1 _ (ev_tyAt G).2.1).2)
  subst hcA
  generalize hH1 : H.push ({ cls := g_dA G 1, slots := Array.replicate n (defaultValue (newarray.typeOf .boolean)), vm := .none } : Cell) = H1
  have z1 : H1.size = H.size + 1 := by rw [← hH1, Array.size_push]
  have e1 : H1[H.size]? = some (arrV (g_dA G 1) n (fun _ => .int 0)) := by rw [← hH1, Array.getElem?_push_size, ← arrV_new]; rfl
  have o1 : ∀ q : Nat, q < H.size → H1[q]? = H[q]? := fun q hq => by rw [← hH1, Array.getElem?_push, if_neg (Nat.ne_of_lt hq)]
  have hS1 : va_S (g_A G) s.heap H1 locs := ⟨Nat.le_trans hS.1 (by omega), fun x a1 a2 => (o1 x (Nat.lt_of_lt_of_le a1 hS.1)).trans (hS.2.1 x a1 a2), hS.2.2⟩
  refine K H.size (hH.fresh (Nat.le_refl _)) _ rfl p e s m args below meth c H1 locs (cells + 1) (slots + n) lsA C (hH.new (Nat.le_trans hB hS.1) (Or.inr ⟨1, by omega, rfl, ?_⟩) o1) hS1 hl (by omega) (by omega)
  rw [e1]
  exact ev_rep _ _ _
theorem e_newa2 {i : Int32} {n uc' us' : Nat} (hd : decode (m_cc M) pc = .ok (.newarray .long, 2)) (hw : Cond.arrayClass .long ∈ ev_TB) (hi : nI n = i) (hn : n < 1000) (hc : 1 + uc' ≤ uc) (hs : n + us' ≤ us) (K : ∀ q : Nat, h q = none → ∀ h' : ev_AH, h' = (ev_up h q (102, List.replicate n (.long 0))) → Ev l G M (pc + 2) ls (.ref q :: st) h' uc' us' Q) : Ev l G M pc ls (.int i :: st) h uc us Q := by
  intro p e s m args below meth c H locs cells slots lsA C hH hS hl h1 h2
  obtain ⟨hx, hb, hml, hown, hts, hr, hlk, hnm, htb, hst, hK, hB, hL⟩ := id C
  subst hi
  have hrc : (m_rm M).cells = m_mc M := rfl
  have hrs : (m_rm M).slots = m_ms M := rfl
  have hN : (nI n).toNatClampNeg = n := nI_clamp (by omega)
  refine W.newa (atype := .long) hx hb (hts _ hw) rfl hd rfl (nI_pos (by omega)) (by rw [hN]; show n * _ ≤ _; simp [componentBytes, newarray.typeOf]; omega) (by rw [hrc]; omega) (by rw [hrs, hN]; omega) fun cA kA comp f1 f2 f3 => ?_
  rw [hN]
  have hcA : cA = g_dA G 2 := Option.some.inj (f1.symm.trans (hK.2 2 _ (ev_tyAt G).2.2.1).2)
  subst hcA
  generalize hH1 : H.push ({ cls := g_dA G 2, slots := Array.replicate n (defaultValue (newarray.typeOf .long)), vm := .none } : Cell) = H1
  have z1 : H1.size = H.size + 1 := by rw [← hH1, Array.size_push]
  have e1 : H1[H.size]? = some (arrV (g_dA G 2) n (fun _ => .long 0)) := by rw [← hH1, Array.getElem?_push_size, ← arrV_new]; rfl
  have o1 : ∀ q : Nat, q < H.size → H1[q]? = H[q]? := fun q hq => by rw [← hH1, Array.getElem?_push, if_neg (Nat.ne_of_lt hq)]
  have hS1 : va_S (g_A G) s.heap H1 locs := ⟨Nat.le_trans hS.1 (by omega), fun x a1 a2 => (o1 x (Nat.lt_of_lt_of_le a1 hS.1)).trans (hS.2.1 x a1 a2), hS.2.2⟩
  refine K H.size (hH.fresh (Nat.le_refl _)) _ rfl p e s m args below meth c H1 locs (cells + 1) (slots + n) lsA C (hH.new (Nat.le_trans hB hS.1) (Or.inr ⟨2, by omega, rfl, ?_⟩) o1) hS1 hl (by omega) (by omega)
  rw [e1]
  exact ev_rep _ _ _
end HROWS
end
section
/-! CALLS AND ENDS -/
/-- what a call of M' by M needs of the tables and of the room; n arguments -/
def ev_room (M M' : ev_M) : Prop := (m_rm M').frames + 1 ≤ (m_rm M).frames ∧ 8 + (m_nL M' + 11) + (m_rm M').locals ≤ (m_rm M).locals
def ev_CV (M : ev_M) (idx : Nat) (M' : ev_M) (ci n : Nat) : Prop := (∃ r : vw_C, ev_cl[ci]? = some r ∧ (m_y M').cls = r.1) ∧ m_ht M' = [] ∧ Cond.methodLink (m_y M).cls idx (m_y M') ∈ ev_TB ∧ Cond.instanceMethod (m_y M') ∈ ev_TB ∧ Cond.selects (m_y M').cls (m_y M') (m_y M') ∈ ev_TB ∧ Cond.initialized (m_y M').cls ∈ ev_TB ∧ m_code M' ∈ ev_TB ∧
  ((m_y M').cls ≠ "java/lang/invoke/MethodHandle" ∧ (m_y M').cls ≠ "java/lang/invoke/VarHandle" ∧ (parseMethodDescriptor (m_y M').desc).map (fun d => d.parameters.length) = some n) ∧ ev_room M M'
def ev_CS (M : ev_M) (idx : Nat) (M' : ev_M) (n : Nat) : Prop := m_ht M' = [] ∧ Cond.methodLink (m_y M).cls idx (m_y M') ∈ ev_TB ∧ Cond.static (m_y M') ∈ ev_TB ∧ Cond.initialized (m_y M').cls ∈ ev_TB ∧ m_code M' ∈ ev_TB ∧
  ((m_y M').cls ≠ "java/lang/invoke/MethodHandle" ∧ (m_y M').cls ≠ "java/lang/invoke/VarHandle" ∧ (parseMethodDescriptor (m_y M').desc).map (fun d => d.parameters.length) = some n) ∧ ev_room M M'
theorem m_code_nil {M : ev_M} (ht : m_ht M = []) : m_code M = .code (m_y M) (m_cc M) (m_nL M) (m_rt M) := by
  unfold m_code
  unfold m_ht at ht
  rw [ht]
theorem ev_goodW {M : ev_M} (hc : m_code M ∈ ev_TB) : GoodIn ev_TB (m_code M :: ev_TB) := by
  intro w hw
  rcases List.mem_cons.mp hw with rfl | hw
  · exact ev_good _ hc
  · exact ev_good _ hw
section CALLS
variable {l : Launch} {G : ev_G} {M M' : ev_M} {pc : Nat} {ls : List (Nat × Value)} {st as stk : List Value} {h : ev_AH} {uc us uc' us' : Nat} {Q : ev_Fin} {P P' : ev_Post}
/-- what the caller hands over -/
theorem ev_hand {p : Program} {s : State} {m : MethodId} {args : Array Value} {meth : Method} {c : Code} {H : Heap} {locs : List Loc} (C : ev_C l G M p s m args meth c) (hH : ev_H G h H) (hS : va_S (g_A G) s.heap H locs) (as : List Value) (U : State) (hU : U.heap = H) (hW : s.WarmedH U.vm) : ev_Pc l G as h as.toArray U := by
  obtain ⟨hx, hb, hml, hown, hts, hr, hlk, hnm, htb, hst, hK, hB, hL⟩ := C
  refine ⟨rfl, hst, by rw [hU]; exact hH, va_K.moved hW.alike hK, by rw [hU]; exact Nat.le_trans hB hS.1, ?_⟩
  rw [hU]
  exact ev_Low.moved hW (hL.kept hS.2.1)
/-- behind a call -/
theorem ev_back {p : Program} {e : Env} {s : State} {m : MethodId} {args : Array Value} {below : List Frame} {meth : Method} {c : Code} {H : Heap} {locs : List Loc} {cells slots : Nat} {lsA : Array Slot} {a : Array Value}
    (hr : vx_Run p l e (m_rm M) s m args below meth c H locs cells slots (m_mc M') (m_ms M') (F0 m pc lsA stk) st (ev_Qc G P' a) (ev_XC G P') (g_A G))
    (C : ev_C l G M p s m args meth c) (hS : va_S (g_A G) s.heap H locs) (hl : lv_has lsA (m_nL M) ls) (h1 : cells + uc ≤ m_mc M) (h2 : slots + us ≤ m_ms M) (hc : m_mc M' + uc' ≤ uc) (hs : m_ms M' + us' ≤ us)
    (K : ∀ (v : Option Value) (h' : ev_AH), P' (.inl v) h' → Ev l G M (pc + 3) ls (v.toList ++ st) h' uc' us' Q)
    (X : ∀ (E : String) (h' : ev_AH), P' (.inr E) h' → EvX l G M pc ls h' uc' us' Q E) : W p l e (m_rm M) s m args below meth c H locs cells slots (Q below args s) (F0 m pc lsA stk) := by
  intro T hT Y
  rcases hr T hT Y with ⟨v, st₀, t, T', L, h0, Y', hL', e1, e2, ⟨v', h', hv, hP, hH', hF⟩, stp⟩ | ⟨q, st₀, t, T', L, E, ce, h0, Y', hL', e1, e2, ⟨h', hP, hH', hF⟩, hce, hcv, hcl, stp⟩
  · cases hv
    have hS' : va_S (g_A G) s.heap T'.heap (locs ++ L) := (vx_keep h0 e1 hS (fun _ _ z => z) (fun _ z => z) hL' hF).2.2
    obtain ⟨t2, a1, b1⟩ := K v h' hP p e s m args below meth c T'.heap (locs ++ L) (cells + m_mc M') (slots + m_ms M') lsA C (by rw [e1]; exact hH') hS' hl (by omega) (by omega) T' rfl Y'
    exact ⟨t2, stp t2 a1, b1⟩
  · have hS' : va_S (g_A G) s.heap T'.heap (locs ++ L) := (vx_keep h0 e1 hS (fun _ _ z => z) (fun _ z => z) hL' hF).2.2
    obtain ⟨t2, a1, b1⟩ := X E h' hP p e s m args below meth c T'.heap (locs ++ L) (cells + m_mc M') (slots + m_ms M') lsA st q ce C (by rw [e1]; exact hH') hS' hl (by omega) (by omega) (by rw [e1]; exact hce) hcv hcl T' rfl Y'
    exact ⟨t2, stp.trans a1, b1⟩
theorem e_callV {b idx ci n : Nat} (hd : decode (m_cc M) pc = .ok (.invokevirtual idx, 3)) (hw : ev_CV M idx M' ci n) (hn : as.length = n) (hstk : as.reverse ++ .ref b :: st = stk) (hob : ∃ fs : List Value, h b = some (ci, fs)) (hm : Mt l G M' (.ref b :: as) h P') (hsum : (st.map fun v => v.category).sum ≤ 8) (hc : m_mc M' + uc' ≤ uc) (hs : m_ms M' + us' ≤ us)
    (K : ∀ (v : Option Value) (h' : ev_AH), P' (.inl v) h' → Ev l G M (pc + 3) ls (v.toList ++ st) h' uc' us' Q)
    (X : ∀ (E : String) (h' : ev_AH), P' (.inr E) h' → EvX l G M pc ls h' uc' us' Q E) : Ev l G M pc ls stk h uc us Q := by
  intro p e s m args below meth c H locs cells slots lsA C hH hS hl h1 h2
  obtain ⟨hx, hb, hml, hown, hts, hr, hlk, hnm, htb, hst, hK, hB, hL⟩ := id C
  obtain ⟨⟨r, r1, r2⟩, w0, w1, w2, w3, w4, w5, w6, w7⟩ := hw
  obtain ⟨fs, ho⟩ := hob
  obtain ⟨-, -, cellB, g1, g2, g3, -⟩ := ev_obj hH ho r1
  have hcode := m_code_nil w0
  have hm' : vx_Met l (m_y M') (m_code M' :: ev_TB) (m_rm M') (ev_Pc l G (.ref b :: as) h) (ev_Qc G P') (ev_XC G P') (m_mc M') (m_ms M') (g_A G) := hm
  have cw : CallW (m_rm M) s args (m_y M).cls (m_y M').cls idx (m_y M') (m_cc M') (m_nL M') (m_rt M') (m_code M' :: ev_TB) (m_rm M') (m_mc M') (m_ms M') n :=
    ⟨callB_of n hts (ev_goodW w5) (by rw [hcode]) rfl rfl (hts _ w4) (hts _ w1) w6 w7, hts _ w2, hts _ w3⟩
  have hrec : ∃ cell : Cell, H[b]? = some cell ∧ cell.vm.isStatics = false ∧ s.vm.findClass (m_y M').cls = some cell.cls := ⟨cellB, g1, by rw [g3]; rfl, by rw [r2, g2]; exact (hK.1 ci r r1).2.1⟩
  refine ev_back (st := st) (vx_runV (As := as) (rest := st) (b := b) (cc := m_cc M) (nL := m_nL M) ⟨hx, hb, hml, hown, hts⟩ hm' cw ⟨ev_Pc.blind, hrec, fun U hU hW => ev_hand C hH hS _ U hU hW⟩ rfl hn hl.1 hstk.symm (lv_room hsum) hd ⟨?_, ?_⟩) C hS hl h1 h2 hc hs K X
  · show cells + _ ≤ m_mc M
    omega
  · show slots + _ ≤ m_ms M
    omega
theorem e_callS {idx n : Nat} (hd : decode (m_cc M) pc = .ok (.invokestatic idx, 3)) (hw : ev_CS M idx M' n) (hn : as.length = n) (hstk : as.reverse ++ st = stk) (hm : Mt l G M' as h P') (hsum : (st.map fun v => v.category).sum ≤ 8) (hc : m_mc M' + uc' ≤ uc) (hs : m_ms M' + us' ≤ us)
    (K : ∀ (v : Option Value) (h' : ev_AH), P' (.inl v) h' → Ev l G M (pc + 3) ls (v.toList ++ st) h' uc' us' Q)
    (X : ∀ (E : String) (h' : ev_AH), P' (.inr E) h' → EvX l G M pc ls h' uc' us' Q E) : Ev l G M pc ls stk h uc us Q := by
  intro p e s m args below meth c H locs cells slots lsA C hH hS hl h1 h2
  obtain ⟨hx, hb, hml, hown, hts, hr, hlk, hnm, htb, hst, hK, hB, hL⟩ := id C
  obtain ⟨w0, w1, w2, w4, w5, w6, w7⟩ := hw
  have hcode := m_code_nil w0
  have hm' : vx_Met l (m_y M') (m_code M' :: ev_TB) (m_rm M') (ev_Pc l G as h) (ev_Qc G P') (ev_XC G P') (m_mc M') (m_ms M') (g_A G) := hm
  have cw : CallB (m_rm M) s args (m_y M).cls idx (m_y M') (m_cc M') (m_nL M') (m_rt M') (m_code M' :: ev_TB) (m_rm M') (m_mc M') (m_ms M') n ∧ (Cond.static (m_y M')).before args s = true :=
    ⟨callB_of n hts (ev_goodW w5) (by rw [hcode]) rfl rfl (hts _ w4) (hts _ w1) w6 w7, hts _ w2⟩
  refine ev_back (st := st) (vx_runS (As := as) (rest := st) (cc := m_cc M) (nL := m_nL M) ⟨hx, hb, hml, hown, hts⟩ hm' cw ⟨ev_Pc.blind, fun U hU hW => ev_hand C hH hS _ U hU hW⟩ rfl hn hl.1 hstk.symm (lv_room hsum) hd ⟨?_, ?_⟩) C hS hl h1 h2 hc hs K X
  · show cells + _ ≤ m_mc M
    omega
  · show slots + _ ≤ m_ms M
    omega
/-- it leaves this method too -/
theorem e_out {E : String} (hnone : ∀ x ∈ tableOf (m_ht M), covers x pc = false) (hP : P (.inr E) h) : EvX l G M pc ls h uc us (ev_fin G M P) E := by
  intro p e s m args below meth c H locs cells slots lsA st q ce C hH hS hl h1 h2 hce hcv hcl
  obtain ⟨hx, hb, hml, hown, hts, hr, hlk, hnm, htb, hst, hK, hB, hL⟩ := id C
  exact vx_out (by rw [htb]; exact hnone) hlk hce hcv hcl (fun t ht hvm => ⟨h, hP, by rw [ht]; exact hH, hS.F ht⟩) hS.2.2 (by omega) (by omega)
theorem e_iret {v : Int32} (hd : decode (m_cc M) pc = .ok (.ireturn, 1)) (hr : m_rt M = some .int) (hP : P (.inl (some (.int v))) h) : Ev l G M pc ls [.int v] h uc us (ev_fin G M P) := by
  intro p e s m args below meth c H locs cells slots lsA C hH hS hl h1 h2
  obtain ⟨hx, hb, hml, hown, hts, hrt, hlk, hnm, htb, hst, hK, hB, hL⟩ := id C
  refine vx_ret (W.widen (k := m_mc M) (n := m_ms M) (by omega) (by omega) ?_)
  exact W.iret hx hb (hrt.trans hr) (fun t ht hW => ⟨_, h, rfl, hP, by rw [ht]; exact hH, hS.F ht⟩) hS.2.2 hd
theorem e_zret {v : Int32} (hd : decode (m_cc M) pc = .ok (.ireturn, 1)) (hr : m_rt M = some .boolean) (hn : narrow .boolean (.int v) = .int v) (hP : P (.inl (some (.int v))) h) : Ev l G M pc ls [.int v] h uc us (ev_fin G M P) := by
  intro p e s m args below meth c H locs cells slots lsA C hH hS hl h1 h2
  obtain ⟨hx, hb, hml, hown, hts, hrt, hlk, hnm, htb, hst, hK, hB, hL⟩ := id C
  refine vx_ret (W.widen (k := m_mc M) (n := m_ms M) (by omega) (by omega) ?_)
  exact W.zret hx hb (hrt.trans hr) hn (fun t ht hW => ⟨_, h, rfl, hP, by rw [ht]; exact hH, hS.F ht⟩) hS.2.2 hd
theorem e_lret {v : Int64} (hd : decode (m_cc M) pc = .ok (.lreturn, 1)) (hr : m_rt M = some .long) (hP : P (.inl (some (.long v))) h) : Ev l G M pc ls [.long v] h uc us (ev_fin G M P) := by
  intro p e s m args below meth c H locs cells slots lsA C hH hS hl h1 h2
  obtain ⟨hx, hb, hml, hown, hts, hrt, hlk, hnm, htb, hst, hK, hB, hL⟩ := id C
  refine vx_ret (W.widen (k := m_mc M) (n := m_ms M) (by omega) (by omega) ?_)
  exact W.lret hx hb (hrt.trans hr) (fun t ht hW => ⟨_, h, rfl, hP, by rw [ht]; exact hH, hS.F ht⟩) hS.2.2 hd
theorem e_vret (hd : decode (m_cc M) pc = .ok (.return_, 1)) (hr : m_rt M = none) (hP : P (.inl none) h) : Ev l G M pc ls [] h uc us (ev_fin G M P) := by
  intro p e s m args below meth c H locs cells slots lsA C hH hS hl h1 h2
  obtain ⟨hx, hb, hml, hown, hts, hrt, hlk, hnm, htb, hst, hK, hB, hL⟩ := id C
  refine vx_ret (W.widen (k := m_mc M) (n := m_ms M) (by omega) (by omega) ?_)
  exact W.vret hx hb (hrt.trans hr) (fun t ht hW => ⟨_, h, rfl, hP, by rw [ht]; exact hH, hS.F ht⟩) hS.2.2 hd
theorem e_aret {a : Nat} {rt : FieldType} (hd : decode (m_cc M) pc = .ok (.areturn, 1)) (hr : m_rt M = some rt) (hrt2 : (∃ n, rt = .object n) ∨ ∃ t, rt = .array t) (hP : P (.inl (some (.ref a))) h) : Ev l G M pc ls [.ref a] h uc us (ev_fin G M P) := by
  intro p e s m args below meth c H locs cells slots lsA C hH hS hl h1 h2
  obtain ⟨hx, hb, hml, hown, hts, hrt, hlk, hnm, htb, hst, hK, hB, hL⟩ := id C
  refine vx_ret (W.widen (k := m_mc M) (n := m_ms M) (by omega) (by omega) ?_)
  exact W.aret hx hb (hrt.trans hr) hrt2 (Or.inr ⟨a, rfl⟩) (fun t ht hW => ⟨_, h, rfl, hP, by rw [ht]; exact hH, hS.F ht⟩) hS.2.2 hd
end CALLS
def ev_CI (M : ev_M) (idx : Nat) (M' : ev_M) (n : Nat) : Prop := m_ht M' = [] ∧ m_rt M' = none ∧ (m_y M').name = "<init>" ∧ Cond.methodLink (m_y M).cls idx (m_y M') ∈ ev_TB ∧ Cond.instanceMethod (m_y M') ∈ ev_TB ∧ Cond.initialized (m_y M').cls ∈ ev_TB ∧ m_code M' ∈ ev_TB ∧
  ((m_y M').cls ≠ "java/lang/invoke/MethodHandle" ∧ (m_y M').cls ≠ "java/lang/invoke/VarHandle" ∧ (parseMethodDescriptor (m_y M').desc).map (fun d => d.parameters.length) = some n) ∧ ev_room M M'
section CALLI
variable {l : Launch} {G : ev_G} {M M' : ev_M} {pc : Nat} {ls : List (Nat × Value)} {st as stk : List Value} {h : ev_AH} {uc us uc' us' : Nat} {Q : ev_Fin} {P P' : ev_Post}
theorem Mt.met (hm : Mt l G M as h P) (hno : ∀ (E : String) (h' : ev_AH), ¬ P (.inr E) h') : Met l (m_y M) (m_code M :: ev_TB) (m_rm M) (ev_Pc l G as h) (ev_Qc G P) (m_mc M) (m_ms M) (g_A G) := by
  intro p e ha hc hk s m args below hf happ hP hK
  obtain ⟨n, o, a1, a2, a3, a4⟩ := hm p e ha hc hk s m args below hf happ hP hK
  refine ⟨n, o, a1, a2, a3, ?_⟩
  rcases a4 with a4 | ⟨q, -, E, ce, L, ⟨h', hx, -⟩, -⟩
  · exact a4
  · exact absurd hx (hno E h')
theorem e_callI {b idx n : Nat} (hd : decode (m_cc M) pc = .ok (.invokespecial idx, 3)) (hw : ev_CI M idx M' n) (hn : as.length = n) (hstk : as.reverse ++ .ref b :: st = stk) (hm : Mt l G M' (.ref b :: as) h P') (hno : ∀ (E : String) (h' : ev_AH), ¬ P' (.inr E) h') (hsum : (st.map fun v => v.category).sum ≤ 8) (hc : m_mc M' + uc' ≤ uc) (hs : m_ms M' + us' ≤ us)
    (K : ∀ (v : Option Value) (h' : ev_AH), P' (.inl v) h' → Ev l G M (pc + 3) ls (v.toList ++ st) h' uc' us' Q) : Ev l G M pc ls stk h uc us Q := by
  intro p e s m args below meth c H locs cells slots lsA C hH hS hl h1 h2
  obtain ⟨hx, hb, hml, hown, hts, hr, hlk, hnm, htb, hst, hK, hB, hL⟩ := id C
  obtain ⟨w0, w01, w02, w1, w2, w4, w5, w6, w7⟩ := hw
  have hcode := m_code_nil w0
  rw [w01] at hcode
  have cw : CallB (m_rm M) s args (m_y M).cls idx (m_y M') (m_cc M') (m_nL M') none (m_code M' :: ev_TB) (m_rm M') (m_mc M') (m_ms M') n ∧ (m_y M').name = "<init>" ∧ (Cond.instanceMethod (m_y M')).before args s = true :=
    ⟨callB_of n hts (ev_goodW w5) (by rw [hcode]) rfl rfl (hts _ w4) (hts _ w1) w6 w7, w02, hts _ w2⟩
  have hrun := va_runI (As := as) (rest := st) (b := b) (g := F0 m pc lsA stk) (below := below) (meth := meth) (e := e) (locs := locs) (cells := cells) (slots := slots) (cc := m_cc M) (nL := m_nL M) ⟨hx, hb, hml, hown, hts⟩ (Mt.met hm hno) cw ⟨ev_Pc.blind, fun U hU hW => ev_hand C hH hS _ U hU hW⟩ rfl hn hl.1 hstk.symm (lv_room hsum) hd ⟨by show cells + _ ≤ m_mc M; omega, by show slots + _ ≤ m_ms M; omega⟩
  intro T hT Y
  obtain ⟨v, st₀, t, T', L, h0, Y', hL', e1, e2, ⟨v', h', hv, hP, hH', hF⟩, stp⟩ := hrun T hT Y
  cases hv
  have hS' : va_S (g_A G) s.heap T'.heap (locs ++ L) := (vx_keep h0 e1 hS (fun _ _ z => z) (fun _ z => z) hL' hF).2.2
  obtain ⟨t2, a1, b1⟩ := K v h' hP p e s m args below meth c T'.heap (locs ++ L) (cells + m_mc M') (slots + m_ms M') lsA C (by rw [e1]; exact hH') hS' hl (by omega) (by omega) T' rfl Y'
  exact ⟨t2, stp t2 a1, b1⟩
/-- Object's constructor -/
theorem e_obj {idx a : Nat} (hd : decode (m_cc M) pc = .ok (.invokespecial idx, 3)) (w1 : Cond.methodLink (m_y M).cls idx objectInit ∈ ev_TB) (w2 : Cond.instanceMethod objectInit ∈ ev_TB) (w3 : Cond.code objectInit ⟨#[0xb1]⟩ 1 none ∈ ev_TB) (hf : 1 ≤ (m_rm M).frames) (hlo : (st.map fun v => v.category).sum + 12 ≤ (m_rm M).locals) (K : Ev l G M (pc + 3) ls st h uc us Q) : Ev l G M pc ls (.ref a :: st) h uc us Q := by
  intro p e s m args below meth c H locs cells slots lsA C hH hS hl h1 h2
  obtain ⟨hx, hb, hml, hown, hts, hr, hlk, hnm, htb, hst, hK, hB, hL⟩ := id C
  exact W.objInit hx hb hown (hts _ w1) (hts _ w2) (hts _ w3) rfl (by rw [hml]; exact hl.1) rfl hd hf (by show 2 * 0 + _ + 12 ≤ _; omega) (K p e s m args below meth c H locs cells slots lsA C hH hS hl h1 h2)
end CALLI
end
section
/-! TYPED ENDS: the answer's type is known -/
abbrev ev_pi (A : Int32 → ev_AH → Prop) (X : String → ev_AH → Prop) : ev_Post := fun r h => match r with
  | .inl (some (.int v)) => A v h
  | .inr E => X E h
  | _ => False
abbrev ev_pl (A : Int64 → ev_AH → Prop) (X : String → ev_AH → Prop) : ev_Post := fun r h => match r with
  | .inl (some (.long v)) => A v h
  | .inr E => X E h
  | _ => False
abbrev ev_pr (A : Nat → ev_AH → Prop) (X : String → ev_AH → Prop) : ev_Post := fun r h => match r with
  | .inl (some (.ref v)) => A v h
  | .inr E => X E h
  | _ => False
abbrev ev_pv (A : ev_AH → Prop) (X : String → ev_AH → Prop) : ev_Post := fun r h => match r with
  | .inl none => A h
  | .inr E => X E h
  | _ => False
theorem ev_pi_of {A : Int32 → ev_AH → Prop} {X : String → ev_AH → Prop} {v : Option Value} {h : ev_AH} (q : ev_pi A X (.inl v) h) : ∃ r : Int32, v = some (.int r) ∧ A r h := by
  unfold ev_pi at q
  split at q
  · rename_i e; cases e; exact ⟨_, rfl, q⟩
  · rename_i e; cases e
  · exact q.elim
theorem ev_pl_of {A : Int64 → ev_AH → Prop} {X : String → ev_AH → Prop} {v : Option Value} {h : ev_AH} (q : ev_pl A X (.inl v) h) : ∃ r : Int64, v = some (.long r) ∧ A r h := by
  unfold ev_pl at q
  split at q
  · rename_i e; cases e; exact ⟨_, rfl, q⟩
  · rename_i e; cases e
  · exact q.elim
theorem ev_pr_of {A : Nat → ev_AH → Prop} {X : String → ev_AH → Prop} {v : Option Value} {h : ev_AH} (q : ev_pr A X (.inl v) h) : ∃ r : Nat, v = some (.ref r) ∧ A r h := by
  unfold ev_pr at q
  split at q
  · rename_i e; cases e; exact ⟨_, rfl, q⟩
  · rename_i e; cases e
  · exact q.elim
theorem ev_pv_of {A : ev_AH → Prop} {X : String → ev_AH → Prop} {v : Option Value} {h : ev_AH} (q : ev_pv A X (.inl v) h) : v = none ∧ A h := by
  unfold ev_pv at q
  split at q
  · rename_i e; cases e; exact ⟨rfl, q⟩
  · rename_i e; cases e
  · exact q.elim
section TYPED
variable {l : Launch} {G : ev_G} {M M' : ev_M} {pc : Nat} {ls : List (Nat × Value)} {st as stk : List Value} {h : ev_AH} {uc us uc' us' : Nat} {Q : ev_Fin} {P P' : ev_Post} {X : String → ev_AH → Prop}
theorem e_callVi {A : Int32 → ev_AH → Prop} {b idx ci n : Nat} (hd : decode (m_cc M) pc = .ok (.invokevirtual idx, 3)) (hw : ev_CV M idx M' ci n) (hn : as.length = n) (hstk : as.reverse ++ .ref b :: st = stk) (hob : ∃ fs : List Value, h b = some (ci, fs)) (hm : Mt l G M' (.ref b :: as) h (ev_pi A X)) (hsum : (st.map fun v => v.category).sum ≤ 8) (hc : m_mc M' + uc' ≤ uc) (hs : m_ms M' + us' ≤ us) (K : ∀ (r : Int32) (h' : ev_AH), A r h' → Ev l G M (pc + 3) ls (.int r :: st) h' uc' us' Q) (KX : ∀ (E : String) (h' : ev_AH), X E h' → EvX l G M pc ls h' uc' us' Q E) : Ev l G M pc ls stk h uc us Q :=
  e_callV hd hw hn hstk hob hm hsum hc hs (fun v h' q => by obtain ⟨r, rfl, q⟩ := ev_pi_of q; exact K r h' q) (fun E h' q => KX E h' q)
theorem e_callSi {A : Int32 → ev_AH → Prop} {idx n : Nat} (hd : decode (m_cc M) pc = .ok (.invokestatic idx, 3)) (hw : ev_CS M idx M' n) (hn : as.length = n) (hstk : as.reverse ++ st = stk) (hm : Mt l G M' as h (ev_pi A X)) (hsum : (st.map fun v => v.category).sum ≤ 8) (hc : m_mc M' + uc' ≤ uc) (hs : m_ms M' + us' ≤ us) (K : ∀ (r : Int32) (h' : ev_AH), A r h' → Ev l G M (pc + 3) ls (.int r :: st) h' uc' us' Q) (KX : ∀ (E : String) (h' : ev_AH), X E h' → EvX l G M pc ls h' uc' us' Q E) : Ev l G M pc ls stk h uc us Q :=
  e_callS hd hw hn hstk hm hsum hc hs (fun v h' q => by obtain ⟨r, rfl, q⟩ := ev_pi_of q; exact K r h' q) (fun E h' q => KX E h' q)
theorem e_callVl {A : Int64 → ev_AH → Prop} {b idx ci n : Nat} (hd : decode (m_cc M) pc = .ok (.invokevirtual idx, 3)) (hw : ev_CV M idx M' ci n) (hn : as.length = n) (hstk : as.reverse ++ .ref b :: st = stk) (hob : ∃ fs : List Value, h b = some (ci, fs)) (hm : Mt l G M' (.ref b :: as) h (ev_pl A X)) (hsum : (st.map fun v => v.category).sum ≤ 8) (hc : m_mc M' + uc' ≤ uc) (hs : m_ms M' + us' ≤ us) (K : ∀ (r : Int64) (h' : ev_AH), A r h' → Ev l G M (pc + 3) ls (.long r :: st) h' uc' us' Q) (KX : ∀ (E : String) (h' : ev_AH), X E h' → EvX l G M pc ls h' uc' us' Q E) : Ev l G M pc ls stk h uc us Q :=
  e_callV hd hw hn hstk hob hm hsum hc hs (fun v h' q => by obtain ⟨r, rfl, q⟩ := ev_pl_of q; exact K r h' q) (fun E h' q => KX E h' q)
theorem e_callSl {A : Int64 → ev_AH → Prop} {idx n : Nat} (hd : decode (m_cc M) pc = .ok (.invokestatic idx, 3)) (hw : ev_CS M idx M' n) (hn : as.length = n) (hstk : as.reverse ++ st = stk) (hm : Mt l G M' as h (ev_pl A X)) (hsum : (st.map fun v => v.category).sum ≤ 8) (hc : m_mc M' + uc' ≤ uc) (hs : m_ms M' + us' ≤ us) (K : ∀ (r : Int64) (h' : ev_AH), A r h' → Ev l G M (pc + 3) ls (.long r :: st) h' uc' us' Q) (KX : ∀ (E : String) (h' : ev_AH), X E h' → EvX l G M pc ls h' uc' us' Q E) : Ev l G M pc ls stk h uc us Q :=
  e_callS hd hw hn hstk hm hsum hc hs (fun v h' q => by obtain ⟨r, rfl, q⟩ := ev_pl_of q; exact K r h' q) (fun E h' q => KX E h' q)
theorem e_callVr {A : Nat → ev_AH → Prop} {b idx ci n : Nat} (hd : decode (m_cc M) pc = .ok (.invokevirtual idx, 3)) (hw : ev_CV M idx M' ci n) (hn : as.length = n) (hstk : as.reverse ++ .ref b :: st = stk) (hob : ∃ fs : List Value, h b = some (ci, fs)) (hm : Mt l G M' (.ref b :: as) h (ev_pr A X)) (hsum : (st.map fun v => v.category).sum ≤ 8) (hc : m_mc M' + uc' ≤ uc) (hs : m_ms M' + us' ≤ us) (K : ∀ (r : Nat) (h' : ev_AH), A r h' → Ev l G M (pc + 3) ls (.ref r :: st) h' uc' us' Q) (KX : ∀ (E : String) (h' : ev_AH), X E h' → EvX l G M pc ls h' uc' us' Q E) : Ev l G M pc ls stk h uc us Q :=
  e_callV hd hw hn hstk hob hm hsum hc hs (fun v h' q => by obtain ⟨r, rfl, q⟩ := ev_pr_of q; exact K r h' q) (fun E h' q => KX E h' q)
theorem e_callSr {A : Nat → ev_AH → Prop} {idx n : Nat} (hd : decode (m_cc M) pc = .ok (.invokestatic idx, 3)) (hw : ev_CS M idx M' n) (hn : as.length = n) (hstk : as.reverse ++ st = stk) (hm : Mt l G M' as h (ev_pr A X)) (hsum : (st.map fun v => v.category).sum ≤ 8) (hc : m_mc M' + uc' ≤ uc) (hs : m_ms M' + us' ≤ us) (K : ∀ (r : Nat) (h' : ev_AH), A r h' → Ev l G M (pc + 3) ls (.ref r :: st) h' uc' us' Q) (KX : ∀ (E : String) (h' : ev_AH), X E h' → EvX l G M pc ls h' uc' us' Q E) : Ev l G M pc ls stk h uc us Q :=
  e_callS hd hw hn hstk hm hsum hc hs (fun v h' q => by obtain ⟨r, rfl, q⟩ := ev_pr_of q; exact K r h' q) (fun E h' q => KX E h' q)
theorem e_callVv {A : ev_AH → Prop} {b idx ci n : Nat} (hd : decode (m_cc M) pc = .ok (.invokevirtual idx, 3)) (hw : ev_CV M idx M' ci n) (hn : as.length = n) (hstk : as.reverse ++ .ref b :: st = stk) (hob : ∃ fs : List Value, h b = some (ci, fs)) (hm : Mt l G M' (.ref b :: as) h (ev_pv A X)) (hsum : (st.map fun v => v.category).sum ≤ 8) (hc : m_mc M' + uc' ≤ uc) (hs : m_ms M' + us' ≤ us) (K : ∀ h' : ev_AH, A h' → Ev l G M (pc + 3) ls st h' uc' us' Q) (KX : ∀ (E : String) (h' : ev_AH), X E h' → EvX l G M pc ls h' uc' us' Q E) : Ev l G M pc ls stk h uc us Q :=
  e_callV hd hw hn hstk hob hm hsum hc hs (fun v h' q => by obtain ⟨rfl, q⟩ := ev_pv_of q; exact K h' q) (fun E h' q => KX E h' q)
theorem e_callSv {A : ev_AH → Prop} {idx n : Nat} (hd : decode (m_cc M) pc = .ok (.invokestatic idx, 3)) (hw : ev_CS M idx M' n) (hn : as.length = n) (hstk : as.reverse ++ st = stk) (hm : Mt l G M' as h (ev_pv A X)) (hsum : (st.map fun v => v.category).sum ≤ 8) (hc : m_mc M' + uc' ≤ uc) (hs : m_ms M' + us' ≤ us) (K : ∀ h' : ev_AH, A h' → Ev l G M (pc + 3) ls st h' uc' us' Q) (KX : ∀ (E : String) (h' : ev_AH), X E h' → EvX l G M pc ls h' uc' us' Q E) : Ev l G M pc ls stk h uc us Q :=
  e_callS hd hw hn hstk hm hsum hc hs (fun v h' q => by obtain ⟨rfl, q⟩ := ev_pv_of q; exact K h' q) (fun E h' q => KX E h' q)
theorem e_callIv {A : ev_AH → Prop} {b idx n : Nat} (hd : decode (m_cc M) pc = .ok (.invokespecial idx, 3)) (hw : ev_CI M idx M' n) (hn : as.length = n) (hstk : as.reverse ++ .ref b :: st = stk) (hm : Mt l G M' (.ref b :: as) h (ev_pv A (fun _ _ => False))) (hsum : (st.map fun v => v.category).sum ≤ 8) (hc : m_mc M' + uc' ≤ uc) (hs : m_ms M' + us' ≤ us) (K : ∀ h' : ev_AH, A h' → Ev l G M (pc + 3) ls st h' uc' us' Q) : Ev l G M pc ls stk h uc us Q :=
  e_callI hd hw hn hstk hm (fun _ _ q => q) hsum hc hs (fun v h' q => by obtain ⟨rfl, q⟩ := ev_pv_of q; exact K h' q)
theorem e_topi {x : Int32} (K : ∀ y : Int32, y = x → Ev l G M pc ls (.int y :: st) h uc us Q) : Ev l G M pc ls (.int x :: st) h uc us Q := K x rfl
theorem e_topl {x : Int64} (K : ∀ y : Int64, y = x → Ev l G M pc ls (.long y :: st) h uc us Q) : Ev l G M pc ls (.long x :: st) h uc us Q := K x rfl
end TYPED
end
section
/-! MISC ROWS: statics, casts, the script, constants, Math, arrays of references -/
section MISC
variable {l : Launch} {G : ev_G} {M : ev_M} {pc : Nat} {ls : List (Nat × Value)} {st : List Value} {h : ev_AH} {uc us uc' us' : Nat} {Q : ev_Fin} {P : ev_Post}
theorem e_gets {idx : Nat} (hd : decode (m_cc M) pc = .ok (.getstatic idx, 3)) (hw : Cond.fieldLink (m_y M).cls idx "java/util/ArrayList" "DEFAULTCAPACITY_EMPTY_ELEMENTDATA" "[Ljava/lang/Object;" ∈ ev_TB) (K : Ev l G M (pc + 3) ls (.ref (g_t0 G) :: st) h uc us Q) : Ev l G M pc ls st h uc us Q := by
  intro p e s m args below meth c H locs cells slots lsA C hH hS hl h1 h2
  obtain ⟨hx, hb, hml, hown, hts, hr, hlk, hnm, htb, hst, hK, hB, hL⟩ := id C
  exact va_gets hx hb hL.1 hS hown (hts _ hw) (fun _ z => z) hd (K p e s m args below meth c H locs cells slots lsA C hH hS hl h1 h2)
theorem e_alen0 (hd : decode (m_cc M) pc = .ok (.arraylength, 1)) (K : Ev l G M (pc + 1) ls (.int 0 :: st) h uc us Q) : Ev l G M pc ls (.ref (g_t0 G) :: st) h uc us Q := by
  intro p e s m args below meth c H locs cells slots lsA C hH hS hl h1 h2
  obtain ⟨hx, hb, hml, hown, hts, hr, hlk, hnm, htb, hst, hK, hB, hL⟩ := id C
  exact va_tlen hx hb hL.2.1 hS rfl hd (K p e s m args below meth c H locs cells slots lsA C hH hS hl h1 h2)
theorem e_slen (hd : decode (m_cc M) pc = .ok (.arraylength, 1)) (K : Ev l G M (pc + 1) ls (.int (nI (g_sL G)) :: st) h uc us Q) : Ev l G M pc ls (.ref (g_sb G) :: st) h uc us Q := by
  intro p e s m args below meth c H locs cells slots lsA C hH hS hl h1 h2
  obtain ⟨hx, hb, hml, hown, hts, hr, hlk, hnm, htb, hst, hK, hB, hL⟩ := id C
  have hX := hL.2.2.2.2.2.2.1
  have hsb := hL.2.2.2.2.2.2.2.1
  exact va_slen hx hb hX (by omega) (by unfold g_A; omega) hS hd (K p e s m args below meth c H locs cells slots lsA C hH hS hl h1 h2)
theorem e_sld {i : Int32} (hd : decode (m_cc M) pc = .ok (.iaload, 1)) (hi : vp_in i (g_sL G)) (K : Ev l G M (pc + 1) ls (.int (g_xs G i.toNatClampNeg) :: st) h uc us Q) : Ev l G M pc ls (.int i :: .ref (g_sb G) :: st) h uc us Q := by
  intro p e s m args below meth c H locs cells slots lsA C hH hS hl h1 h2
  obtain ⟨hx, hb, hml, hown, hts, hr, hlk, hnm, htb, hst, hK, hB, hL⟩ := id C
  have hX := hL.2.2.2.2.2.2.1
  have hsb := hL.2.2.2.2.2.2.2.1
  exact va_sld hx hb hX (by omega) (by unfold g_A; omega) hS hi hd (K p e s m args below meth c H locs cells slots lsA C hH hS hl h1 h2)
theorem e_ldc {idx : Nat} {v : Int32} (hd : decode (m_cc M) pc = .ok (.ldc idx, 2)) (hw : Cond.constant (m_y M).cls idx v ∈ ev_TB) (K : Ev l G M (pc + 2) ls (.int v :: st) h uc us Q) : Ev l G M pc ls st h uc us Q := by
  intro p e s m args below meth c H locs cells slots lsA C hH hS hl h1 h2
  obtain ⟨hx, hb, hml, hown, hts, hr, hlk, hnm, htb, hst, hK, hB, hL⟩ := id C
  exact lv_ldc hx hb hown (hts _ hw) hd (K p e s m args below meth c H locs cells slots lsA C hH hS hl h1 h2)
theorem e_ldc2 {idx : Nat} {v : Int64} (hd : decode (m_cc M) pc = .ok (.ldc2_w idx, 3)) (hw : Cond.constantLong (m_y M).cls idx v ∈ ev_TB) (K : Ev l G M (pc + 3) ls (.long v :: st) h uc us Q) : Ev l G M pc ls st h uc us Q := by
  intro p e s m args below meth c H locs cells slots lsA C hH hS hl h1 h2
  obtain ⟨hx, hb, hml, hown, hts, hr, hlk, hnm, htb, hst, hK, hB, hL⟩ := id C
  exact lv_ldc2 hx hb hown (hts _ hw) hd (K p e s m args below meth c H locs cells slots lsA C hH hS hl h1 h2)
def ev_CC (own : String) (idx ci : Nat) : Prop := ∃ r : vw_C, ev_cl[ci]? = some r ∧ Cond.classLink own idx r.1 ∈ ev_TB
theorem e_cast {idx a ci : Nat} (hd : decode (m_cc M) pc = .ok (.checkcast idx, 3)) (hw : ev_CC (m_y M).cls idx ci) (ho : ∃ fs : List Value, h a = some (ci, fs)) (K : Ev l G M (pc + 3) ls (.ref a :: st) h uc us Q) : Ev l G M pc ls (.ref a :: st) h uc us Q := by
  intro p e s m args below meth c H locs cells slots lsA C hH hS hl h1 h2
  obtain ⟨hx, hb, hml, hown, hts, hr, hlk, hnm, htb, hst, hK, hB, hL⟩ := id C
  obtain ⟨r, r1, r2⟩ := hw
  obtain ⟨fs, ho⟩ := ho
  obtain ⟨-, -, cellB, g1, g2, g3, -⟩ := ev_obj hH ho r1
  have hKn := (hK.1 ci r r1).2
  exact va_castS hx hb hown (hts _ r2) hKn ⟨cellB, g1, by rw [g3]; rfl, by rw [g2]; exact hKn.1⟩ hd (K p e s m args below meth c H locs cells slots lsA C hH hS hl h1 h2)
theorem e_aastN {a : Nat} {i : Int32} {w : Value} (hd : decode (m_cc M) pc = .ok (.aastore, 1)) (h0 : ¬ i < 0) (hv : ev_f h a 103 i.toNatClampNeg = some w) (K : ∀ h' : ev_AH, h' = ev_s h a i.toNatClampNeg .null → Ev l G M (pc + 1) ls st h' uc us Q) : Ev l G M pc ls (.null :: .int i :: .ref a :: st) h uc us Q := by
  intro p e s m args below meth c H locs cells slots lsA C hH hS hl h1 h2
  obtain ⟨hx, hb, hml, hown, hts, hr, hlk, hnm, htb, hst, hK, hB, hL⟩ := id C
  obtain ⟨vs, q1, q2⟩ := ev_f_of hv
  obtain ⟨hBa, hj, hc⟩ := ev_arr (j := 3) hH q1
  obtain ⟨i1, i2⟩ := ev_in (cA := g_dA G 3) h0 q2
  have hlt := (List.getElem?_eq_some_iff.mp q2).1
  refine va_WaastN (C := "java/lang/Object") hx hb hc ((hK.2 3 _ (ev_tyAt G).2.2.2).1 vs.length (vp_V vs)) (fun z => by cases z) i1 rfl rfl hd fun H' e1 e2 e3 => ?_
  rw [ev_arrSet _ hlt] at e1
  exact K _ (ev_s_eq q1).symm p e s m args below meth c H' _ cells slots lsA C (hH.up hBa (Or.inr ⟨3, by omega, rfl, e1⟩) e3) (hS.put e2 e3 hBa) hl h1 h2
theorem e_anew {idx n : Nat} {i : Int32} (hd : decode (m_cc M) pc = .ok (.anewarray idx, 3)) (hw : Cond.classLink (m_y M).cls idx "java/lang/Object" ∈ ev_TB) (hi : nI n = i) (hn : n < 1000) (hc : 1 + uc' ≤ uc) (hs : n + us' ≤ us) (K : ∀ q : Nat, h q = none → ∀ h' : ev_AH, h' = ev_up h q (103, List.replicate n .null) → Ev l G M (pc + 3) ls (.ref q :: st) h' uc' us' Q) : Ev l G M pc ls (.int i :: st) h uc us Q := by
  intro p e s m args below meth c H locs cells slots lsA C hH hS hl h1 h2
  obtain ⟨hx, hb, hml, hown, hts, hr, hlk, hnm, htb, hst, hK, hB, hL⟩ := id C
  subst hi
  have hrc : (m_rm M).cells = m_mc M := rfl
  have hrs : (m_rm M).slots = m_ms M := rfl
  have hN : (nI n).toNatClampNeg = n := nI_clamp (by omega)
  have hAO := hL.2.2.2.2.2.2.2.2.2.2.2.1
  refine W.anew hx hb hown (hts _ hw) (va_AO.use hAO) rfl hd rfl (nI_pos (by omega)) (by rw [hN]; omega) (by rw [hrc]; omega) (by rw [hrs, hN]; omega) fun cA kA comp f1 f2 f3 f4 => ?_
  rw [hN]
  obtain ⟨-, -, -, -, -, k4⟩ := (hK.2 3 _ (ev_tyAt G).2.2.2).2
  have hcA : cA = g_dA G 3 := Option.some.inj (f1.symm.trans k4)
  subst hcA
  generalize hH1 : H.push ({ cls := g_dA G 3, slots := Array.replicate n .null, vm := .none } : Cell) = H1
  have z1 : H1.size = H.size + 1 := by rw [← hH1, Array.size_push]
  have e1 : H1[H.size]? = some (arrV (g_dA G 3) n (fun _ => .null)) := by rw [← hH1, Array.getElem?_push_size, ← arrV_new]
  have o1 : ∀ q : Nat, q < H.size → H1[q]? = H[q]? := fun q hq => by rw [← hH1, Array.getElem?_push, if_neg (Nat.ne_of_lt hq)]
  have hS1 : va_S (g_A G) s.heap H1 locs := ⟨Nat.le_trans hS.1 (by omega), fun x a1 a2 => (o1 x (Nat.lt_of_lt_of_le a1 hS.1)).trans (hS.2.1 x a1 a2), hS.2.2⟩
  refine K H.size (hH.fresh (Nat.le_refl _)) _ rfl p e s m args below meth c H1 locs (cells + 1) (slots + n) lsA C (hH.new (Nat.le_trans hB hS.1) (Or.inr ⟨3, by omega, rfl, ?_⟩) o1) hS1 hl (by omega) (by omega)
  rw [e1]
  exact ev_rep _ _ _
theorem e_mmin {idx : Nat} {x y : Int32} (hd : decode (m_cc M) pc = .ok (.invokestatic idx, 3)) (w1 : Cond.methodLink (m_y M).cls idx Lib.Math.min.name ∈ ev_TB) (w2 : Cond.static Lib.Math.min.name ∈ ev_TB) (w3 : Cond.initialized "java/lang/Math" ∈ ev_TB) (w4 : Cond.code Lib.Math.min.name Lib.Math.min.code 2 (some .int) ∈ ev_TB) (hf : 1 ≤ (m_rm M).frames) (hlo : (st.map fun v => v.category).sum + 13 ≤ (m_rm M).locals) (K : Ev l G M (pc + 3) ls (.int (if y < x then y else x) :: st) h uc us Q) : Ev l G M pc ls (.int y :: .int x :: st) h uc us Q := by
  intro p e s m args below meth c H locs cells slots lsA C hH hS hl h1 h2
  obtain ⟨hx, hb, hml, hown, hts, hr, hlk, hnm, htb, hst, hK, hB, hL⟩ := id C
  exact va_mmin hx hb (by rw [hml, hl.1]) hown (hts _ w1) (hts _ w2) (hts _ w3) (hts _ w4) hf hlo (by show cells ≤ m_mc M; omega) (by show slots ≤ m_ms M; omega) hd (K p e s m args below meth c H locs cells slots lsA C hH hS hl h1 h2)
theorem e_mmax {idx : Nat} {x y : Int32} (hd : decode (m_cc M) pc = .ok (.invokestatic idx, 3)) (w1 : Cond.methodLink (m_y M).cls idx Lib.Math.max.name ∈ ev_TB) (w2 : Cond.static Lib.Math.max.name ∈ ev_TB) (w3 : Cond.initialized "java/lang/Math" ∈ ev_TB) (w4 : Cond.code Lib.Math.max.name Lib.Math.max.code 2 (some .int) ∈ ev_TB) (hf : 1 ≤ (m_rm M).frames) (hlo : (st.map fun v => v.category).sum + 13 ≤ (m_rm M).locals) (K : Ev l G M (pc + 3) ls (.int (if x < y then y else x) :: st) h uc us Q) : Ev l G M pc ls (.int y :: .int x :: st) h uc us Q := by
  intro p e s m args below meth c H locs cells slots lsA C hH hS hl h1 h2
  obtain ⟨hx, hb, hml, hown, hts, hr, hlk, hnm, htb, hst, hK, hB, hL⟩ := id C
  exact va_mmax hx hb (by rw [hml, hl.1]) hown (hts _ w1) (hts _ w2) (hts _ w3) (hts _ w4) hf hlo (by show cells ≤ m_mc M; omega) (by show slots ≤ m_ms M; omega) hd (K p e s m args below meth c H locs cells slots lsA C hH hS hl h1 h2)
end MISC
theorem ev_out {x : Int32} (n : Nat) (h : ∀ k, k < n → ¬ x = nI k) (hn : n < 2 ^ 31 := by decide) : x.toInt < 0 ∨ ((n : Int) - 1) < x.toInt := by
  rcases Int.lt_or_le x.toInt 0 with q | q
  · exact Or.inl q
  · refine Or.inr ?_
    rcases Int.lt_or_le ((n : Int) - 1) x.toInt with r | r
    · exact r
    · obtain ⟨j, hj, e⟩ := vp_in_of (vp_in_iff.mpr ⟨q, by omega⟩) hn
      exact absurd e (h j hj)
end
section
/-! THROWING AND CATCHING; methods of the JDK, methods with a table -/
def ev_ens : List String := ["java/lang/RuntimeException", "java/lang/Exception"]
/-- 'throw new cls(text)' in M: the pool's places, the words, the room -/
def ev_TH (M : ev_M) (ik is ic : Nat) (cls text : String) : Prop := Bundle.fit cls = true ∧ Cond.classLink (m_y M).cls ik cls ∈ ev_TB ∧ Cond.initialized cls ∈ ev_TB ∧ ((m_y M).cls, is, text) ∈ ev_strs ∧
  (∀ w ∈ vx_atS (m_y M).cls ic cls ev_ens, w ∈ ev_TB ∨ (∃ q ∈ ev_casts, w = .castable q.1 q.2) ∨ ∃ x ∈ ev_decls, w = .declares x) ∧ (∀ w ∈ Cond.classLink (m_y M).cls ik cls :: Cond.initialized cls :: vx_atS (m_y M).cls ic cls ev_ens, vx_ot w = true) ∧ 6 ≤ (m_rm M).frames ∧ 82 ≤ (m_rm M).locals
theorem ev_ens_fit : ∀ n ∈ ev_ens, Bundle.fit n = true := by decide +kernel
section THROW
variable {l : Launch} {G : ev_G} {M M' : ev_M} {pc : Nat} {ls : List (Nat × Value)} {st as stk : List Value} {h : ev_AH} {uc us uc' us' : Nat} {Q : ev_Fin} {P P' : ev_Post}
theorem e_throwS {ik is ic : Nat} {cls text : String} (d0 : decode (m_cc M) pc = .ok (.new ik, 3)) (d3 : decode (m_cc M) (pc + 3) = .ok (.dup, 1)) (d4 : decode (m_cc M) (pc + 4) = .ok (.ldc is, 2)) (d6 : decode (m_cc M) (pc + 6) = .ok (.invokespecial ic, 3)) (d9 : decode (m_cc M) (pc + 9) = .ok (.athrow, 1))
    (hw : ev_TH M ik is ic cls text) (hc : 1 ≤ uc) (hs : 6 ≤ us) (hP : P (.inr cls) h) (hno : m_ht M = [] := by rfl) : Ev l G M pc ls [] h uc us (ev_fin G M P) := by
  intro p e s m args below meth c H locs cells slots lsA C hH hS hl h1 h2
  obtain ⟨hx, hb, hml, hown, hts, hr, hlk, hnm, htb, hst, hK, hB, hL⟩ := id C
  obtain ⟨w0, w1, w2, w3, w4, w5, w6, w7⟩ := hw
  obtain ⟨l1, l2, l3, l4, l5, l6, l7, l8, l9, l10, l11, l12, l13, l14⟩ := hL
  obtain ⟨sa, hsa⟩ := l5 _ w3
  have hrc : (m_rm M).cells = m_mc M := rfl
  have hrs : (m_rm M).slots = m_ms M := rfl
  refine vx_throwS (A := g_A G) (names := ev_ens) (text := text) (sa := sa) hx hb hst hown w0 ev_ens_fit (hts _ w1) (hts _ w2) hsa ?_ w5 l3 l4 hS (by rw [hml]; exact hl.1) d0 d3 d4 d6 d9 ?_ ?_ ?_ (by rw [hrc]; omega) (by rw [hrs]; omega) hlk ?_ hS.2.2 (by omega) (by omega)
  · intro w hw
    rcases w4 w hw with z | ⟨q, z, rfl⟩ | ⟨x, z, rfl⟩
    · exact hts _ z
    · exact va_Nw.use rfl (l10 _ z)
    · exact va_Nw.use rfl (l14 _ z)
  · rw [htb, hno]
    intro x hx9
    cases hx9
  · show 2 + 3 < _
    omega
  · show 0 + (13 * 3 + 43) ≤ _
    omega
  · intro t _ z1 z2
    exact ⟨h, hP, hH.keep z2, Nat.le_trans hS.1 z1, fun q a1 a2 => (z2 q (Nat.lt_of_lt_of_le a1 hS.1)).trans (hS.2.1 q a1 a2)⟩
/-- caught by the row x of this method's table -/
theorem e_catch {E : String} (pre : List (Nat × Nat × Nat × Nat)) (x : Nat × Nat × Nat × Nat) (suf : List (Nat × Nat × Nat × Nat)) (hsplit : m_ht M = pre ++ x :: suf)
    (hpass : ∀ z ∈ pre, z.2.2.2 ≠ 0 ∧ ∃ nm : String, Cond.classLink (m_y M).cls z.2.2.2 nm ∈ ev_TB ∧ (E, nm) ∈ ev_nocasts) (hcov : covers ⟨x.1, x.2.1, x.2.2.1, x.2.2.2⟩ pc = true) (h0 : x.2.2.2 ≠ 0)
    (hlink : Cond.classLink (m_y M).cls x.2.2.2 E ∈ ev_TB) (hcast : (E, E) ∈ ev_casts) (K : ∀ q : Nat, Ev l G M x.2.2.1 ls [.ref q] h uc us Q) : EvX l G M pc ls h uc us Q E := by
  intro p e s m args below meth c H locs cells slots lsA st q ce C hH hS hl h1 h2 hce hcv hcl
  obtain ⟨hx, hb, hml, hown, hts, hr, hlk, hnm, htb, hst, hK, hB, hL⟩ := id C
  obtain ⟨l1, l2, l3, l4, l5, l6, l7, l8, l9, l10, l11, l12, l13, l14⟩ := hL
  refine vx_catch (own := (m_y M).cls) (name := E) (E := E) hown (tableOf pre) ⟨x.1, x.2.1, x.2.2.1, x.2.2.2⟩ (tableOf suf) (by rw [htb, hsplit]; simp [tableOf]) ?_ hcov h0 (hts _ hlink) (va_Nw.use rfl (l10 _ hcast)) hce hcv hcl (K q p e s m args below meth c H locs cells slots lsA C hH hS hl h1 h2)
  intro z hz
  obtain ⟨y, hy, rfl⟩ := List.mem_map.mp hz
  obtain ⟨y1, nm, y2, y3⟩ := hpass y hy
  exact Or.inr ⟨y1, nm, hts _ y2, l11 _ y3⟩
/-- the walk from the entry gives the contract: a method with a table -/
theorem Mt.ofH {as : List Value} (hy : plainName (m_y M).cls = true) (ht : ∃ q r, m_ht M = q :: r) (hn : (lg_sl as).length ≤ m_nL M) (K : Ev l G M 0 (lv_args 0 as) [] h (m_mc M) (m_ms M) (ev_fin G M P)) : Mt l G M as h P := by
  obtain ⟨q0, r0, ht⟩ := ht
  have hcode : m_code M = .codeWith (m_y M) (m_cc M) (m_nL M) (m_rt M) (m_ht M) := by
    unfold m_code
    unfold m_ht at ht
    rw [ht]
  unfold Mt
  rw [hcode]
  refine vx_ofWH (cc := m_cc M) (maxL := m_nL M) (ret := m_rt M) (hh := m_ht M) hy rfl ?_
  intro p e s m args below meth c s₁ B hml hv
  obtain ⟨rfl, hst, hH, hK, hB, hL⟩ := hv
  have hts := atoms_spec (ws := Cond.codeWith (m_y M) (m_cc M) (m_nL M) (m_rt M) (m_ht M) :: ev_TB) B.pre
  have htb : c.exceptionTable.toList = tableOf (m_ht M) := vx_table (x := m_y M) B (hts _ List.mem_cons_self)
  have hl := lv_entry as (n := m_nL M) hn
  rw [lg_entry_eq]
  exact K p e s m _ below meth c s.heap [] 0 0 _ ⟨B.exec, B.bytes, hml, findClass_of_methodNamed B.named, fun w hw => hts w (List.mem_cons_of_mem _ hw), B.returns, B.notSynchronized, (name_of_methodNamed B.named B.method).1, htb, hst, hK, hB, hL⟩ hH va_S.rf hl (by omega) (by omega)
end THROW
theorem ev_ofWJ {l : Launch} {y : MethodName} {ws ws' : List Cond} {rm : Room} {Pc : Array Value → State → Prop} {Qc : Array Value → State → Outcome → State → Prop} {XC : String → State → State → Prop} {mc ms : Nat} {free : Addr → Prop} {cc : ByteArray} {maxL : Nat} {ret : Option FieldType}
    (hy : plainFor y = true) (hw : ws = Cond.code y cc maxL ret :: ws')
    (body : ∀ p e s m args below meth c s₁, BodyLoose p l y (headSpec ws rm) cc maxL ret e s m args below meth c s₁ → c.maxLocals = maxL → (∀ x ∈ c.exceptionTable.toList, False) → Pc args s →
      W p l e (headSpec ws rm).room s m args below meth c s.heap [] 0 0 (vx_MQ below Qc XC args s mc ms free) (entryFrame m args maxL)) : vx_Met l y ws rm Pc Qc XC mc ms free := by
  refine MetFree.of_bodySF (code := cc) (maxLocals := maxL) (ret := ret) hy ?_ ?_
  · intro args s m h hn
    obtain ⟨meth, c, h1, h2, h3, h4, h5, h6, -, -⟩ := Cond.code_spec hn (atoms_spec (ws := ws) h _ (by rw [hw]; exact List.mem_cons_self))
    exact ⟨meth, c, h1, h2, h3, h4, h5, h6⟩
  · intro p e s m args below meth c s₁ B hml hP _
    have hh0 : s₁.heap = s.heap := by rw [B.state]; rfl
    have ht : ∀ x ∈ c.exceptionTable.toList, False := by
      obtain ⟨meth9, c9, h1, h2, -, -, -, -, h7, -⟩ := Cond.code_spec B.named (atoms_spec (ws := ws) B.pre _ (by rw [hw]; exact List.mem_cons_self))
      cases Option.some.inj (h1.symm.trans B.method)
      cases Option.some.inj (h2.symm.trans (Stand.of_body B).code)
      intro x hx
      rw [Array.isEmpty_iff.mp h7] at hx
      cases hx
    obtain ⟨t, a1, o, b1, b2, b3⟩ := body p e s m args below meth c s₁ B hml ht hP s₁ hh0 (Stand.of_body B)
    exact ⟨t, o, a1, b1, b2, b3⟩
/-- .. a method of the JDK's -/
theorem Mt.ofJ {l : Launch} {G : ev_G} {M : ev_M} {h : ev_AH} {P : ev_Post} {as : List Value} (hy : plainFor (m_y M) = true) (ht : m_ht M = []) (hn : (lg_sl as).length ≤ m_nL M) (K : Ev l G M 0 (lv_args 0 as) [] h (m_mc M) (m_ms M) (ev_fin G M P)) : Mt l G M as h P := by
  have hcode : m_code M = .code (m_y M) (m_cc M) (m_nL M) (m_rt M) := by
    unfold m_code
    unfold m_ht at ht
    rw [ht]
  unfold Mt
  rw [hcode]
  refine ev_ofWJ (cc := m_cc M) (maxL := m_nL M) (ret := m_rt M) hy rfl ?_
  intro p e s m args below meth c s₁ B hml htab hv
  obtain ⟨rfl, hst, hH, hK, hB, hL⟩ := hv
  have hts := atoms_spec (ws := Cond.code (m_y M) (m_cc M) (m_nL M) (m_rt M) :: ev_TB) B.pre
  have htb : c.exceptionTable.toList = tableOf (m_ht M) := by
    rw [ht]
    cases q : c.exceptionTable.toList with
    | nil => rfl
    | cons x xs => exact (htab x (by rw [q]; exact List.mem_cons_self)).elim
  have hl := lv_entry as (n := m_nL M) hn
  rw [lg_entry_eq]
  exact K p e s m _ below meth c s.heap [] 0 0 _ ⟨B.exec, B.bytes, hml, findClass_of_methodNamed B.named, fun w hw => hts w (List.mem_cons_of_mem _ hw), B.returns, B.notSynchronized, (name_of_methodNamed B.named B.method).1, htb, hst, hK, hB, hL⟩ hH va_S.rf hl (by omega) (by omega)
/-- a static call of a method with a table -/
def ev_CW (M : ev_M) (idx : Nat) (M' : ev_M) (n : Nat) : Prop := (∃ q r, m_ht M' = q :: r) ∧ Cond.methodLink (m_y M).cls idx (m_y M') ∈ ev_TB ∧ Cond.static (m_y M') ∈ ev_TB ∧ Cond.initialized (m_y M').cls ∈ ev_TB ∧ m_code M' ∈ ev_TB ∧
  ((m_y M').cls ≠ "java/lang/invoke/MethodHandle" ∧ (m_y M').cls ≠ "java/lang/invoke/VarHandle" ∧ (parseMethodDescriptor (m_y M').desc).map (fun d => d.parameters.length) = some n) ∧ ev_room M M'
section MISC2
variable {l : Launch} {G : ev_G} {M M' : ev_M} {pc : Nat} {ls : List (Nat × Value)} {st as stk : List Value} {h : ev_AH} {uc us uc' us' : Nat} {Q : ev_Fin} {P P' : ev_Post} {X : String → ev_AH → Prop}
theorem e_callW {idx n : Nat} (hd : decode (m_cc M) pc = .ok (.invokestatic idx, 3)) (hw : ev_CW M idx M' n) (hn : as.length = n) (hstk : as.reverse ++ st = stk) (hm : Mt l G M' as h P') (hsum : (st.map fun v => v.category).sum ≤ 8) (hc : m_mc M' + uc' ≤ uc) (hs : m_ms M' + us' ≤ us)
    (K : ∀ (v : Option Value) (h' : ev_AH), P' (.inl v) h' → Ev l G M (pc + 3) ls (v.toList ++ st) h' uc' us' Q)
    (KX : ∀ (E : String) (h' : ev_AH), P' (.inr E) h' → EvX l G M pc ls h' uc' us' Q E) : Ev l G M pc ls stk h uc us Q := by
  intro p e s m args below meth c H locs cells slots lsA C hH hS hl h1 h2
  obtain ⟨hx, hb, hml, hown, hts, hr, hlk, hnm, htb, hst, hK, hB, hL⟩ := id C
  obtain ⟨⟨q0, r0, w0⟩, w1, w2, w4, w5, w6, w7⟩ := hw
  have hcode : m_code M' = .codeWith (m_y M') (m_cc M') (m_nL M') (m_rt M') (m_ht M') := by
    unfold m_code
    unfold m_ht at w0
    rw [w0]
  have hm' : vx_Met l (m_y M') (m_code M' :: ev_TB) (m_rm M') (ev_Pc l G as h) (ev_Qc G P') (ev_XC G P') (m_mc M') (m_ms M') (g_A G) := hm
  have cw : vx_CSW (m_rm M) s args (m_y M).cls idx (m_y M') (m_cc M') (m_nL M') (m_rt M') (m_ht M') (m_code M' :: ev_TB) (m_rm M') (m_mc M') (m_ms M') n := by
    refine ⟨⟨rfl, rfl, w7.1, w7.2, pay_in hts (ev_goodW w5), by rw [hcode]; exact List.mem_cons_self⟩, by rw [← hcode]; exact hts _ w5, hts _ w4, ⟨w6.1, w6.2.1⟩, fun sig hs9 => ?_, hts _ w1, hts _ w2⟩
    have z := w6.2.2
    rw [hs9] at z
    exact (Option.some.inj z).symm
  refine ev_back (st := st) (vx_runSX (As := as) (rest := st) (cc := m_cc M) (nL := m_nL M) ⟨hx, hb, hml, hown, hts⟩ hm' cw ⟨ev_Pc.blind, fun U hU hW => ev_hand C hH hS _ U hU hW⟩ rfl hn hl.1 hstk.symm (lv_room hsum) hd ⟨?_, ?_⟩) C hS hl h1 h2 hc hs K KX
  · show cells + _ ≤ m_mc M
    omega
  · show slots + _ ≤ m_ms M
    omega
theorem e_callWi {A : Int32 → ev_AH → Prop} {idx n : Nat} (hd : decode (m_cc M) pc = .ok (.invokestatic idx, 3)) (hw : ev_CW M idx M' n) (hn : as.length = n) (hstk : as.reverse ++ st = stk) (hm : Mt l G M' as h (ev_pi A X)) (hsum : (st.map fun v => v.category).sum ≤ 8) (hc : m_mc M' + uc' ≤ uc) (hs : m_ms M' + us' ≤ us) (K : ∀ (r : Int32) (h' : ev_AH), A r h' → Ev l G M (pc + 3) ls (.int r :: st) h' uc' us' Q) (KX : ∀ (E : String) (h' : ev_AH), X E h' → EvX l G M pc ls h' uc' us' Q E) : Ev l G M pc ls stk h uc us Q :=
  e_callW hd hw hn hstk hm hsum hc hs (fun v h' q => by obtain ⟨r, rfl, q⟩ := ev_pi_of q; exact K r h' q) (fun E h' q => KX E h' q)
theorem e_iushr {x y v : Int32} (hd : decode (m_cc M) pc = .ok (.iushr, 1)) (hv : (x.toUInt32 >>> (y.toUInt32 &&& Int32.toUInt32 31)).toInt32 = v) (K : Ev l G M (pc + 1) ls (.int v :: st) h uc us Q) : Ev l G M pc ls (.int y :: .int x :: st) h uc us Q :=
  fun p e s m args below meth c H locs cells slots lsA C hH hS hl h1 h2 => lv_iushr C.1 C.2.1 hd hv (K p e s m args below meth c H locs cells slots lsA C hH hS hl h1 h2)
theorem e_ldcw {idx : Nat} {v : Int32} (hd : decode (m_cc M) pc = .ok (.ldc_w idx, 3)) (hw : Cond.constant (m_y M).cls idx v ∈ ev_TB) (K : Ev l G M (pc + 3) ls (.int v :: st) h uc us Q) : Ev l G M pc ls st h uc us Q :=
  fun p e s m args below meth c H locs cells slots lsA C hH hS hl h1 h2 => lv_ldcw C.1 C.2.1 C.2.2.2.1 (C.2.2.2.2.1 _ hw) hd (K p e s m args below meth c H locs cells slots lsA C hH hS hl h1 h2)
/-- the length of a list's array: the empty one of the start, or a made one -/
def ev_len (G : ev_G) (h : ev_AH) (a : Nat) : Option Nat := if a = g_t0 G then some 0 else ev_n h a 103
theorem e_alenQ {a n : Nat} {v : Int32} (hd : decode (m_cc M) pc = .ok (.arraylength, 1)) (hn : ev_len G h a = some n) (hv : nI n = v) (K : Ev l G M (pc + 1) ls (.int v :: st) h uc us Q) : Ev l G M pc ls (.ref a :: st) h uc us Q := by
  unfold ev_len at hn
  by_cases z : a = g_t0 G
  · rw [if_pos z] at hn
    cases hn
    subst z
    subst hv
    exact e_alen0 hd K
  · rw [if_neg z] at hn
    exact e_alen (j := 3) hd hn hv K
end MISC2
end
section
/-! A THROW whose class's own constructor names its parent's by another place of its pool than 7 (java/util/NoSuchElementException of this build: 13). nx_ctor follows the library's proof of Stand.ctorThrowS (BundleOwnThrow.lean), the first link of the chain by its own bytes; e_throwN follows vx_throwS -/
def nx_names : List String := ["java/lang/Exception"]
def nx_atoms (own : String) (ic : Nat) (X : String) (ix : Nat) (rx : ByteArray) : List Cond :=
  Bundle.throwableAtoms ++ Bundle.throwableSAtoms ++ (Bundle.passSAtoms X "java/lang/RuntimeException" ix rx ++ Bundle.chainSAtoms "java/lang/RuntimeException" nx_names) ++
  [.methodLink own ic (Bundle.initS X), .instantiable X 6, .castable X X, .selects X Bundle.tFill0 Bundle.tFill0, .selects X Bundle.tFill Bundle.tFill,
   .lays X Bundle.tN "cause" "Ljava/lang/Throwable;", .lays X Bundle.tN "stackTrace" Bundle.steD, .lays X Bundle.tN "suppressedExceptions" Bundle.listD, .lays X Bundle.tN "detailMessage" "Ljava/lang/String;",
   .isRef (.static Bundle.tN "UNASSIGNED_STACK" Bundle.steD), .isRef (.static Bundle.tN "SUPPRESSED_SENTINEL" Bundle.listD),
   .fieldLink Bundle.tN 198 Bundle.tN "backtrace" "Ljava/lang/Object;", .lays Bundle.tN Bundle.tN "backtrace" "Ljava/lang/Object;", .lays X Bundle.tN "backtrace" "Ljava/lang/Object;"]
section NSE
variable {p : Program} {l : Launch} {e : Env} {R : Room} {s : State} {m₀ : MethodId} {args : Array Value} {below : List Frame} {meth : Method} {c : Code} {W : State} {locs : List Loc} {cells slots : Nat}
set_option maxHeartbeats 2000000 in
theorem nx_ctor (X : Stand p l e R s m₀ args below meth c W locs cells slots) (hexec : p.tables.exec = Jvm.exec) (htr : e.platform.stackTraces = false) {own cls : String} {ic ix : Nat} {rx : ByteArray}
    (x0 : decode rx 0 = .ok (.aload_n 0, 1)) (x1 : decode rx 1 = .ok (.aload_n 1, 1)) (x2 : decode rx 2 = .ok (.invokespecial ix, 3)) (x5 : decode rx 5 = .ok (.return_, 1))
    (hown : s.vm.findClass own = some m₀.cls) (hcls : Bundle.fit cls = true)
    (h : ∀ a ∈ nx_atoms own ic cls ix rx, a.before args s = true)
    (hlocs : ∀ x ∈ locs, ∀ cell, s.heap[x.base]? = some cell → cell.vm.isStatics = false)
    {a : Addr} {cX : ClassId} {kX : Class} (hfoundX : s.vm.findClass cls = some cX) (hkX : s.vm.classes[cX]? = some kX) (hcell : W.heap[a]? = some (freshCell cX kX)) (hnew : s.heap.size ≤ a)
    {msg : Value} (hmsg : msg.isRef = true)
    {g : JFrame} (hg : g.method = m₀) (hsize : g.locals.size = c.maxLocals) (hlocked : g.locked = none) (hentered : g.entered = []) {rest : List Value} (hstack : g.stack = msg :: .ref a :: .ref a :: rest)
    (hd6 : decode c.code g.pc = .ok (.invokespecial ic, 3)) (hd9 : decode c.code (g.pc + 3) = .ok (.athrow, 1)) (hout : ∀ x ∈ c.exceptionTable.toList, covers x (g.pc + 3) = false)
    (hRframes : 5 < R.frames) (hRlocals : 2 * g.monitorRoom + ((Value.ref a :: rest).map fun v => v.category).sum + 81 ≤ R.locals) (hlocks : meth.locks = false) :
    ∃ U : State, Steps p.tables e below (W.setTop g) U ∧ U.status = .running ∧ Ended U below (.threw a) ∧ s.WarmedH U.vm ∧ s.sameButNew ({ U with vm := s.vm } : State) locs cells slots ∧
      ∃ ce, U.heap[a]? = some ce ∧ ce.vm = .none ∧ s.vm.findClass cls = some ce.cls := by
  have howns : e.platform.frameOwnsMonitors = true := by rw [X.admits.platform]
  have hfin : e.platform.finalization = false := by rw [X.admits.platform]
  have hpl : e.platform.magicAccessors = ({} : Platform).magicAccessors := by rw [X.admits.platform]
  have a' : ∀ x, x ∈ nx_atoms own ic cls ix rx → x.holds args s none s [] = true := fun x hx => h x hx
  obtain ⟨T, Z0, L, -, Y⟩ := ThrowableC.of_atoms (args := args) howns hfin hpl (fun x hx => h x (by simp [nx_atoms, hx]))
  obtain ⟨Z, M, LZ, LM, hnZ⟩ := Init0T.ofS_atoms (args := args) hpl L Y (fun x hx => h x (by simp [nx_atoms, hx]))
  obtain ⟨P2, Ps2, hlen2, L2, hL2, hP2m, hlink2, hpass2⟩ := Bundle.chainS (args := args) hpl hnZ nx_names "java/lang/RuntimeException" (by decide +kernel) (by decide +kernel) (fun x hx => h x (by simp [nx_atoms, hx]))
  obtain ⟨P1, L1, hP1m, hP1s⟩ := PassC.ofS_atoms (args := args) (s := s) hpl (X := cls) (Y := "java/lang/RuntimeException") (Bundle.fit_spec hcls).1 (by decide) x0 x1 x2 x5 (fun x hx => h x (by simp [nx_atoms, hx]))
  have hlink1 : P1.sup = P2.m := Option.some.inj (hP1s.symm.trans hP2m)
  have hlen : (P2 :: Ps2).length = 2 := by rw [List.length_cons, hlen2]; rfl
  have hfound : s.vm.findClass cls = some P1.m.cls := findClass_of_methodNamed hP1m
  cases Option.some.inj (hfoundX.symm.trans hfound)
  obtain ⟨c1, kX', hc1, hk, hord, -, -, hn6⟩ := Cond.instantiable_spec (a' (.instantiable cls 6) (by simp [nx_atoms]))
  cases Option.some.inj (hc1.symm.trans hfound)
  cases Option.some.inj (hkX.symm.trans hk)
  have hsel0 : selectMethod e.platform s.vm P1.m.cls T.fill0 = .method T.fill0 := by
    obtain ⟨c2, r2, m2, q1, q2, q3, q4, -⟩ := Cond.selects_spec (a' (.selects cls Bundle.tFill0 Bundle.tFill0) (by simp [nx_atoms]))
    cases Option.some.inj (q1.symm.trans hfound)
    cases Option.some.inj (q2.symm.trans (State.methodFound?_of_named Y.fill0 (by decide)))
    cases Option.some.inj (q3.symm.trans Y.fill0)
    rw [Launch.admits_selectMethod X.admits]; exact q4
  have hselF : selectMethod e.platform s.vm P1.m.cls T.fill = .method T.fill := by
    obtain ⟨c2, r2, m2, q1, q2, q3, q4, -⟩ := Cond.selects_spec (a' (.selects cls Bundle.tFill Bundle.tFill) (by simp [nx_atoms]))
    cases Option.some.inj (q1.symm.trans hfound)
    cases Option.some.inj (q2.symm.trans (State.methodFound?_of_named Y.fill (by decide)))
    cases Option.some.inj (q3.symm.trans Y.fill)
    rw [Launch.admits_selectMethod X.admits]; exact q4
  obtain ⟨cellS0, hcS0, hiss⟩ := Y.statics
  obtain ⟨u0, hu0⟩ := Cond.staticRefV Y.unassigned L.unassignedStatic L.statics hcS0 hiss (a' (.isRef (.static Bundle.tN "UNASSIGNED_STACK" Bundle.steD)) (by simp [nx_atoms]))
  obtain ⟨sen, hsen⟩ := Cond.staticRefV Y.sentinel L.sentinelStatic L.statics hcS0 hiss (a' (.isRef (.static Bundle.tN "SUPPRESSED_SENTINEL" Bundle.listD)) (by simp [nx_atoms]))
  obtain ⟨ci198, i198, fB, hk198, hg198, ha198, hsB, -, hnB, htB, hffB⟩ := Cond.ownField (t := .object "java/lang/Object") Y.found L.cls (by decide +kernel) (a' (.fieldLink Bundle.tN 198 Bundle.tN "backtrace" "Ljava/lang/Object;") (by simp [nx_atoms])) (a' (.lays Bundle.tN Bundle.tN "backtrace" "Ljava/lang/Object;") (by simp [nx_atoms])) e.platform hpl
  obtain ⟨cellS, hcS', heS, -, hkeep⟩ := X.same.2.2.2.2.2 T.aS cellS0 hcS0
  have hcellS : W.heap[T.aS]? = some cellS := hcS'
  have hout' : ∀ i, (⟨T.aS, i⟩ : Loc) ∉ locs := fun i hmem => by
    have := hlocs _ hmem cellS0 hcS0
    rw [hiss] at this; cases this
  have hknownS : cellS.vm ≠ .unknown := by
    rw [heS]; intro hu
    rw [show cellS0.vm = .unknown from hu] at hiss
    cases hiss
  have hneS : T.aS ≠ a := Nat.ne_of_lt (Nat.lt_of_lt_of_le (Array.getElem?_eq_some_iff.mp hcS0).1 hnew)
  obtain ⟨iM, hffM⟩ := Y.msg
  obtain ⟨tyC, dC, hdC, hdnC⟩ := Cond.laysAt hfound hk Y.cause (a' (.lays cls Bundle.tN "cause" "Ljava/lang/Throwable;") (by simp [nx_atoms]))
  obtain ⟨tyS, dS, hdS, hdnS⟩ := Cond.laysAt hfound hk Y.stack (a' (.lays cls Bundle.tN "stackTrace" Bundle.steD) (by simp [nx_atoms]))
  obtain ⟨tyP, dP, hdP, hdnP⟩ := Cond.laysAt hfound hk Y.supp (a' (.lays cls Bundle.tN "suppressedExceptions" Bundle.listD) (by simp [nx_atoms]))
  obtain ⟨tyM, dM, hdM, hdnM⟩ := Cond.laysAt hfound hk hffM (a' (.lays cls Bundle.tN "detailMessage" "Ljava/lang/String;") (by simp [nx_atoms]))
  obtain ⟨tyB, dB, hdB, hdnB⟩ := Cond.laysAt hfound hk hffB (a' (.lays cls Bundle.tN "backtrace" "Ljava/lang/Object;") (by simp [nx_atoms]))
  have bC := Cond.laysApart hdB hdC hdnB hdnC (by rw [hnB, Y.causeName]; decide)
  have bS := Cond.laysApart hdB hdS hdnB hdnS (by rw [hnB, Y.stackName]; decide)
  have bP := Cond.laysApart hdB hdP hdnB hdnP (by rw [hnB, Y.suppName]; decide)
  have hskip : SkipFacts T e.platform s (fun u => u) u0 ((preparedCellV T.toThrowableT (freshCell P1.m.cls kX) a u0 sen).withEntry W.cur) :=
    ⟨{ ci198 := ci198, i198 := i198, fBack := fB }, ⟨hk198, hg198, ha198, hsB⟩, by
      have := fresh_default (c := P1.m.cls) tyB
      rw [htB] at this
      simpa [preparedCellV, Cell.setSlot, Cell.withEntry, Array.getElem?_setIfInBounds, bC, bS, bP, bC.symm, bS.symm, bP.symm, defaultValue] using this, fun _ _ => rfl⟩
  obtain ⟨tm, methC, cdC, kC, vm₁, hnC, -, -, -, -, -, -, -, hW₁, st1⟩ := Steps.initColdS (tb := p.tables) (e := e) (below := below) (s := s) (U := W) X.here hexec X.warmed hpl hown (t := Bundle.initS cls) rfl rfl (Bundle.fit_spec hcls).2
    (a' (.methodLink own ic (Bundle.initS cls)) (by simp [nx_atoms])) (h (.instanceMethod (Bundle.initS cls)) (by simp [nx_atoms, Bundle.passSAtoms])) (bytes := rx) (maxL := 2) (h (.code (Bundle.initS cls) rx 2 none) (by simp [nx_atoms, Bundle.passSAtoms]))
    (f := g) hg (a := a) (msg := msg) (rest := .ref a :: rest) hstack hd6
  cases Option.some.inj (hnC.symm.trans hP1m)
  have X₁ := X.noted hW₁
  obtain ⟨vm₂, X₂, st2⟩ := X₁.ctorMessageOffV hexec (g := { g with stack := .ref a :: rest }) hg hsize T L Z LZ M LM (P1 :: P2 :: Ps2)
    (fun P hP => by
      rcases List.mem_cons.mp hP with rfl | hP
      · exact L1
      · rcases List.mem_cons.mp hP with rfl | hP
        · exact L2
        · exact hL2 P hP) ⟨hlink1, hlink2, hpass2⟩ (u0 := u0) (sen := sen) (self := a) hmsg (cell := freshCell P1.m.cls kX) (cellS := cellS)
    hcell (fun _ => by simp) (by simp) rfl rfl hsel0 hselF hcellS hneS hknownS (by rw [hkeep _ (hout' _)]; exact hu0) (by rw [hkeep _ (hout' _)]; exact hsen)
    (Takes.of_laid hk hord tyC (by rw [Y.causeType]; rfl)) (Takes.of_laid hk hord tyS (by rw [Y.stackType]; exact fits_refV_array _ u0)) (Takes.of_laid hk hord tyP (by rw [Y.suppType]; exact fits_refV_object _ sen))
    (Takes.of_laid hk hord tyM (by rw [Y.msgType]; exact fits_refV_object _ ⟨msg, hmsg⟩)) Y.objLocals hskip htr [] hd6
    (by rw [List.length_cons, hlen]; omega) (by rw [List.length_cons, hlen]; exact hRlocals)
  obtain ⟨hwalk, hrun, hended, hWU, hsame⟩ := X₂.athrowLeaves hexec (g := { g with stack := .ref a :: rest, pc := g.pc + 3 }) hg hlocked hentered hout (a := a) (rest := rest) rfl hd9
  have hlt : a < ((W.setVm vm₁).setVm vm₂).heap.size := (Array.getElem?_eq_some_iff.mp hcell).1
  have hU := heapAt_setCell_self (s := (W.setVm vm₁).setVm vm₂) (plainBareV T.toThrowableT (freshCell P1.m.cls kX) a u0 sen msg) hlt
  refine ⟨_, st1 _ (fun acts => ?_), hrun, hended, hWU, hsame.weaken (fun y hy hlt' => ?_) (Nat.le_refl _) (Nat.le_refl _), _, hU, rfl, hfound⟩
  · rw [doInvoke_state]
    exact st2 _ hwalk
  · rcases List.mem_append.mp hy with h1 | h1
    · exact h1
    · exfalso
      have hb : y.base = a := by
        simp only [List.mem_cons, List.not_mem_nil, or_false] at h1
        rcases h1 with rfl | rfl | rfl | rfl | rfl <;> rfl
      rw [hb] at hlt'
      exact Nat.not_lt.mpr hnew hlt'
end NSE
end
section
/-! .. as a row of the walk -/
def nx_bytes : ByteArray := ⟨#[0x2a, 0x2b, 0xb7, 0x00, 0x0d, 0xb1]⟩
theorem nx_b0 : decode nx_bytes 0 = .ok (.aload_n 0, 1) := by decide +kernel
theorem nx_b1 : decode nx_bytes 1 = .ok (.aload_n 1, 1) := by decide +kernel
theorem nx_b2 : decode nx_bytes 2 = .ok (.invokespecial 13, 3) := by decide +kernel
theorem nx_b5 : decode nx_bytes 5 = .ok (.return_, 1) := by decide +kernel
def nx_at (own : String) (ic : Nat) (X : String) : List Cond := (nx_atoms own ic X 13 nx_bytes).filter vx_no
def ev_TN (M : ev_M) (ik is ic : Nat) (cls text : String) : Prop := Bundle.fit cls = true ∧ Cond.classLink (m_y M).cls ik cls ∈ ev_TB ∧ Cond.initialized cls ∈ ev_TB ∧ ((m_y M).cls, is, text) ∈ ev_strs ∧
  (∀ w ∈ nx_at (m_y M).cls ic cls, w ∈ ev_TB ∨ (∃ q ∈ ev_casts, w = .castable q.1 q.2) ∨ ∃ x ∈ ev_decls, w = .declares x) ∧ (∀ w ∈ Cond.classLink (m_y M).cls ik cls :: Cond.initialized cls :: nx_at (m_y M).cls ic cls, vx_ot w = true) ∧ 6 ≤ (m_rm M).frames ∧ 84 ≤ (m_rm M).locals
set_option maxHeartbeats 2000000 in
theorem e_throwN {l : Launch} {G : ev_G} {M : ev_M} {pc : Nat} {ls : List (Nat × Value)} {h : ev_AH} {uc us : Nat} {P : ev_Post} {ik is ic : Nat} {cls text : String} (d0 : decode (m_cc M) pc = .ok (.new ik, 3)) (d3 : decode (m_cc M) (pc + 3) = .ok (.dup, 1)) (d4 : decode (m_cc M) (pc + 4) = .ok (.ldc is, 2)) (d6 : decode (m_cc M) (pc + 6) = .ok (.invokespecial ic, 3)) (d9 : decode (m_cc M) (pc + 9) = .ok (.athrow, 1))
    (hw : ev_TN M ik is ic cls text) (hc : 1 ≤ uc) (hs : 6 ≤ us) (hP : P (.inr cls) h) (hno : m_ht M = [] := by rfl) : Ev l G M pc ls [] h uc us (ev_fin G M P) := by
  intro p e s m args below meth c H locs cells slots lsA C hH hS hl h1 h2
  obtain ⟨hx, hb, hml, hown, hts, hr, hlk, hnm, htb, hst, hK, hB, hL⟩ := id C
  obtain ⟨w0, w1, w2, w3, w4, w5, w6, w7⟩ := hw
  obtain ⟨l1, l2, l3, l4, l5, l6, l7, l8, l9, l10, l11, l12, l13, l14⟩ := hL
  obtain ⟨sa, hsa⟩ := l5 _ w3
  have hrc : (m_rm M).cells = m_mc M := rfl
  have hrs : (m_rm M).slots = m_ms M := rfl
  have hat : ∀ w ∈ nx_at (m_y M).cls ic cls, w.before args s = true := by
    intro w hw
    rcases w4 w hw with z | ⟨q, z, rfl⟩ | ⟨x, z, rfl⟩
    · exact hts _ z
    · exact va_Nw.use rfl (l10 _ z)
    · exact va_Nw.use rfl (l14 _ z)
  intro T hT X
  have htr : e.platform.stackTraces = false := (show e.platform.stackTraces = l.stackTraces by rw [X.admits.platform]).trans hst
  have Y := vx_rebase X (R' := { frames := (m_rm M).frames, locals := (m_rm M).locals, cells := 1, slots := 6 }) (Nat.le_refl _) (Nat.le_refl _) (by rw [hrc]; show cells + 1 ≤ _; omega) (by rw [hrs]; show slots + 6 ≤ _; omega)
  obtain ⟨s', hA⟩ : ∃ z, z = (T.setVm s.vm).setFrames (.invoking m args :: below) := ⟨_, rfl⟩
  rw [← hA] at Y
  have hvm : s'.vm = s.vm := by rw [hA]; rfl
  have hhp : s'.heap = H := by rw [hA]; exact hT
  have hW0 : s.WarmedH s'.vm := by rw [hvm]; exact State.WarmedH.refl s
  have hat' : ∀ w ∈ nx_at (m_y M).cls ic cls, w.before args s' = true := fun w hw => vx_ot_at hW0 hvm.symm (w5 w (List.mem_cons_of_mem _ (List.mem_cons_of_mem _ hw))) (hat w hw)
  have hk' : (Cond.classLink (m_y M).cls ik cls).before args s' = true := vx_ot_at hW0 hvm.symm (w5 _ List.mem_cons_self) (hts _ w1)
  have hini' : (Cond.initialized cls).before args s' = true := vx_ot_at hW0 hvm.symm (w5 _ (List.mem_cons_of_mem _ List.mem_cons_self)) (hts _ w2)
  have hU' : vx_Zq Bundle.tN "UNASSIGNED_STACK" Bundle.steD (g_A G) s' s'.heap := by rw [hhp]; exact vx_Zq.moved hW0.alike (l3.kept hS.2.1)
  have hN' : vx_Zq Bundle.tN "SUPPRESSED_SENTINEL" Bundle.listD (g_A G) s' s'.heap := by rw [hhp]; exact vx_Zq.moved hW0.alike (l4.kept hS.2.1)
  have hall0 : ∀ w ∈ nx_atoms (m_y M).cls ic cls 13 nx_bytes, w.before args s' = true := vx_own hat' (vx_isRefq hU'.1) (vx_isRefq hN'.1) hU'.2.word hN'.2.word
  have hown' : s'.vm.findClass (m_y M).cls = some m.cls := by rw [hvm]; exact hown
  have hins : (Cond.instantiable cls 6).before args s' = true := hall0 _ (by simp [nx_atoms])
  obtain ⟨vm₁, cX, kX, hfX, hkX, -, -, X₁, st1⟩ := Y.newCold hx (own := (m_y M).cls) (C := cls) (index := ik) (n := 6) hown' hk' hins hini'
    (g := F0 m pc lsA []) rfl (by rw [hb]; exact d0) (Nat.le_refl _) (Nat.le_refl _)
  generalize hT1 : (T.setVm vm₁).pushCell { cls := cX, slots := kX.instanceTypes.map defaultValue, vm := .none } = T1 at X₁ st1
  have hcat : (Value.ref T.heap.size).category = 1 := rfl
  have hcellA : T1.heap[T.heap.size]? = some (freshCell cX kX) := by rw [← hT1]; exact State.heap_pushCell_size _ _
  have d3' : decode c.code (pc + 3) = .ok (.dup, 1) := by rw [hb]; exact d3
  have d4' : decode c.code (pc + 4) = .ok (.ldc is, 2) := by rw [hb]; exact d4
  have hstr' : vk_R (m_y M).cls is text sa s' := vk_R.warm hW0 hsa
  obtain ⟨U, hsteps, hrun, hend, hW, hsame, ce, hce, hO1, hO2⟩ := nx_ctor X₁ hx htr (own := (m_y M).cls) (cls := cls) (ic := ic) nx_b0 nx_b1 nx_b2 nx_b5 hown' w0 hall0 (fun x hx => nomatch hx) hfX hkX hcellA (by rw [hhp, hT]; exact Nat.le_refl _) (msg := .ref sa) rfl
    (g := { method := m, pc := pc + 6, locals := lsA, stack := .ref sa :: .ref T.heap.size :: .ref T.heap.size :: [], locked := none }) rfl (by rw [hml]; exact hl.1) rfl rfl (rest := []) rfl
    (by rw [hb]; exact d6) (by rw [hb]; exact d9) (by rw [htb, hno]; intro x hx9; cases hx9) (by show 5 < (m_rm M).frames; omega) (by simp only [List.map_cons, List.map_nil, List.sum_cons, List.sum_nil, hcat]; show 2 * 0 + _ + 81 ≤ (m_rm M).locals; omega) hlk
  obtain ⟨f1, f2⟩ := vx_frame hsame
  rw [hhp] at f1 f2
  have hWs : s.WarmedH U.vm := State.WarmedH.trans hW0 hW
  have hcl : s.vm.findClass cls = some ce.cls := by
    rw [hvm] at hO2
    exact hO2
  have hall : s.sameButNew ({ U with vm := s.vm } : State) locs (m_mc M) (m_ms M) := by
    subst hA
    obtain ⟨e1, e2⟩ := hsame
    rw [State.setFrames_setFrames] at e1
    have z2 : (T.setVm s.vm).sameButNew ({ U with vm := s.vm } : State) [] (0 + 1) (0 + 6) := ⟨e1, e2⟩
    have z3 := X.same.trans z2
    rw [List.append_nil] at z3
    exact z3.mono (by omega) (by omega)
  have z2 : ∀ q : Nat, q < H.size → U.heap[q]? = H[q]? := fun q hq => f2 q hq (fun z hz => nomatch hz)
  have hXC : ev_XC G P cls s U := ⟨h, hP, hH.keep z2, Nat.le_trans hS.1 f1, fun q a1 a2 => (z2 q (Nat.lt_of_lt_of_le a1 hS.1)).trans (hS.2.1 q a1 a2)⟩
  refine ⟨U, ?_, .threw T.heap.size, hrun, hend, Or.inr ⟨T.heap.size, rfl, cls, ce, locs, hXC, hce, hO1, hcl, hWs, hall, hS.2.2⟩⟩
  refine st1 _ ?_
  show Steps p.tables e below (T1.setTop { method := m, pc := pc + 3, locals := lsA, stack := .ref T.heap.size :: [], locked := none }) _
  jvm_step X₁.here [X₁.here.top, hx, d3', Value.category]
  exact X₁.ldcString hx (own := (m_y M).cls) (text := text) (index := is) (a := sa) hown' hstr'.1 hstr'.2
    (g := { method := m, pc := pc + 4, locals := lsA, stack := .ref T.heap.size :: .ref T.heap.size :: [], locked := none }) rfl d4' _ hsteps
end
section
/-! METHODS -/
def ev_b (c : Prop) [Decidable c] : Int32 := if c then 1 else 0
def M_X_init : ev_M := (⟨"OrderRows3", "<init>", "()V"⟩, prog_1_method_1_code, 1, (none), (4, 84, 2, 6), [])
def M_X_order : ev_M := (⟨"OrderRows3", "order", "(IIII)I"⟩, prog_1_method_2_code, 6, (some .int), (8, 196, 9, 128), [])
def M_X_line : ev_M := (⟨"OrderRows3", "line", "(IIII)I"⟩, prog_1_method_3_code, 6, (some .int), (8, 196, 12, 223), [])
def M_X_hold : ev_M := (⟨"OrderRows3", "hold", "(II)I"⟩, prog_1_method_4_code, 4, (some .int), (7, 125, 5, 30), [])
def M_X_pick : ev_M := (⟨"OrderRows3", "pick", "(II)I"⟩, prog_1_method_5_code, 4, (some .int), (7, 125, 5, 30), [])
def M_X_goOn : ev_M := (⟨"OrderRows3", "goOn", "(I)I"⟩, prog_1_method_6_code, 3, (some .int), (7, 146, 2, 12), [])
def M_X_change : ev_M := (⟨"OrderRows3", "change", "(III)Z"⟩, prog_1_method_7_code, 5, (some .boolean), (8, 127, 8, 48), [])
def M_X_move : ev_M := (⟨"OrderRows3", "move", "(II)Z"⟩, prog_1_method_8_code, 4, (some .boolean), (7, 125, 2, 12), [])
def M_X_cancel : ev_M := (⟨"OrderRows3", "cancel", "(I)I"⟩, prog_1_method_9_code, 5, (some .int), (7, 125, 3, 18), [])
def M_X_join : ev_M := (⟨"OrderRows3", "join", "(II)V"⟩, prog_1_method_10_code, 5, (none), (8, 194, 23, 722), [])
def M_X_block : ev_M := (⟨"OrderRows3", "block", "(IIZ)I"⟩, prog_1_method_11_code, 7, (some .int), (7, 125, 4, 24), [])
def M_X_backorder : ev_M := (⟨"OrderRows3", "backorder", "(I)I"⟩, prog_1_method_12_code, 6, (some .int), (8, 196, 14, 309), [])
def M_X_ready : ev_M := (⟨"OrderRows3", "ready", "(I)I"⟩, prog_1_method_13_code, 4, (some .int), (7, 128, 1, 6), [])
def M_X_told : ev_M := (⟨"OrderRows3", "told", "(II)I"⟩, prog_1_method_14_code, 4, (some .int), (7, 127, 2, 12), [])
def M_X_lineOf : ev_M := (⟨"OrderRows3", "lineOf", "(II)I"⟩, prog_1_method_15_code, 4, (some .int), (7, 125, 2, 12), [])
def M_X_packed : ev_M := (⟨"OrderRows3", "packed", "(I)J"⟩, prog_1_method_16_code, 5, (some .long), (7, 125, 1, 6), [])
def M_X_count : ev_M := (⟨"OrderRows3", "count", "(I)I"⟩, prog_1_method_17_code, 2, (some .int), (5, 127, 0, 0), [])
def M_X_orderAt : ev_M := (⟨"OrderRows3", "orderAt", "(I)LOrderRows3$Order;"⟩, prog_1_method_18_code, 2, (some (.object "OrderRows3$Order")), (6, 104, 1, 6), [])
def M_X_lineAt : ev_M := (⟨"OrderRows3", "lineAt", "(I)LOrderRows3$Line;"⟩, prog_1_method_19_code, 2, (some (.object "OrderRows3$Line")), (6, 104, 1, 6), [])
def M_X_requireRange : ev_M := (⟨"OrderRows3", "requireRange", "(III)V"⟩, prog_1_method_20_code, 3, (none), (6, 84, 1, 6), [])
def M_X_requireNotNegative : ev_M := (⟨"OrderRows3", "requireNotNegative", "(I)V"⟩, prog_1_method_21_code, 1, (none), (6, 84, 1, 6), [])
def M_X_requireState : ev_M := (⟨"OrderRows3", "requireState", "(Z)V"⟩, prog_1_method_22_code, 1, (none), (6, 84, 1, 6), [])
def M_X_requireRoom : ev_M := (⟨"OrderRows3", "requireRoom", "(Z)V"⟩, prog_1_method_23_code, 1, (none), (6, 84, 1, 6), [])
def M_X_requireRoomForOrder : ev_M := (⟨"OrderRows3", "requireRoomForOrder", "()V"⟩, prog_1_method_24_code, 1, (none), (7, 104, 1, 6), [])
def M_X_requireRoomForLine : ev_M := (⟨"OrderRows3", "requireRoomForLine", "()V"⟩, prog_1_method_25_code, 1, (none), (7, 104, 1, 6), [])
def M_X_requireChangeValue : ev_M := (⟨"OrderRows3", "requireChangeValue", "(II)V"⟩, prog_1_method_26_code, 2, (none), (7, 106, 3, 18), [])
def M_X_phaseLetsChange : ev_M := (⟨"OrderRows3", "phaseLetsChange", "(II)Z"⟩, prog_1_method_27_code, 2, (some .boolean), (0, 0, 0, 0), [])
def M_X_applyChange : ev_M := (⟨"OrderRows3", "applyChange", "(LOrderRows3$Line;II)V"⟩, prog_1_method_28_code, 3, (none), (1, 24, 0, 0), [])
def M_X_firstWithOwnNumber : ev_M := (⟨"OrderRows3", "firstWithOwnNumber", "(II)I"⟩, prog_1_method_29_code, 5, (some .int), (4, 104, 0, 0), [])
def M_X_addOrder : ev_M := (⟨"OrderRows3", "addOrder", "(IIII)LOrderRows3$Order;"⟩, prog_1_method_30_code, 6, (some (.object "OrderRows3$Order")), (7, 171, 4, 98), [])
def M_X_addLine : ev_M := (⟨"OrderRows3", "addLine", "(LOrderRows3$Order;III)LOrderRows3$Line;"⟩, prog_1_method_31_code, 6, (some (.object "OrderRows3$Line")), (7, 171, 5, 181), [])
def M_X_waitingBefore : ev_M := (⟨"OrderRows3", "waitingBefore", "(LOrderRows3$Order;)I"⟩, prog_1_method_32_code, 5, (some .int), (4, 104, 0, 0), [])
def M_X_piecesHeld : ev_M := (⟨"OrderRows3", "piecesHeld", "()I"⟩, prog_1_method_33_code, 4, (some .int), (4, 104, 0, 0), [])
def M_X_piecesShipped : ev_M := (⟨"OrderRows3", "piecesShipped", "()I"⟩, prog_1_method_34_code, 3, (some .int), (4, 104, 0, 0), [])
def M_R_init : ev_M := (⟨"OrderRows3Model", "<init>", "()V"⟩, prog_5_method_1_code, 1, (none), (1, 24, 21, 940), [])
def M_R_thrown : ev_M := (⟨"OrderRows3Model", "thrown", "()I"⟩, prog_5_method_2_code, 1, (some .int), (0, 0, 0, 0), [])
def M_R_in : ev_M := (⟨"OrderRows3Model", "in", "(III)Z"⟩, prog_5_method_3_code, 3, (some .boolean), (0, 0, 0, 0), [])
def M_R_isOrder : ev_M := (⟨"OrderRows3Model", "isOrder", "(I)Z"⟩, prog_5_method_4_code, 2, (some .boolean), (1, 22, 0, 0), [])
def M_R_isLine : ev_M := (⟨"OrderRows3Model", "isLine", "(I)Z"⟩, prog_5_method_5_code, 2, (some .boolean), (1, 22, 0, 0), [])
def M_R_has : ev_M := (⟨"OrderRows3Model", "has", "(II)Z"⟩, prog_5_method_6_code, 3, (some .boolean), (0, 0, 0, 0), [])
def M_R_newOrder : ev_M := (⟨"OrderRows3Model", "newOrder", "(IIII)I"⟩, prog_5_method_7_code, 5, (some .int), (0, 0, 0, 0), [])
def M_R_order : ev_M := (⟨"OrderRows3Model", "order", "(IIII)I"⟩, prog_5_method_8_code, 6, (some .int), (1, 24, 0, 0), [])
def M_R_hang : ev_M := (⟨"OrderRows3Model", "hang", "(II)V"⟩, prog_5_method_9_code, 3, (none), (0, 0, 0, 0), [])
def M_R_newLine : ev_M := (⟨"OrderRows3Model", "newLine", "(IIII)I"⟩, prog_5_method_10_code, 5, (some .int), (1, 22, 0, 0), [])
def M_R_line : ev_M := (⟨"OrderRows3Model", "line", "(IIII)I"⟩, prog_5_method_11_code, 5, (some .int), (2, 46, 0, 0), [])
def M_R_hold : ev_M := (⟨"OrderRows3Model", "hold", "(II)I"⟩, prog_5_method_12_code, 3, (some .int), (2, 43, 0, 0), [])
def M_R_pick : ev_M := (⟨"OrderRows3Model", "pick", "(II)I"⟩, prog_5_method_13_code, 3, (some .int), (2, 43, 0, 0), [])
def M_R_lineAt : ev_M := (⟨"OrderRows3Model", "lineAt", "(II)I"⟩, prog_5_method_14_code, 3, (some .int), (0, 0, 0, 0), [])
def M_R_liveLines : ev_M := (⟨"OrderRows3Model", "liveLines", "(I)I"⟩, prog_5_method_15_code, 4, (some .int), (1, 22, 0, 0), [])
def M_R_isReady : ev_M := (⟨"OrderRows3Model", "isReady", "(I)Z"⟩, prog_5_method_16_code, 2, (some .boolean), (1, 22, 0, 0), [])
def M_R_shortOf : ev_M := (⟨"OrderRows3Model", "shortOf", "(I)I"⟩, prog_5_method_17_code, 2, (some .int), (0, 0, 0, 0), [])
def M_R_mayGoOn : ev_M := (⟨"OrderRows3Model", "mayGoOn", "(I)Z"⟩, prog_5_method_18_code, 5, (some .boolean), (2, 45, 0, 0), [])
def M_R_goOn : ev_M := (⟨"OrderRows3Model", "goOn", "(I)I"⟩, prog_5_method_19_code, 3, (some .int), (3, 69, 0, 0), [])
def M_R_change : ev_M := (⟨"OrderRows3Model", "change", "(III)Z"⟩, prog_5_method_20_code, 6, (some .boolean), (2, 43, 0, 0), [])
def M_R_move : ev_M := (⟨"OrderRows3Model", "move", "(II)Z"⟩, prog_5_method_21_code, 3, (some .boolean), (2, 43, 0, 0), [])
def M_R_cancel : ev_M := (⟨"OrderRows3Model", "cancel", "(I)I"⟩, prog_5_method_22_code, 3, (some .int), (2, 45, 0, 0), [])
def M_R_join : ev_M := (⟨"OrderRows3Model", "join", "(II)V"⟩, prog_5_method_23_code, 4, (none), (2, 43, 0, 0), [])
def M_R_bits : ev_M := (⟨"OrderRows3Model", "bits", "(I)I"⟩, prog_5_method_24_code, 3, (some .int), (0, 0, 0, 0), [])
def M_R_block : ev_M := (⟨"OrderRows3Model", "block", "(IIZ)I"⟩, prog_5_method_25_code, 4, (some .int), (2, 43, 0, 0), [])
def M_R_backorder : ev_M := (⟨"OrderRows3Model", "backorder", "(I)I"⟩, prog_5_method_26_code, 3, (some .int), (2, 46, 0, 0), [])
def M_R_isBefore : ev_M := (⟨"OrderRows3Model", "isBefore", "(II)Z"⟩, prog_5_method_27_code, 3, (some .boolean), (0, 0, 0, 0), [])
def M_R_isWaiting : ev_M := (⟨"OrderRows3Model", "isWaiting", "(I)Z"⟩, prog_5_method_28_code, 2, (some .boolean), (0, 0, 0, 0), [])
def M_R_ready : ev_M := (⟨"OrderRows3Model", "ready", "(I)I"⟩, prog_5_method_29_code, 5, (some .int), (1, 22, 0, 0), [])
def M_R_told : ev_M := (⟨"OrderRows3Model", "told", "(II)I"⟩, prog_5_method_30_code, 5, (some .int), (2, 43, 0, 0), [])
def M_R_lineOf : ev_M := (⟨"OrderRows3Model", "lineOf", "(II)I"⟩, prog_5_method_31_code, 3, (some .int), (2, 43, 0, 0), [])
def M_R_packed : ev_M := (⟨"OrderRows3Model", "packed", "(I)J"⟩, prog_5_method_32_code, 8, (some .long), (2, 43, 0, 0), [])
def M_R_count : ev_M := (⟨"OrderRows3Model", "count", "(I)I"⟩, prog_5_method_33_code, 4, (some .int), (0, 0, 0, 0), [])
def M_L_init : ev_M := (⟨"OrderRows3$Line", "<init>", "(ILOrderRows3$Order;III)V"⟩, prog_2_method_1_code, 6, (none), (1, 24, 0, 0), [])
def M_L_hasRule : ev_M := (⟨"OrderRows3$Line", "hasRule", "(I)Z"⟩, prog_2_method_2_code, 2, (some .boolean), (0, 0, 0, 0), [])
def M_L_isReady : ev_M := (⟨"OrderRows3$Line", "isReady", "()Z"⟩, prog_2_method_3_code, 1, (some .boolean), (1, 21, 0, 0), [])
def M_L_missing : ev_M := (⟨"OrderRows3$Line", "missing", "()I"⟩, prog_2_method_4_code, 1, (some .int), (0, 0, 0, 0), [])
def M_L_awaitsBackorder : ev_M := (⟨"OrderRows3$Line", "awaitsBackorder", "()Z"⟩, prog_2_method_5_code, 1, (some .boolean), (1, 21, 0, 0), [])
def M_O_init : ev_M := (⟨"OrderRows3$Order", "<init>", "(IIIII)V"⟩, prog_3_method_1_code, 6, (none), (4, 84, 1, 3), [])
def M_O_isBlocked : ev_M := (⟨"OrderRows3$Order", "isBlocked", "()Z"⟩, prog_3_method_2_code, 1, (some .boolean), (0, 0, 0, 0), [])
def M_O_isWaiting : ev_M := (⟨"OrderRows3$Order", "isWaiting", "()Z"⟩, prog_3_method_3_code, 1, (some .boolean), (1, 20, 0, 0), [])
def M_O_comesBefore : ev_M := (⟨"OrderRows3$Order", "comesBefore", "(LOrderRows3$Order;)Z"⟩, prog_3_method_4_code, 2, (some .boolean), (0, 0, 0, 0), [])
def M_O_meetsNextPhase : ev_M := (⟨"OrderRows3$Order", "meetsNextPhase", "()Z"⟩, prog_3_method_5_code, 1, (some .boolean), (5, 126, 0, 0), [])
def M_O_hasLiveLine : ev_M := (⟨"OrderRows3$Order", "hasLiveLine", "()Z"⟩, prog_3_method_6_code, 2, (some .boolean), (4, 104, 0, 0), [])
def M_O_eachLiveLineIsReady : ev_M := (⟨"OrderRows3$Order", "eachLiveLineIsReady", "()Z"⟩, prog_3_method_7_code, 3, (some .boolean), (4, 104, 0, 0), [])
def M_O_allHeldIsPicked : ev_M := (⟨"OrderRows3$Order", "allHeldIsPicked", "()Z"⟩, prog_3_method_8_code, 3, (some .boolean), (4, 104, 0, 0), [])
def M_O_noLineAwaitsBackorder : ev_M := (⟨"OrderRows3$Order", "noLineAwaitsBackorder", "()Z"⟩, prog_3_method_9_code, 2, (some .boolean), (4, 104, 0, 0), [])
def M_O_shipAllPicked : ev_M := (⟨"OrderRows3$Order", "shipAllPicked", "()V"⟩, prog_3_method_10_code, 3, (none), (4, 104, 0, 0), [])
def M_O_takeLinesOf : ev_M := (⟨"OrderRows3$Order", "takeLinesOf", "(LOrderRows3$Order;)V"⟩, prog_3_method_11_code, 4, (none), (7, 171, 16, 680), [])
def M_O_missing : ev_M := (⟨"OrderRows3$Order", "missing", "()I"⟩, prog_3_method_12_code, 4, (some .int), (4, 104, 0, 0), [])
def M_W_order : ev_M := (⟨"OrderRows3Law", "order", "(LOrderRows3;IIII[J)I"⟩, method_3_code, 7, (some .int), (9, 221, 9, 128), [(0, 14, 17, 13), (0, 14, 21, 15)])
def M_W_line : ev_M := (⟨"OrderRows3Law", "line", "(LOrderRows3;IIII[J)I"⟩, method_4_code, 7, (some .int), (9, 221, 12, 223), [(0, 14, 17, 20), (0, 14, 21, 13), (0, 14, 25, 22), (0, 14, 29, 15)])
def M_W_hold : ev_M := (⟨"OrderRows3Law", "hold", "(LOrderRows3;II[J)I"⟩, method_5_code, 5, (some .int), (8, 148, 5, 30), [(0, 10, 13, 20), (0, 10, 17, 13), (0, 10, 21, 22)])
def M_W_pick : ev_M := (⟨"OrderRows3Law", "pick", "(LOrderRows3;II[J)I"⟩, method_6_code, 5, (some .int), (8, 148, 5, 30), [(0, 10, 13, 20), (0, 10, 17, 13), (0, 10, 21, 22)])
def M_W_goOn : ev_M := (⟨"OrderRows3Law", "goOn", "(LOrderRows3;I[J)I"⟩, method_7_code, 4, (some .int), (8, 168, 2, 12), [(0, 9, 12, 20), (0, 9, 15, 22)])
def M_W_change : ev_M := (⟨"OrderRows3Law", "change", "(LOrderRows3;III[J)I"⟩, method_8_code, 6, (some .int), (9, 151, 8, 48), [(0, 19, 22, 20), (0, 19, 26, 13), (0, 19, 30, 22)])
def M_W_move : ev_M := (⟨"OrderRows3Law", "move", "(LOrderRows3;II[J)I"⟩, method_9_code, 5, (some .int), (8, 148, 2, 12), [(0, 17, 20, 20), (0, 17, 24, 13)])
def M_W_cancel : ev_M := (⟨"OrderRows3Law", "cancel", "(LOrderRows3;I[J)I"⟩, method_10_code, 4, (some .int), (8, 149, 3, 18), [(0, 9, 12, 20), (0, 9, 15, 22)])
def M_W_join : ev_M := (⟨"OrderRows3Law", "join", "(LOrderRows3;II)I"⟩, method_11_code, 4, (some .int), (9, 218, 23, 722), [(0, 6, 9, 20), (0, 6, 12, 22), (0, 6, 15, 15)])
def M_W_block : ev_M := (⟨"OrderRows3Law", "block", "(LOrderRows3;IIZ[J)I"⟩, method_12_code, 6, (some .int), (8, 151, 4, 24), [(0, 12, 15, 20), (0, 12, 19, 13), (0, 12, 23, 22)])
def M_W_backorder : ev_M := (⟨"OrderRows3Law", "backorder", "(LOrderRows3;I[J)I"⟩, method_13_code, 4, (some .int), (9, 221, 14, 309), [(0, 9, 12, 20), (0, 9, 15, 22), (0, 9, 18, 15)])
def M_W_ready : ev_M := (⟨"OrderRows3Law", "ready", "(LOrderRows3;I[J)I"⟩, method_14_code, 4, (some .int), (8, 151, 1, 6), [(0, 9, 12, 13)])
def M_W_told : ev_M := (⟨"OrderRows3Law", "told", "(LOrderRows3;II[J)I"⟩, method_15_code, 5, (some .int), (8, 150, 2, 12), [(0, 10, 13, 20), (0, 10, 17, 13)])
def M_W_lineOf : ev_M := (⟨"OrderRows3Law", "lineOf", "(LOrderRows3;II[J)I"⟩, method_16_code, 5, (some .int), (8, 148, 2, 12), [(0, 10, 13, 20), (0, 10, 17, 13)])
def M_W_packed : ev_M := (⟨"OrderRows3Law", "packed", "(LOrderRows3;I[J)I"⟩, method_17_code, 4, (some .int), (8, 149, 1, 6), [(0, 8, 11, 20)])
def M_Ji_bitCount : ev_M := (⟨"java/lang/Integer", "bitCount", "(I)I"⟩, prog_11_method_49_code, 1, (some .int), (0, 0, 0, 0), [])
def M_Ac_init : ev_M := (⟨"java/util/AbstractCollection", "<init>", "()V"⟩, prog_19_method_1_code, 1, (none), (1, 24, 0, 0), [])
def M_Al_init : ev_M := (⟨"java/util/AbstractList", "<init>", "()V"⟩, prog_20_method_1_code, 1, (none), (2, 44, 0, 0), [])
def M_A_init : ev_M := (⟨"java/util/ArrayList", "<init>", "()V"⟩, prog_21_method_2_code, 1, (none), (3, 64, 0, 0), [])
def M_A_add0 : ev_M := (⟨"java/util/ArrayList", "add", "(Ljava/lang/Object;)Z"⟩, prog_21_method_25_code, 2, (some .boolean), (6, 150, 2, 85), [])
def M_A_add1 : ev_M := (⟨"java/util/ArrayList", "add", "(Ljava/lang/Object;[Ljava/lang/Object;I)V"⟩, prog_21_method_24_code, 4, (none), (5, 127, 2, 85), [])
def M_A_clear : ev_M := (⟨"java/util/ArrayList", "clear", "()V"⟩, prog_21_method_40_code, 4, (none), (0, 0, 0, 0), [])
def M_A_elementData : ev_M := (⟨"java/util/ArrayList", "elementData", "(I)Ljava/lang/Object;"⟩, prog_21_method_18_code, 2, (some (.object "java/lang/Object")), (0, 0, 0, 0), [])
def M_A_get : ev_M := (⟨"java/util/ArrayList", "get", "(I)Ljava/lang/Object;"⟩, prog_21_method_20_code, 2, (some (.object "java/lang/Object")), (3, 83, 0, 0), [])
def M_A_grow0 : ev_M := (⟨"java/util/ArrayList", "grow", "()[Ljava/lang/Object;"⟩, prog_21_method_7_code, 1, (some (.array (.object "java/lang/Object"))), (4, 107, 2, 85), [])
def M_A_grow1 : ev_M := (⟨"java/util/ArrayList", "grow", "(I)[Ljava/lang/Object;"⟩, prog_21_method_6_code, 4, (some (.array (.object "java/lang/Object"))), (3, 84, 2, 85), [])
def M_A_size : ev_M := (⟨"java/util/ArrayList", "size", "()I"⟩, prog_21_method_8_code, 1, (some .int), (0, 0, 0, 0), [])
def M_Ja_copyOf0 : ev_M := (⟨"java/util/Arrays", "copyOf", "([Ljava/lang/Object;I)[Ljava/lang/Object;"⟩, prog_22_method_119_code, 2, (some (.array (.object "java/lang/Object"))), (2, 63, 1, 75), [])
def M_Ja_copyOf1 : ev_M := (⟨"java/util/Arrays", "copyOf", "([Ljava/lang/Object;ILjava/lang/Class;)[Ljava/lang/Object;"⟩, prog_22_method_120_code, 4, (some (.array (.object "java/lang/Object"))), (1, 40, 1, 75), [])
def M_Jo_checkIndex : ev_M := (⟨"java/util/Objects", "checkIndex", "(II)I"⟩, prog_26_method_17_code, 2, (some .int), (2, 62, 0, 0), [])
def M_Js_newLength : ev_M := (⟨"jdk/internal/util/ArraysSupport", "newLength", "(III)I"⟩, prog_29_method_27_code, 4, (some .int), (1, 40, 0, 0), [])
def M_Jp_checkIndex : ev_M := (⟨"jdk/internal/util/Preconditions", "checkIndex", "(IILjava/util/function/BiFunction;)I"⟩, prog_30_method_11_code, 3, (some .int), (1, 40, 0, 0), [])
theorem cls0 : ev_cls 0 (N_X, T_X, 2) t_X := ⟨rfl, by decide +kernel, by decide +kernel, by decide +kernel⟩
theorem cls1 : ev_cls 1 (N_O, T_O, 10) t_O := ⟨rfl, by decide +kernel, by decide +kernel, by decide +kernel⟩
theorem cls2 : ev_cls 2 (N_L, T_L, 11) t_L := ⟨rfl, by decide +kernel, by decide +kernel, by decide +kernel⟩
theorem cls3 : ev_cls 3 (N_A, T_A, 3) t_A := ⟨rfl, by decide +kernel, by decide +kernel, by decide +kernel⟩
theorem cls4 : ev_cls 4 (N_R, T_R, 23) t_R := ⟨rfl, by decide +kernel, by decide +kernel, by decide +kernel⟩
theorem tb_arr0 : Cond.arrayClass .int ∈ ev_TB := (ev_tb 694 (by decide +kernel) (by decide +kernel))
theorem tb_arr1 : Cond.arrayClass .boolean ∈ ev_TB := (ev_tb 695 (by decide +kernel) (by decide +kernel))
theorem tb_arr2 : Cond.arrayClass .long ∈ ev_TB := (ev_tb 824 (by decide +kernel) (by decide +kernel))
end
section
/-! DECODED: OrderRows3 -/
theorem fX_init_0 : decode (m_cc M_X_init) 0 = .ok (.aload_n 0, 1) := by decide +kernel
theorem fX_init_1 : decode (m_cc M_X_init) 1 = .ok (.invokespecial 1, 3) := by decide +kernel
theorem fX_init_4 : decode (m_cc M_X_init) 4 = .ok (.aload_n 0, 1) := by decide +kernel
theorem fX_init_5 : decode (m_cc M_X_init) 5 = .ok (.new 7, 3) := by decide +kernel
theorem fX_init_8 : decode (m_cc M_X_init) 8 = .ok (.dup, 1) := by decide +kernel
theorem fX_init_9 : decode (m_cc M_X_init) 9 = .ok (.invokespecial 9, 3) := by decide +kernel
theorem fX_init_12 : decode (m_cc M_X_init) 12 = .ok (.putfield 10, 3) := by decide +kernel
theorem fX_init_15 : decode (m_cc M_X_init) 15 = .ok (.aload_n 0, 1) := by decide +kernel
theorem fX_init_16 : decode (m_cc M_X_init) 16 = .ok (.new 7, 3) := by decide +kernel
theorem fX_init_19 : decode (m_cc M_X_init) 19 = .ok (.dup, 1) := by decide +kernel
theorem fX_init_20 : decode (m_cc M_X_init) 20 = .ok (.invokespecial 9, 3) := by decide +kernel
theorem fX_init_23 : decode (m_cc M_X_init) 23 = .ok (.putfield 16, 3) := by decide +kernel
theorem fX_init_26 : decode (m_cc M_X_init) 26 = .ok (.return_, 1) := by decide +kernel
theorem fX_order_0 : decode (m_cc M_X_order) 0 = .ok (.iload_n 1, 1) := by decide +kernel
theorem fX_order_1 : decode (m_cc M_X_order) 1 = .ok (.iconst 0, 1) := by decide +kernel
theorem fX_order_2 : decode (m_cc M_X_order) 2 = .ok (.bipush 7, 2) := by decide +kernel
theorem fX_order_4 : decode (m_cc M_X_order) 4 = .ok (.invokestatic 19, 3) := by decide +kernel
theorem fX_order_7 : decode (m_cc M_X_order) 7 = .ok (.iload_n 2, 1) := by decide +kernel
theorem fX_order_8 : decode (m_cc M_X_order) 8 = .ok (.iconst 1, 1) := by decide +kernel
theorem fX_order_9 : decode (m_cc M_X_order) 9 = .ok (.ldc 23, 2) := by decide +kernel
theorem fX_order_11 : decode (m_cc M_X_order) 11 = .ok (.invokestatic 19, 3) := by decide +kernel
theorem fX_order_14 : decode (m_cc M_X_order) 14 = .ok (.iload_n 3, 1) := by decide +kernel
theorem fX_order_15 : decode (m_cc M_X_order) 15 = .ok (.iconst 1, 1) := by decide +kernel
theorem fX_order_16 : decode (m_cc M_X_order) 16 = .ok (.bipush 9, 2) := by decide +kernel
theorem fX_order_18 : decode (m_cc M_X_order) 18 = .ok (.invokestatic 19, 3) := by decide +kernel
theorem fX_order_21 : decode (m_cc M_X_order) 21 = .ok (.iload 4, 2) := by decide +kernel
theorem fX_order_23 : decode (m_cc M_X_order) 23 = .ok (.iconst 0, 1) := by decide +kernel
theorem fX_order_24 : decode (m_cc M_X_order) 24 = .ok (.sipush 10000, 3) := by decide +kernel
theorem fX_order_27 : decode (m_cc M_X_order) 27 = .ok (.invokestatic 19, 3) := by decide +kernel
theorem fX_order_30 : decode (m_cc M_X_order) 30 = .ok (.aload_n 0, 1) := by decide +kernel
theorem fX_order_31 : decode (m_cc M_X_order) 31 = .ok (.iload_n 1, 1) := by decide +kernel
theorem fX_order_32 : decode (m_cc M_X_order) 32 = .ok (.iload_n 2, 1) := by decide +kernel
theorem fX_order_33 : decode (m_cc M_X_order) 33 = .ok (.invokevirtual 24, 3) := by decide +kernel
theorem fX_order_36 : decode (m_cc M_X_order) 36 = .ok (.istore 5, 2) := by decide +kernel
theorem fX_order_38 : decode (m_cc M_X_order) 38 = .ok (.iload 5, 2) := by decide +kernel
theorem fX_order_40 : decode (m_cc M_X_order) 40 = .ok (.iconst (-1), 1) := by decide +kernel
theorem fX_order_41 : decode (m_cc M_X_order) 41 = .ok (.if_icmp .eq 8, 3) := by decide +kernel
theorem fX_order_44 : decode (m_cc M_X_order) 44 = .ok (.iconst (-1), 1) := by decide +kernel
theorem fX_order_45 : decode (m_cc M_X_order) 45 = .ok (.iload 5, 2) := by decide +kernel
theorem fX_order_47 : decode (m_cc M_X_order) 47 = .ok (.isub, 1) := by decide +kernel
theorem fX_order_48 : decode (m_cc M_X_order) 48 = .ok (.ireturn, 1) := by decide +kernel
theorem fX_order_49 : decode (m_cc M_X_order) 49 = .ok (.aload_n 0, 1) := by decide +kernel
theorem fX_order_50 : decode (m_cc M_X_order) 50 = .ok (.invokevirtual 28, 3) := by decide +kernel
theorem fX_order_53 : decode (m_cc M_X_order) 53 = .ok (.aload_n 0, 1) := by decide +kernel
theorem fX_order_54 : decode (m_cc M_X_order) 54 = .ok (.iload_n 1, 1) := by decide +kernel
theorem fX_order_55 : decode (m_cc M_X_order) 55 = .ok (.iload_n 2, 1) := by decide +kernel
theorem fX_order_56 : decode (m_cc M_X_order) 56 = .ok (.iload_n 3, 1) := by decide +kernel
theorem fX_order_57 : decode (m_cc M_X_order) 57 = .ok (.iload 4, 2) := by decide +kernel
theorem fX_order_59 : decode (m_cc M_X_order) 59 = .ok (.invokevirtual 31, 3) := by decide +kernel
theorem fX_order_62 : decode (m_cc M_X_order) 62 = .ok (.getfield 35, 3) := by decide +kernel
theorem fX_order_65 : decode (m_cc M_X_order) 65 = .ok (.ireturn, 1) := by decide +kernel
theorem fX_line_0 : decode (m_cc M_X_line) 0 = .ok (.aload_n 0, 1) := by decide +kernel
theorem fX_line_1 : decode (m_cc M_X_line) 1 = .ok (.iload_n 1, 1) := by decide +kernel
theorem fX_line_2 : decode (m_cc M_X_line) 2 = .ok (.invokevirtual 41, 3) := by decide +kernel
theorem fX_line_5 : decode (m_cc M_X_line) 5 = .ok (.astore 5, 2) := by decide +kernel
theorem fX_line_7 : decode (m_cc M_X_line) 7 = .ok (.iload_n 2, 1) := by decide +kernel
theorem fX_line_8 : decode (m_cc M_X_line) 8 = .ok (.iconst 0, 1) := by decide +kernel
theorem fX_line_9 : decode (m_cc M_X_line) 9 = .ok (.bipush 15, 2) := by decide +kernel
theorem fX_line_11 : decode (m_cc M_X_line) 11 = .ok (.invokestatic 19, 3) := by decide +kernel
theorem fX_line_14 : decode (m_cc M_X_line) 14 = .ok (.iload_n 3, 1) := by decide +kernel
theorem fX_line_15 : decode (m_cc M_X_line) 15 = .ok (.iconst 1, 1) := by decide +kernel
theorem fX_line_16 : decode (m_cc M_X_line) 16 = .ok (.sipush 1000, 3) := by decide +kernel
theorem fX_line_19 : decode (m_cc M_X_line) 19 = .ok (.invokestatic 19, 3) := by decide +kernel
theorem fX_line_22 : decode (m_cc M_X_line) 22 = .ok (.iload 4, 2) := by decide +kernel
theorem fX_line_24 : decode (m_cc M_X_line) 24 = .ok (.iconst 0, 1) := by decide +kernel
theorem fX_line_25 : decode (m_cc M_X_line) 25 = .ok (.bipush 7, 2) := by decide +kernel
theorem fX_line_27 : decode (m_cc M_X_line) 27 = .ok (.invokestatic 19, 3) := by decide +kernel
theorem fX_line_30 : decode (m_cc M_X_line) 30 = .ok (.aload 5, 2) := by decide +kernel
theorem fX_line_32 : decode (m_cc M_X_line) 32 = .ok (.getfield 45, 3) := by decide +kernel
theorem fX_line_35 : decode (m_cc M_X_line) 35 = .ok (.ifCond .ne 7, 3) := by decide +kernel
theorem fX_line_38 : decode (m_cc M_X_line) 38 = .ok (.iconst 1, 1) := by decide +kernel
theorem fX_line_39 : decode (m_cc M_X_line) 39 = .ok (.goto 4, 3) := by decide +kernel
theorem fX_line_42 : decode (m_cc M_X_line) 42 = .ok (.iconst 0, 1) := by decide +kernel
theorem fX_line_43 : decode (m_cc M_X_line) 43 = .ok (.invokestatic 48, 3) := by decide +kernel
theorem fX_line_46 : decode (m_cc M_X_line) 46 = .ok (.aload 5, 2) := by decide +kernel
theorem fX_line_48 : decode (m_cc M_X_line) 48 = .ok (.getfield 52, 3) := by decide +kernel
theorem fX_line_51 : decode (m_cc M_X_line) 51 = .ok (.invokevirtual 53, 3) := by decide +kernel
theorem fX_line_54 : decode (m_cc M_X_line) 54 = .ok (.bipush 8, 2) := by decide +kernel
theorem fX_line_56 : decode (m_cc M_X_line) 56 = .ok (.if_icmp .ge 7, 3) := by decide +kernel
theorem fX_line_59 : decode (m_cc M_X_line) 59 = .ok (.iconst 1, 1) := by decide +kernel
theorem fX_line_60 : decode (m_cc M_X_line) 60 = .ok (.goto 4, 3) := by decide +kernel
theorem fX_line_63 : decode (m_cc M_X_line) 63 = .ok (.iconst 0, 1) := by decide +kernel
theorem fX_line_64 : decode (m_cc M_X_line) 64 = .ok (.invokestatic 57, 3) := by decide +kernel
theorem fX_line_67 : decode (m_cc M_X_line) 67 = .ok (.aload_n 0, 1) := by decide +kernel
theorem fX_line_68 : decode (m_cc M_X_line) 68 = .ok (.invokevirtual 60, 3) := by decide +kernel
theorem fX_line_71 : decode (m_cc M_X_line) 71 = .ok (.aload_n 0, 1) := by decide +kernel
theorem fX_line_72 : decode (m_cc M_X_line) 72 = .ok (.aload 5, 2) := by decide +kernel
theorem fX_line_74 : decode (m_cc M_X_line) 74 = .ok (.iload_n 2, 1) := by decide +kernel
theorem fX_line_75 : decode (m_cc M_X_line) 75 = .ok (.iload_n 3, 1) := by decide +kernel
theorem fX_line_76 : decode (m_cc M_X_line) 76 = .ok (.iload 4, 2) := by decide +kernel
theorem fX_line_78 : decode (m_cc M_X_line) 78 = .ok (.invokevirtual 63, 3) := by decide +kernel
theorem fX_line_81 : decode (m_cc M_X_line) 81 = .ok (.getfield 67, 3) := by decide +kernel
theorem fX_line_84 : decode (m_cc M_X_line) 84 = .ok (.ireturn, 1) := by decide +kernel
theorem fX_hold_0 : decode (m_cc M_X_hold) 0 = .ok (.aload_n 0, 1) := by decide +kernel
theorem fX_hold_1 : decode (m_cc M_X_hold) 1 = .ok (.iload_n 1, 1) := by decide +kernel
theorem fX_hold_2 : decode (m_cc M_X_hold) 2 = .ok (.invokevirtual 70, 3) := by decide +kernel
theorem fX_hold_5 : decode (m_cc M_X_hold) 5 = .ok (.astore_n 3, 1) := by decide +kernel
theorem fX_hold_6 : decode (m_cc M_X_hold) 6 = .ok (.iload_n 2, 1) := by decide +kernel
theorem fX_hold_7 : decode (m_cc M_X_hold) 7 = .ok (.iconst 1, 1) := by decide +kernel
theorem fX_hold_8 : decode (m_cc M_X_hold) 8 = .ok (.sipush 1000, 3) := by decide +kernel
theorem fX_hold_11 : decode (m_cc M_X_hold) 11 = .ok (.invokestatic 19, 3) := by decide +kernel
theorem fX_hold_14 : decode (m_cc M_X_hold) 14 = .ok (.aload_n 3, 1) := by decide +kernel
theorem fX_hold_15 : decode (m_cc M_X_hold) 15 = .ok (.getfield 74, 3) := by decide +kernel
theorem fX_hold_18 : decode (m_cc M_X_hold) 18 = .ok (.getfield 45, 3) := by decide +kernel
theorem fX_hold_21 : decode (m_cc M_X_hold) 21 = .ok (.ifCond .eq 14, 3) := by decide +kernel
theorem fX_hold_24 : decode (m_cc M_X_hold) 24 = .ok (.aload_n 3, 1) := by decide +kernel
theorem fX_hold_25 : decode (m_cc M_X_hold) 25 = .ok (.getfield 74, 3) := by decide +kernel
theorem fX_hold_28 : decode (m_cc M_X_hold) 28 = .ok (.getfield 45, 3) := by decide +kernel
theorem fX_hold_31 : decode (m_cc M_X_hold) 31 = .ok (.iconst 1, 1) := by decide +kernel
theorem fX_hold_32 : decode (m_cc M_X_hold) 32 = .ok (.if_icmp .ne 7, 3) := by decide +kernel
theorem fX_hold_35 : decode (m_cc M_X_hold) 35 = .ok (.iconst 1, 1) := by decide +kernel
theorem fX_hold_36 : decode (m_cc M_X_hold) 36 = .ok (.goto 4, 3) := by decide +kernel
theorem fX_hold_39 : decode (m_cc M_X_hold) 39 = .ok (.iconst 0, 1) := by decide +kernel
theorem fX_hold_40 : decode (m_cc M_X_hold) 40 = .ok (.invokestatic 48, 3) := by decide +kernel
theorem fX_hold_43 : decode (m_cc M_X_hold) 43 = .ok (.aload_n 3, 1) := by decide +kernel
theorem fX_hold_44 : decode (m_cc M_X_hold) 44 = .ok (.getfield 78, 3) := by decide +kernel
theorem fX_hold_47 : decode (m_cc M_X_hold) 47 = .ok (.invokestatic 48, 3) := by decide +kernel
theorem fX_hold_50 : decode (m_cc M_X_hold) 50 = .ok (.aload_n 3, 1) := by decide +kernel
theorem fX_hold_51 : decode (m_cc M_X_hold) 51 = .ok (.getfield 82, 3) := by decide +kernel
theorem fX_hold_54 : decode (m_cc M_X_hold) 54 = .ok (.iload_n 2, 1) := by decide +kernel
theorem fX_hold_55 : decode (m_cc M_X_hold) 55 = .ok (.iadd, 1) := by decide +kernel
theorem fX_hold_56 : decode (m_cc M_X_hold) 56 = .ok (.aload_n 3, 1) := by decide +kernel
theorem fX_hold_57 : decode (m_cc M_X_hold) 57 = .ok (.getfield 85, 3) := by decide +kernel
theorem fX_hold_60 : decode (m_cc M_X_hold) 60 = .ok (.if_icmp .gt 7, 3) := by decide +kernel
theorem fX_hold_63 : decode (m_cc M_X_hold) 63 = .ok (.iconst 1, 1) := by decide +kernel
theorem fX_hold_64 : decode (m_cc M_X_hold) 64 = .ok (.goto 4, 3) := by decide +kernel
theorem fX_hold_67 : decode (m_cc M_X_hold) 67 = .ok (.iconst 0, 1) := by decide +kernel
theorem fX_hold_68 : decode (m_cc M_X_hold) 68 = .ok (.invokestatic 48, 3) := by decide +kernel
theorem fX_hold_71 : decode (m_cc M_X_hold) 71 = .ok (.aload_n 3, 1) := by decide +kernel
theorem fX_hold_72 : decode (m_cc M_X_hold) 72 = .ok (.dup, 1) := by decide +kernel
theorem fX_hold_73 : decode (m_cc M_X_hold) 73 = .ok (.getfield 82, 3) := by decide +kernel
theorem fX_hold_76 : decode (m_cc M_X_hold) 76 = .ok (.iload_n 2, 1) := by decide +kernel
theorem fX_hold_77 : decode (m_cc M_X_hold) 77 = .ok (.iadd, 1) := by decide +kernel
theorem fX_hold_78 : decode (m_cc M_X_hold) 78 = .ok (.putfield 82, 3) := by decide +kernel
theorem fX_hold_81 : decode (m_cc M_X_hold) 81 = .ok (.aload_n 3, 1) := by decide +kernel
theorem fX_hold_82 : decode (m_cc M_X_hold) 82 = .ok (.getfield 74, 3) := by decide +kernel
theorem fX_hold_85 : decode (m_cc M_X_hold) 85 = .ok (.dup, 1) := by decide +kernel
theorem fX_hold_86 : decode (m_cc M_X_hold) 86 = .ok (.getfield 88, 3) := by decide +kernel
theorem fX_hold_89 : decode (m_cc M_X_hold) 89 = .ok (.iconst 1, 1) := by decide +kernel
theorem fX_hold_90 : decode (m_cc M_X_hold) 90 = .ok (.iadd, 1) := by decide +kernel
theorem fX_hold_91 : decode (m_cc M_X_hold) 91 = .ok (.putfield 88, 3) := by decide +kernel
theorem fX_hold_94 : decode (m_cc M_X_hold) 94 = .ok (.aload_n 3, 1) := by decide +kernel
theorem fX_hold_95 : decode (m_cc M_X_hold) 95 = .ok (.getfield 82, 3) := by decide +kernel
theorem fX_hold_98 : decode (m_cc M_X_hold) 98 = .ok (.ireturn, 1) := by decide +kernel
theorem fX_pick_0 : decode (m_cc M_X_pick) 0 = .ok (.aload_n 0, 1) := by decide +kernel
theorem fX_pick_1 : decode (m_cc M_X_pick) 1 = .ok (.iload_n 1, 1) := by decide +kernel
theorem fX_pick_2 : decode (m_cc M_X_pick) 2 = .ok (.invokevirtual 70, 3) := by decide +kernel
theorem fX_pick_5 : decode (m_cc M_X_pick) 5 = .ok (.astore_n 3, 1) := by decide +kernel
theorem fX_pick_6 : decode (m_cc M_X_pick) 6 = .ok (.iload_n 2, 1) := by decide +kernel
theorem fX_pick_7 : decode (m_cc M_X_pick) 7 = .ok (.iconst 1, 1) := by decide +kernel
theorem fX_pick_8 : decode (m_cc M_X_pick) 8 = .ok (.sipush 1000, 3) := by decide +kernel
theorem fX_pick_11 : decode (m_cc M_X_pick) 11 = .ok (.invokestatic 19, 3) := by decide +kernel
theorem fX_pick_14 : decode (m_cc M_X_pick) 14 = .ok (.aload_n 3, 1) := by decide +kernel
theorem fX_pick_15 : decode (m_cc M_X_pick) 15 = .ok (.getfield 74, 3) := by decide +kernel
theorem fX_pick_18 : decode (m_cc M_X_pick) 18 = .ok (.getfield 45, 3) := by decide +kernel
theorem fX_pick_21 : decode (m_cc M_X_pick) 21 = .ok (.iconst 2, 1) := by decide +kernel
theorem fX_pick_22 : decode (m_cc M_X_pick) 22 = .ok (.if_icmp .ne 7, 3) := by decide +kernel
theorem fX_pick_25 : decode (m_cc M_X_pick) 25 = .ok (.iconst 1, 1) := by decide +kernel
theorem fX_pick_26 : decode (m_cc M_X_pick) 26 = .ok (.goto 4, 3) := by decide +kernel
theorem fX_pick_29 : decode (m_cc M_X_pick) 29 = .ok (.iconst 0, 1) := by decide +kernel
theorem fX_pick_30 : decode (m_cc M_X_pick) 30 = .ok (.invokestatic 48, 3) := by decide +kernel
theorem fX_pick_33 : decode (m_cc M_X_pick) 33 = .ok (.aload_n 3, 1) := by decide +kernel
theorem fX_pick_34 : decode (m_cc M_X_pick) 34 = .ok (.getfield 74, 3) := by decide +kernel
theorem fX_pick_37 : decode (m_cc M_X_pick) 37 = .ok (.invokevirtual 91, 3) := by decide +kernel
theorem fX_pick_40 : decode (m_cc M_X_pick) 40 = .ok (.ifCond .ne 7, 3) := by decide +kernel
theorem fX_pick_43 : decode (m_cc M_X_pick) 43 = .ok (.iconst 1, 1) := by decide +kernel
theorem fX_pick_44 : decode (m_cc M_X_pick) 44 = .ok (.goto 4, 3) := by decide +kernel
theorem fX_pick_47 : decode (m_cc M_X_pick) 47 = .ok (.iconst 0, 1) := by decide +kernel
theorem fX_pick_48 : decode (m_cc M_X_pick) 48 = .ok (.invokestatic 48, 3) := by decide +kernel
theorem fX_pick_51 : decode (m_cc M_X_pick) 51 = .ok (.aload_n 3, 1) := by decide +kernel
theorem fX_pick_52 : decode (m_cc M_X_pick) 52 = .ok (.getfield 95, 3) := by decide +kernel
theorem fX_pick_55 : decode (m_cc M_X_pick) 55 = .ok (.iload_n 2, 1) := by decide +kernel
theorem fX_pick_56 : decode (m_cc M_X_pick) 56 = .ok (.iadd, 1) := by decide +kernel
theorem fX_pick_57 : decode (m_cc M_X_pick) 57 = .ok (.aload_n 3, 1) := by decide +kernel
theorem fX_pick_58 : decode (m_cc M_X_pick) 58 = .ok (.getfield 82, 3) := by decide +kernel
theorem fX_pick_61 : decode (m_cc M_X_pick) 61 = .ok (.if_icmp .gt 7, 3) := by decide +kernel
theorem fX_pick_64 : decode (m_cc M_X_pick) 64 = .ok (.iconst 1, 1) := by decide +kernel
theorem fX_pick_65 : decode (m_cc M_X_pick) 65 = .ok (.goto 4, 3) := by decide +kernel
theorem fX_pick_68 : decode (m_cc M_X_pick) 68 = .ok (.iconst 0, 1) := by decide +kernel
theorem fX_pick_69 : decode (m_cc M_X_pick) 69 = .ok (.invokestatic 48, 3) := by decide +kernel
theorem fX_pick_72 : decode (m_cc M_X_pick) 72 = .ok (.aload_n 3, 1) := by decide +kernel
theorem fX_pick_73 : decode (m_cc M_X_pick) 73 = .ok (.dup, 1) := by decide +kernel
theorem fX_pick_74 : decode (m_cc M_X_pick) 74 = .ok (.getfield 95, 3) := by decide +kernel
theorem fX_pick_77 : decode (m_cc M_X_pick) 77 = .ok (.iload_n 2, 1) := by decide +kernel
theorem fX_pick_78 : decode (m_cc M_X_pick) 78 = .ok (.iadd, 1) := by decide +kernel
theorem fX_pick_79 : decode (m_cc M_X_pick) 79 = .ok (.putfield 95, 3) := by decide +kernel
theorem fX_pick_82 : decode (m_cc M_X_pick) 82 = .ok (.aload_n 3, 1) := by decide +kernel
theorem fX_pick_83 : decode (m_cc M_X_pick) 83 = .ok (.getfield 74, 3) := by decide +kernel
theorem fX_pick_86 : decode (m_cc M_X_pick) 86 = .ok (.dup, 1) := by decide +kernel
theorem fX_pick_87 : decode (m_cc M_X_pick) 87 = .ok (.getfield 88, 3) := by decide +kernel
theorem fX_pick_90 : decode (m_cc M_X_pick) 90 = .ok (.iconst 1, 1) := by decide +kernel
theorem fX_pick_91 : decode (m_cc M_X_pick) 91 = .ok (.iadd, 1) := by decide +kernel
theorem fX_pick_92 : decode (m_cc M_X_pick) 92 = .ok (.putfield 88, 3) := by decide +kernel
theorem fX_pick_95 : decode (m_cc M_X_pick) 95 = .ok (.aload_n 3, 1) := by decide +kernel
theorem fX_pick_96 : decode (m_cc M_X_pick) 96 = .ok (.getfield 95, 3) := by decide +kernel
theorem fX_pick_99 : decode (m_cc M_X_pick) 99 = .ok (.ireturn, 1) := by decide +kernel
theorem fX_goOn_0 : decode (m_cc M_X_goOn) 0 = .ok (.aload_n 0, 1) := by decide +kernel
theorem fX_goOn_1 : decode (m_cc M_X_goOn) 1 = .ok (.iload_n 1, 1) := by decide +kernel
theorem fX_goOn_2 : decode (m_cc M_X_goOn) 2 = .ok (.invokevirtual 41, 3) := by decide +kernel
theorem fX_goOn_5 : decode (m_cc M_X_goOn) 5 = .ok (.astore_n 2, 1) := by decide +kernel
theorem fX_goOn_6 : decode (m_cc M_X_goOn) 6 = .ok (.aload_n 2, 1) := by decide +kernel
theorem fX_goOn_7 : decode (m_cc M_X_goOn) 7 = .ok (.getfield 45, 3) := by decide +kernel
theorem fX_goOn_10 : decode (m_cc M_X_goOn) 10 = .ok (.iconst 5, 1) := by decide +kernel
theorem fX_goOn_11 : decode (m_cc M_X_goOn) 11 = .ok (.if_icmp .ge 7, 3) := by decide +kernel
theorem fX_goOn_14 : decode (m_cc M_X_goOn) 14 = .ok (.iconst 1, 1) := by decide +kernel
theorem fX_goOn_15 : decode (m_cc M_X_goOn) 15 = .ok (.goto 4, 3) := by decide +kernel
theorem fX_goOn_18 : decode (m_cc M_X_goOn) 18 = .ok (.iconst 0, 1) := by decide +kernel
theorem fX_goOn_19 : decode (m_cc M_X_goOn) 19 = .ok (.invokestatic 48, 3) := by decide +kernel
theorem fX_goOn_22 : decode (m_cc M_X_goOn) 22 = .ok (.aload_n 2, 1) := by decide +kernel
theorem fX_goOn_23 : decode (m_cc M_X_goOn) 23 = .ok (.invokevirtual 91, 3) := by decide +kernel
theorem fX_goOn_26 : decode (m_cc M_X_goOn) 26 = .ok (.ifCond .ne 10, 3) := by decide +kernel
theorem fX_goOn_29 : decode (m_cc M_X_goOn) 29 = .ok (.aload_n 2, 1) := by decide +kernel
theorem fX_goOn_30 : decode (m_cc M_X_goOn) 30 = .ok (.invokevirtual 98, 3) := by decide +kernel
theorem fX_goOn_33 : decode (m_cc M_X_goOn) 33 = .ok (.ifCond .ne 5, 3) := by decide +kernel
theorem fX_goOn_36 : decode (m_cc M_X_goOn) 36 = .ok (.iconst (-1), 1) := by decide +kernel
theorem fX_goOn_37 : decode (m_cc M_X_goOn) 37 = .ok (.ireturn, 1) := by decide +kernel
theorem fX_goOn_38 : decode (m_cc M_X_goOn) 38 = .ok (.aload_n 2, 1) := by decide +kernel
theorem fX_goOn_39 : decode (m_cc M_X_goOn) 39 = .ok (.getfield 45, 3) := by decide +kernel
theorem fX_goOn_42 : decode (m_cc M_X_goOn) 42 = .ok (.iconst 3, 1) := by decide +kernel
theorem fX_goOn_43 : decode (m_cc M_X_goOn) 43 = .ok (.if_icmp .ne 7, 3) := by decide +kernel
theorem fX_goOn_46 : decode (m_cc M_X_goOn) 46 = .ok (.aload_n 2, 1) := by decide +kernel
theorem fX_goOn_47 : decode (m_cc M_X_goOn) 47 = .ok (.invokevirtual 101, 3) := by decide +kernel
theorem fX_goOn_50 : decode (m_cc M_X_goOn) 50 = .ok (.aload_n 2, 1) := by decide +kernel
theorem fX_goOn_51 : decode (m_cc M_X_goOn) 51 = .ok (.dup, 1) := by decide +kernel
theorem fX_goOn_52 : decode (m_cc M_X_goOn) 52 = .ok (.getfield 45, 3) := by decide +kernel
theorem fX_goOn_55 : decode (m_cc M_X_goOn) 55 = .ok (.iconst 1, 1) := by decide +kernel
theorem fX_goOn_56 : decode (m_cc M_X_goOn) 56 = .ok (.iadd, 1) := by decide +kernel
theorem fX_goOn_57 : decode (m_cc M_X_goOn) 57 = .ok (.putfield 45, 3) := by decide +kernel
theorem fX_goOn_60 : decode (m_cc M_X_goOn) 60 = .ok (.aload_n 2, 1) := by decide +kernel
theorem fX_goOn_61 : decode (m_cc M_X_goOn) 61 = .ok (.dup, 1) := by decide +kernel
theorem fX_goOn_62 : decode (m_cc M_X_goOn) 62 = .ok (.getfield 88, 3) := by decide +kernel
theorem fX_goOn_65 : decode (m_cc M_X_goOn) 65 = .ok (.iconst 1, 1) := by decide +kernel
theorem fX_goOn_66 : decode (m_cc M_X_goOn) 66 = .ok (.iadd, 1) := by decide +kernel
theorem fX_goOn_67 : decode (m_cc M_X_goOn) 67 = .ok (.putfield 88, 3) := by decide +kernel
theorem fX_goOn_70 : decode (m_cc M_X_goOn) 70 = .ok (.aload_n 2, 1) := by decide +kernel
theorem fX_goOn_71 : decode (m_cc M_X_goOn) 71 = .ok (.getfield 45, 3) := by decide +kernel
theorem fX_goOn_74 : decode (m_cc M_X_goOn) 74 = .ok (.ireturn, 1) := by decide +kernel
theorem fX_change_0 : decode (m_cc M_X_change) 0 = .ok (.aload_n 0, 1) := by decide +kernel
theorem fX_change_1 : decode (m_cc M_X_change) 1 = .ok (.iload_n 1, 1) := by decide +kernel
theorem fX_change_2 : decode (m_cc M_X_change) 2 = .ok (.invokevirtual 70, 3) := by decide +kernel
theorem fX_change_5 : decode (m_cc M_X_change) 5 = .ok (.astore 4, 2) := by decide +kernel
theorem fX_change_7 : decode (m_cc M_X_change) 7 = .ok (.iload_n 2, 1) := by decide +kernel
theorem fX_change_8 : decode (m_cc M_X_change) 8 = .ok (.iconst 0, 1) := by decide +kernel
theorem fX_change_9 : decode (m_cc M_X_change) 9 = .ok (.iconst 2, 1) := by decide +kernel
theorem fX_change_10 : decode (m_cc M_X_change) 10 = .ok (.invokestatic 19, 3) := by decide +kernel
theorem fX_change_13 : decode (m_cc M_X_change) 13 = .ok (.iload_n 2, 1) := by decide +kernel
theorem fX_change_14 : decode (m_cc M_X_change) 14 = .ok (.iload_n 3, 1) := by decide +kernel
theorem fX_change_15 : decode (m_cc M_X_change) 15 = .ok (.invokestatic 104, 3) := by decide +kernel
theorem fX_change_18 : decode (m_cc M_X_change) 18 = .ok (.aload 4, 2) := by decide +kernel
theorem fX_change_20 : decode (m_cc M_X_change) 20 = .ok (.getfield 78, 3) := by decide +kernel
theorem fX_change_23 : decode (m_cc M_X_change) 23 = .ok (.invokestatic 48, 3) := by decide +kernel
theorem fX_change_26 : decode (m_cc M_X_change) 26 = .ok (.aload 4, 2) := by decide +kernel
theorem fX_change_28 : decode (m_cc M_X_change) 28 = .ok (.getfield 74, 3) := by decide +kernel
theorem fX_change_31 : decode (m_cc M_X_change) 31 = .ok (.getfield 45, 3) := by decide +kernel
theorem fX_change_34 : decode (m_cc M_X_change) 34 = .ok (.iload_n 2, 1) := by decide +kernel
theorem fX_change_35 : decode (m_cc M_X_change) 35 = .ok (.invokestatic 108, 3) := by decide +kernel
theorem fX_change_38 : decode (m_cc M_X_change) 38 = .ok (.ifCond .ne 5, 3) := by decide +kernel
theorem fX_change_41 : decode (m_cc M_X_change) 41 = .ok (.iconst 0, 1) := by decide +kernel
theorem fX_change_42 : decode (m_cc M_X_change) 42 = .ok (.ireturn, 1) := by decide +kernel
theorem fX_change_43 : decode (m_cc M_X_change) 43 = .ok (.iload_n 2, 1) := by decide +kernel
theorem fX_change_44 : decode (m_cc M_X_change) 44 = .ok (.iconst 1, 1) := by decide +kernel
theorem fX_change_45 : decode (m_cc M_X_change) 45 = .ok (.if_icmp .ne 29, 3) := by decide +kernel
theorem fX_change_48 : decode (m_cc M_X_change) 48 = .ok (.aload 4, 2) := by decide +kernel
theorem fX_change_50 : decode (m_cc M_X_change) 50 = .ok (.iconst 2, 1) := by decide +kernel
theorem fX_change_51 : decode (m_cc M_X_change) 51 = .ok (.invokevirtual 112, 3) := by decide +kernel
theorem fX_change_54 : decode (m_cc M_X_change) 54 = .ok (.invokestatic 48, 3) := by decide +kernel
theorem fX_change_57 : decode (m_cc M_X_change) 57 = .ok (.iload_n 3, 1) := by decide +kernel
theorem fX_change_58 : decode (m_cc M_X_change) 58 = .ok (.aload 4, 2) := by decide +kernel
theorem fX_change_60 : decode (m_cc M_X_change) 60 = .ok (.getfield 116, 3) := by decide +kernel
theorem fX_change_63 : decode (m_cc M_X_change) 63 = .ok (.if_icmp .eq 7, 3) := by decide +kernel
theorem fX_change_66 : decode (m_cc M_X_change) 66 = .ok (.iconst 1, 1) := by decide +kernel
theorem fX_change_67 : decode (m_cc M_X_change) 67 = .ok (.goto 4, 3) := by decide +kernel
theorem fX_change_70 : decode (m_cc M_X_change) 70 = .ok (.iconst 0, 1) := by decide +kernel
theorem fX_change_71 : decode (m_cc M_X_change) 71 = .ok (.invokestatic 48, 3) := by decide +kernel
theorem fX_change_74 : decode (m_cc M_X_change) 74 = .ok (.aload 4, 2) := by decide +kernel
theorem fX_change_76 : decode (m_cc M_X_change) 76 = .ok (.iload_n 2, 1) := by decide +kernel
theorem fX_change_77 : decode (m_cc M_X_change) 77 = .ok (.iload_n 3, 1) := by decide +kernel
theorem fX_change_78 : decode (m_cc M_X_change) 78 = .ok (.invokestatic 119, 3) := by decide +kernel
theorem fX_change_81 : decode (m_cc M_X_change) 81 = .ok (.aload 4, 2) := by decide +kernel
theorem fX_change_83 : decode (m_cc M_X_change) 83 = .ok (.getfield 74, 3) := by decide +kernel
theorem fX_change_86 : decode (m_cc M_X_change) 86 = .ok (.dup, 1) := by decide +kernel
theorem fX_change_87 : decode (m_cc M_X_change) 87 = .ok (.getfield 88, 3) := by decide +kernel
theorem fX_change_90 : decode (m_cc M_X_change) 90 = .ok (.iconst 1, 1) := by decide +kernel
theorem fX_change_91 : decode (m_cc M_X_change) 91 = .ok (.iadd, 1) := by decide +kernel
theorem fX_change_92 : decode (m_cc M_X_change) 92 = .ok (.putfield 88, 3) := by decide +kernel
theorem fX_change_95 : decode (m_cc M_X_change) 95 = .ok (.iconst 1, 1) := by decide +kernel
theorem fX_change_96 : decode (m_cc M_X_change) 96 = .ok (.ireturn, 1) := by decide +kernel
theorem fX_move_0 : decode (m_cc M_X_move) 0 = .ok (.aload_n 0, 1) := by decide +kernel
theorem fX_move_1 : decode (m_cc M_X_move) 1 = .ok (.iload_n 1, 1) := by decide +kernel
theorem fX_move_2 : decode (m_cc M_X_move) 2 = .ok (.invokevirtual 41, 3) := by decide +kernel
theorem fX_move_5 : decode (m_cc M_X_move) 5 = .ok (.astore_n 3, 1) := by decide +kernel
theorem fX_move_6 : decode (m_cc M_X_move) 6 = .ok (.iload_n 2, 1) := by decide +kernel
theorem fX_move_7 : decode (m_cc M_X_move) 7 = .ok (.iconst 0, 1) := by decide +kernel
theorem fX_move_8 : decode (m_cc M_X_move) 8 = .ok (.sipush 10000, 3) := by decide +kernel
theorem fX_move_11 : decode (m_cc M_X_move) 11 = .ok (.invokestatic 19, 3) := by decide +kernel
theorem fX_move_14 : decode (m_cc M_X_move) 14 = .ok (.aload_n 3, 1) := by decide +kernel
theorem fX_move_15 : decode (m_cc M_X_move) 15 = .ok (.getfield 45, 3) := by decide +kernel
theorem fX_move_18 : decode (m_cc M_X_move) 18 = .ok (.iconst 4, 1) := by decide +kernel
theorem fX_move_19 : decode (m_cc M_X_move) 19 = .ok (.if_icmp .lt 5, 3) := by decide +kernel
theorem fX_move_22 : decode (m_cc M_X_move) 22 = .ok (.iconst 0, 1) := by decide +kernel
theorem fX_move_23 : decode (m_cc M_X_move) 23 = .ok (.ireturn, 1) := by decide +kernel
theorem fX_move_24 : decode (m_cc M_X_move) 24 = .ok (.aload_n 3, 1) := by decide +kernel
theorem fX_move_25 : decode (m_cc M_X_move) 25 = .ok (.iload_n 2, 1) := by decide +kernel
theorem fX_move_26 : decode (m_cc M_X_move) 26 = .ok (.putfield 123, 3) := by decide +kernel
theorem fX_move_29 : decode (m_cc M_X_move) 29 = .ok (.aload_n 3, 1) := by decide +kernel
theorem fX_move_30 : decode (m_cc M_X_move) 30 = .ok (.dup, 1) := by decide +kernel
theorem fX_move_31 : decode (m_cc M_X_move) 31 = .ok (.getfield 88, 3) := by decide +kernel
theorem fX_move_34 : decode (m_cc M_X_move) 34 = .ok (.iconst 1, 1) := by decide +kernel
theorem fX_move_35 : decode (m_cc M_X_move) 35 = .ok (.iadd, 1) := by decide +kernel
theorem fX_move_36 : decode (m_cc M_X_move) 36 = .ok (.putfield 88, 3) := by decide +kernel
theorem fX_move_39 : decode (m_cc M_X_move) 39 = .ok (.iconst 1, 1) := by decide +kernel
theorem fX_move_40 : decode (m_cc M_X_move) 40 = .ok (.ireturn, 1) := by decide +kernel
theorem fX_cancel_0 : decode (m_cc M_X_cancel) 0 = .ok (.aload_n 0, 1) := by decide +kernel
theorem fX_cancel_1 : decode (m_cc M_X_cancel) 1 = .ok (.iload_n 1, 1) := by decide +kernel
theorem fX_cancel_2 : decode (m_cc M_X_cancel) 2 = .ok (.invokevirtual 70, 3) := by decide +kernel
theorem fX_cancel_5 : decode (m_cc M_X_cancel) 5 = .ok (.astore_n 2, 1) := by decide +kernel
theorem fX_cancel_6 : decode (m_cc M_X_cancel) 6 = .ok (.aload_n 2, 1) := by decide +kernel
theorem fX_cancel_7 : decode (m_cc M_X_cancel) 7 = .ok (.getfield 74, 3) := by decide +kernel
theorem fX_cancel_10 : decode (m_cc M_X_cancel) 10 = .ok (.astore_n 3, 1) := by decide +kernel
theorem fX_cancel_11 : decode (m_cc M_X_cancel) 11 = .ok (.aload_n 2, 1) := by decide +kernel
theorem fX_cancel_12 : decode (m_cc M_X_cancel) 12 = .ok (.getfield 78, 3) := by decide +kernel
theorem fX_cancel_15 : decode (m_cc M_X_cancel) 15 = .ok (.invokestatic 48, 3) := by decide +kernel
theorem fX_cancel_18 : decode (m_cc M_X_cancel) 18 = .ok (.aload_n 3, 1) := by decide +kernel
theorem fX_cancel_19 : decode (m_cc M_X_cancel) 19 = .ok (.getfield 45, 3) := by decide +kernel
theorem fX_cancel_22 : decode (m_cc M_X_cancel) 22 = .ok (.iconst 2, 1) := by decide +kernel
theorem fX_cancel_23 : decode (m_cc M_X_cancel) 23 = .ok (.if_icmp .gt 7, 3) := by decide +kernel
theorem fX_cancel_26 : decode (m_cc M_X_cancel) 26 = .ok (.iconst 1, 1) := by decide +kernel
theorem fX_cancel_27 : decode (m_cc M_X_cancel) 27 = .ok (.goto 4, 3) := by decide +kernel
theorem fX_cancel_30 : decode (m_cc M_X_cancel) 30 = .ok (.iconst 0, 1) := by decide +kernel
theorem fX_cancel_31 : decode (m_cc M_X_cancel) 31 = .ok (.invokestatic 48, 3) := by decide +kernel
theorem fX_cancel_34 : decode (m_cc M_X_cancel) 34 = .ok (.aload_n 2, 1) := by decide +kernel
theorem fX_cancel_35 : decode (m_cc M_X_cancel) 35 = .ok (.getfield 82, 3) := by decide +kernel
theorem fX_cancel_38 : decode (m_cc M_X_cancel) 38 = .ok (.istore 4, 2) := by decide +kernel
theorem fX_cancel_40 : decode (m_cc M_X_cancel) 40 = .ok (.aload_n 2, 1) := by decide +kernel
theorem fX_cancel_41 : decode (m_cc M_X_cancel) 41 = .ok (.iconst 0, 1) := by decide +kernel
theorem fX_cancel_42 : decode (m_cc M_X_cancel) 42 = .ok (.putfield 78, 3) := by decide +kernel
theorem fX_cancel_45 : decode (m_cc M_X_cancel) 45 = .ok (.aload_n 2, 1) := by decide +kernel
theorem fX_cancel_46 : decode (m_cc M_X_cancel) 46 = .ok (.iconst 0, 1) := by decide +kernel
theorem fX_cancel_47 : decode (m_cc M_X_cancel) 47 = .ok (.putfield 85, 3) := by decide +kernel
theorem fX_cancel_50 : decode (m_cc M_X_cancel) 50 = .ok (.aload_n 2, 1) := by decide +kernel
theorem fX_cancel_51 : decode (m_cc M_X_cancel) 51 = .ok (.iconst 0, 1) := by decide +kernel
theorem fX_cancel_52 : decode (m_cc M_X_cancel) 52 = .ok (.putfield 82, 3) := by decide +kernel
theorem fX_cancel_55 : decode (m_cc M_X_cancel) 55 = .ok (.aload_n 2, 1) := by decide +kernel
theorem fX_cancel_56 : decode (m_cc M_X_cancel) 56 = .ok (.iconst 0, 1) := by decide +kernel
theorem fX_cancel_57 : decode (m_cc M_X_cancel) 57 = .ok (.putfield 95, 3) := by decide +kernel
theorem fX_cancel_60 : decode (m_cc M_X_cancel) 60 = .ok (.aload_n 3, 1) := by decide +kernel
theorem fX_cancel_61 : decode (m_cc M_X_cancel) 61 = .ok (.dup, 1) := by decide +kernel
theorem fX_cancel_62 : decode (m_cc M_X_cancel) 62 = .ok (.getfield 88, 3) := by decide +kernel
theorem fX_cancel_65 : decode (m_cc M_X_cancel) 65 = .ok (.iconst 1, 1) := by decide +kernel
theorem fX_cancel_66 : decode (m_cc M_X_cancel) 66 = .ok (.iadd, 1) := by decide +kernel
theorem fX_cancel_67 : decode (m_cc M_X_cancel) 67 = .ok (.putfield 88, 3) := by decide +kernel
theorem fX_cancel_70 : decode (m_cc M_X_cancel) 70 = .ok (.aload_n 3, 1) := by decide +kernel
theorem fX_cancel_71 : decode (m_cc M_X_cancel) 71 = .ok (.invokevirtual 126, 3) := by decide +kernel
theorem fX_cancel_74 : decode (m_cc M_X_cancel) 74 = .ok (.ifCond .ne 9, 3) := by decide +kernel
theorem fX_cancel_77 : decode (m_cc M_X_cancel) 77 = .ok (.aload_n 3, 1) := by decide +kernel
theorem fX_cancel_78 : decode (m_cc M_X_cancel) 78 = .ok (.bipush 6, 2) := by decide +kernel
theorem fX_cancel_80 : decode (m_cc M_X_cancel) 80 = .ok (.putfield 45, 3) := by decide +kernel
theorem fX_cancel_83 : decode (m_cc M_X_cancel) 83 = .ok (.iload 4, 2) := by decide +kernel
theorem fX_cancel_85 : decode (m_cc M_X_cancel) 85 = .ok (.ireturn, 1) := by decide +kernel
theorem fX_join_0 : decode (m_cc M_X_join) 0 = .ok (.aload_n 0, 1) := by decide +kernel
theorem fX_join_1 : decode (m_cc M_X_join) 1 = .ok (.iload_n 1, 1) := by decide +kernel
theorem fX_join_2 : decode (m_cc M_X_join) 2 = .ok (.invokevirtual 41, 3) := by decide +kernel
theorem fX_join_5 : decode (m_cc M_X_join) 5 = .ok (.astore_n 3, 1) := by decide +kernel
theorem fX_join_6 : decode (m_cc M_X_join) 6 = .ok (.aload_n 0, 1) := by decide +kernel
theorem fX_join_7 : decode (m_cc M_X_join) 7 = .ok (.iload_n 2, 1) := by decide +kernel
theorem fX_join_8 : decode (m_cc M_X_join) 8 = .ok (.invokevirtual 41, 3) := by decide +kernel
theorem fX_join_11 : decode (m_cc M_X_join) 11 = .ok (.astore 4, 2) := by decide +kernel
theorem fX_join_13 : decode (m_cc M_X_join) 13 = .ok (.aload_n 3, 1) := by decide +kernel
theorem fX_join_14 : decode (m_cc M_X_join) 14 = .ok (.aload 4, 2) := by decide +kernel
theorem fX_join_16 : decode (m_cc M_X_join) 16 = .ok (.if_acmp .eq 7, 3) := by decide +kernel
theorem fX_join_19 : decode (m_cc M_X_join) 19 = .ok (.iconst 1, 1) := by decide +kernel
theorem fX_join_20 : decode (m_cc M_X_join) 20 = .ok (.goto 4, 3) := by decide +kernel
theorem fX_join_23 : decode (m_cc M_X_join) 23 = .ok (.iconst 0, 1) := by decide +kernel
theorem fX_join_24 : decode (m_cc M_X_join) 24 = .ok (.invokestatic 48, 3) := by decide +kernel
theorem fX_join_27 : decode (m_cc M_X_join) 27 = .ok (.aload_n 3, 1) := by decide +kernel
theorem fX_join_28 : decode (m_cc M_X_join) 28 = .ok (.getfield 45, 3) := by decide +kernel
theorem fX_join_31 : decode (m_cc M_X_join) 31 = .ok (.ifCond .ne 15, 3) := by decide +kernel
theorem fX_join_34 : decode (m_cc M_X_join) 34 = .ok (.aload 4, 2) := by decide +kernel
theorem fX_join_36 : decode (m_cc M_X_join) 36 = .ok (.getfield 45, 3) := by decide +kernel
theorem fX_join_39 : decode (m_cc M_X_join) 39 = .ok (.ifCond .ne 7, 3) := by decide +kernel
theorem fX_join_42 : decode (m_cc M_X_join) 42 = .ok (.iconst 1, 1) := by decide +kernel
theorem fX_join_43 : decode (m_cc M_X_join) 43 = .ok (.goto 4, 3) := by decide +kernel
theorem fX_join_46 : decode (m_cc M_X_join) 46 = .ok (.iconst 0, 1) := by decide +kernel
theorem fX_join_47 : decode (m_cc M_X_join) 47 = .ok (.invokestatic 48, 3) := by decide +kernel
theorem fX_join_50 : decode (m_cc M_X_join) 50 = .ok (.aload_n 3, 1) := by decide +kernel
theorem fX_join_51 : decode (m_cc M_X_join) 51 = .ok (.getfield 129, 3) := by decide +kernel
theorem fX_join_54 : decode (m_cc M_X_join) 54 = .ok (.aload 4, 2) := by decide +kernel
theorem fX_join_56 : decode (m_cc M_X_join) 56 = .ok (.getfield 129, 3) := by decide +kernel
theorem fX_join_59 : decode (m_cc M_X_join) 59 = .ok (.if_icmp .ne 7, 3) := by decide +kernel
theorem fX_join_62 : decode (m_cc M_X_join) 62 = .ok (.iconst 1, 1) := by decide +kernel
theorem fX_join_63 : decode (m_cc M_X_join) 63 = .ok (.goto 4, 3) := by decide +kernel
theorem fX_join_66 : decode (m_cc M_X_join) 66 = .ok (.iconst 0, 1) := by decide +kernel
theorem fX_join_67 : decode (m_cc M_X_join) 67 = .ok (.invokestatic 48, 3) := by decide +kernel
theorem fX_join_70 : decode (m_cc M_X_join) 70 = .ok (.aload_n 3, 1) := by decide +kernel
theorem fX_join_71 : decode (m_cc M_X_join) 71 = .ok (.invokevirtual 91, 3) := by decide +kernel
theorem fX_join_74 : decode (m_cc M_X_join) 74 = .ok (.ifCond .ne 15, 3) := by decide +kernel
theorem fX_join_77 : decode (m_cc M_X_join) 77 = .ok (.aload 4, 2) := by decide +kernel
theorem fX_join_79 : decode (m_cc M_X_join) 79 = .ok (.invokevirtual 91, 3) := by decide +kernel
theorem fX_join_82 : decode (m_cc M_X_join) 82 = .ok (.ifCond .ne 7, 3) := by decide +kernel
theorem fX_join_85 : decode (m_cc M_X_join) 85 = .ok (.iconst 1, 1) := by decide +kernel
theorem fX_join_86 : decode (m_cc M_X_join) 86 = .ok (.goto 4, 3) := by decide +kernel
theorem fX_join_89 : decode (m_cc M_X_join) 89 = .ok (.iconst 0, 1) := by decide +kernel
theorem fX_join_90 : decode (m_cc M_X_join) 90 = .ok (.invokestatic 48, 3) := by decide +kernel
theorem fX_join_93 : decode (m_cc M_X_join) 93 = .ok (.aload_n 3, 1) := by decide +kernel
theorem fX_join_94 : decode (m_cc M_X_join) 94 = .ok (.getfield 52, 3) := by decide +kernel
theorem fX_join_97 : decode (m_cc M_X_join) 97 = .ok (.invokevirtual 53, 3) := by decide +kernel
theorem fX_join_100 : decode (m_cc M_X_join) 100 = .ok (.aload 4, 2) := by decide +kernel
theorem fX_join_102 : decode (m_cc M_X_join) 102 = .ok (.getfield 52, 3) := by decide +kernel
theorem fX_join_105 : decode (m_cc M_X_join) 105 = .ok (.invokevirtual 53, 3) := by decide +kernel
theorem fX_join_108 : decode (m_cc M_X_join) 108 = .ok (.iadd, 1) := by decide +kernel
theorem fX_join_109 : decode (m_cc M_X_join) 109 = .ok (.bipush 8, 2) := by decide +kernel
theorem fX_join_111 : decode (m_cc M_X_join) 111 = .ok (.if_icmp .gt 7, 3) := by decide +kernel
theorem fX_join_114 : decode (m_cc M_X_join) 114 = .ok (.iconst 1, 1) := by decide +kernel
theorem fX_join_115 : decode (m_cc M_X_join) 115 = .ok (.goto 4, 3) := by decide +kernel
theorem fX_join_118 : decode (m_cc M_X_join) 118 = .ok (.iconst 0, 1) := by decide +kernel
theorem fX_join_119 : decode (m_cc M_X_join) 119 = .ok (.invokestatic 57, 3) := by decide +kernel
theorem fX_join_122 : decode (m_cc M_X_join) 122 = .ok (.aload_n 3, 1) := by decide +kernel
theorem fX_join_123 : decode (m_cc M_X_join) 123 = .ok (.aload 4, 2) := by decide +kernel
theorem fX_join_125 : decode (m_cc M_X_join) 125 = .ok (.invokevirtual 132, 3) := by decide +kernel
theorem fX_join_128 : decode (m_cc M_X_join) 128 = .ok (.aload 4, 2) := by decide +kernel
theorem fX_join_130 : decode (m_cc M_X_join) 130 = .ok (.bipush 7, 2) := by decide +kernel
theorem fX_join_132 : decode (m_cc M_X_join) 132 = .ok (.putfield 45, 3) := by decide +kernel
theorem fX_join_135 : decode (m_cc M_X_join) 135 = .ok (.aload 4, 2) := by decide +kernel
theorem fX_join_137 : decode (m_cc M_X_join) 137 = .ok (.aload_n 3, 1) := by decide +kernel
theorem fX_join_138 : decode (m_cc M_X_join) 138 = .ok (.getfield 35, 3) := by decide +kernel
theorem fX_join_141 : decode (m_cc M_X_join) 141 = .ok (.putfield 136, 3) := by decide +kernel
theorem fX_join_144 : decode (m_cc M_X_join) 144 = .ok (.aload_n 3, 1) := by decide +kernel
theorem fX_join_145 : decode (m_cc M_X_join) 145 = .ok (.dup, 1) := by decide +kernel
theorem fX_join_146 : decode (m_cc M_X_join) 146 = .ok (.getfield 88, 3) := by decide +kernel
theorem fX_join_149 : decode (m_cc M_X_join) 149 = .ok (.iconst 1, 1) := by decide +kernel
theorem fX_join_150 : decode (m_cc M_X_join) 150 = .ok (.iadd, 1) := by decide +kernel
theorem fX_join_151 : decode (m_cc M_X_join) 151 = .ok (.putfield 88, 3) := by decide +kernel
theorem fX_join_154 : decode (m_cc M_X_join) 154 = .ok (.aload 4, 2) := by decide +kernel
theorem fX_join_156 : decode (m_cc M_X_join) 156 = .ok (.dup, 1) := by decide +kernel
theorem fX_join_157 : decode (m_cc M_X_join) 157 = .ok (.getfield 88, 3) := by decide +kernel
theorem fX_join_160 : decode (m_cc M_X_join) 160 = .ok (.iconst 1, 1) := by decide +kernel
theorem fX_join_161 : decode (m_cc M_X_join) 161 = .ok (.iadd, 1) := by decide +kernel
theorem fX_join_162 : decode (m_cc M_X_join) 162 = .ok (.putfield 88, 3) := by decide +kernel
theorem fX_join_165 : decode (m_cc M_X_join) 165 = .ok (.return_, 1) := by decide +kernel
theorem fX_block_0 : decode (m_cc M_X_block) 0 = .ok (.aload_n 0, 1) := by decide +kernel
theorem fX_block_1 : decode (m_cc M_X_block) 1 = .ok (.iload_n 1, 1) := by decide +kernel
theorem fX_block_2 : decode (m_cc M_X_block) 2 = .ok (.invokevirtual 41, 3) := by decide +kernel
theorem fX_block_5 : decode (m_cc M_X_block) 5 = .ok (.astore 4, 2) := by decide +kernel
theorem fX_block_7 : decode (m_cc M_X_block) 7 = .ok (.iload_n 2, 1) := by decide +kernel
theorem fX_block_8 : decode (m_cc M_X_block) 8 = .ok (.iconst 0, 1) := by decide +kernel
theorem fX_block_9 : decode (m_cc M_X_block) 9 = .ok (.bipush 7, 2) := by decide +kernel
theorem fX_block_11 : decode (m_cc M_X_block) 11 = .ok (.invokestatic 19, 3) := by decide +kernel
theorem fX_block_14 : decode (m_cc M_X_block) 14 = .ok (.aload 4, 2) := by decide +kernel
theorem fX_block_16 : decode (m_cc M_X_block) 16 = .ok (.getfield 45, 3) := by decide +kernel
theorem fX_block_19 : decode (m_cc M_X_block) 19 = .ok (.iconst 4, 1) := by decide +kernel
theorem fX_block_20 : decode (m_cc M_X_block) 20 = .ok (.if_icmp .ge 7, 3) := by decide +kernel
theorem fX_block_23 : decode (m_cc M_X_block) 23 = .ok (.iconst 1, 1) := by decide +kernel
theorem fX_block_24 : decode (m_cc M_X_block) 24 = .ok (.goto 4, 3) := by decide +kernel
theorem fX_block_27 : decode (m_cc M_X_block) 27 = .ok (.iconst 0, 1) := by decide +kernel
theorem fX_block_28 : decode (m_cc M_X_block) 28 = .ok (.invokestatic 48, 3) := by decide +kernel
theorem fX_block_31 : decode (m_cc M_X_block) 31 = .ok (.iconst 1, 1) := by decide +kernel
theorem fX_block_32 : decode (m_cc M_X_block) 32 = .ok (.iload_n 2, 1) := by decide +kernel
theorem fX_block_33 : decode (m_cc M_X_block) 33 = .ok (.ishl, 1) := by decide +kernel
theorem fX_block_34 : decode (m_cc M_X_block) 34 = .ok (.istore 5, 2) := by decide +kernel
theorem fX_block_36 : decode (m_cc M_X_block) 36 = .ok (.aload 4, 2) := by decide +kernel
theorem fX_block_38 : decode (m_cc M_X_block) 38 = .ok (.getfield 139, 3) := by decide +kernel
theorem fX_block_41 : decode (m_cc M_X_block) 41 = .ok (.iload 5, 2) := by decide +kernel
theorem fX_block_43 : decode (m_cc M_X_block) 43 = .ok (.iand, 1) := by decide +kernel
theorem fX_block_44 : decode (m_cc M_X_block) 44 = .ok (.ifCond .eq 7, 3) := by decide +kernel
theorem fX_block_47 : decode (m_cc M_X_block) 47 = .ok (.iconst 1, 1) := by decide +kernel
theorem fX_block_48 : decode (m_cc M_X_block) 48 = .ok (.goto 4, 3) := by decide +kernel
theorem fX_block_51 : decode (m_cc M_X_block) 51 = .ok (.iconst 0, 1) := by decide +kernel
theorem fX_block_52 : decode (m_cc M_X_block) 52 = .ok (.istore 6, 2) := by decide +kernel
theorem fX_block_54 : decode (m_cc M_X_block) 54 = .ok (.iload 6, 2) := by decide +kernel
theorem fX_block_56 : decode (m_cc M_X_block) 56 = .ok (.iload_n 3, 1) := by decide +kernel
theorem fX_block_57 : decode (m_cc M_X_block) 57 = .ok (.if_icmp .eq 7, 3) := by decide +kernel
theorem fX_block_60 : decode (m_cc M_X_block) 60 = .ok (.iconst 1, 1) := by decide +kernel
theorem fX_block_61 : decode (m_cc M_X_block) 61 = .ok (.goto 4, 3) := by decide +kernel
theorem fX_block_64 : decode (m_cc M_X_block) 64 = .ok (.iconst 0, 1) := by decide +kernel
theorem fX_block_65 : decode (m_cc M_X_block) 65 = .ok (.invokestatic 48, 3) := by decide +kernel
theorem fX_block_68 : decode (m_cc M_X_block) 68 = .ok (.aload 4, 2) := by decide +kernel
theorem fX_block_70 : decode (m_cc M_X_block) 70 = .ok (.dup, 1) := by decide +kernel
theorem fX_block_71 : decode (m_cc M_X_block) 71 = .ok (.getfield 139, 3) := by decide +kernel
theorem fX_block_74 : decode (m_cc M_X_block) 74 = .ok (.iload 5, 2) := by decide +kernel
theorem fX_block_76 : decode (m_cc M_X_block) 76 = .ok (.ixor, 1) := by decide +kernel
theorem fX_block_77 : decode (m_cc M_X_block) 77 = .ok (.putfield 139, 3) := by decide +kernel
theorem fX_block_80 : decode (m_cc M_X_block) 80 = .ok (.aload 4, 2) := by decide +kernel
theorem fX_block_82 : decode (m_cc M_X_block) 82 = .ok (.dup, 1) := by decide +kernel
theorem fX_block_83 : decode (m_cc M_X_block) 83 = .ok (.getfield 88, 3) := by decide +kernel
theorem fX_block_86 : decode (m_cc M_X_block) 86 = .ok (.iconst 1, 1) := by decide +kernel
theorem fX_block_87 : decode (m_cc M_X_block) 87 = .ok (.iadd, 1) := by decide +kernel
theorem fX_block_88 : decode (m_cc M_X_block) 88 = .ok (.putfield 88, 3) := by decide +kernel
theorem fX_block_91 : decode (m_cc M_X_block) 91 = .ok (.aload 4, 2) := by decide +kernel
theorem fX_block_93 : decode (m_cc M_X_block) 93 = .ok (.getfield 139, 3) := by decide +kernel
theorem fX_block_96 : decode (m_cc M_X_block) 96 = .ok (.invokestatic 142, 3) := by decide +kernel
theorem fX_block_99 : decode (m_cc M_X_block) 99 = .ok (.ireturn, 1) := by decide +kernel
theorem fX_backorder_0 : decode (m_cc M_X_backorder) 0 = .ok (.aload_n 0, 1) := by decide +kernel
theorem fX_backorder_1 : decode (m_cc M_X_backorder) 1 = .ok (.iload_n 1, 1) := by decide +kernel
theorem fX_backorder_2 : decode (m_cc M_X_backorder) 2 = .ok (.invokevirtual 70, 3) := by decide +kernel
theorem fX_backorder_5 : decode (m_cc M_X_backorder) 5 = .ok (.astore_n 2, 1) := by decide +kernel
theorem fX_backorder_6 : decode (m_cc M_X_backorder) 6 = .ok (.aload_n 2, 1) := by decide +kernel
theorem fX_backorder_7 : decode (m_cc M_X_backorder) 7 = .ok (.getfield 74, 3) := by decide +kernel
theorem fX_backorder_10 : decode (m_cc M_X_backorder) 10 = .ok (.astore_n 3, 1) := by decide +kernel
theorem fX_backorder_11 : decode (m_cc M_X_backorder) 11 = .ok (.aload_n 3, 1) := by decide +kernel
theorem fX_backorder_12 : decode (m_cc M_X_backorder) 12 = .ok (.getfield 45, 3) := by decide +kernel
theorem fX_backorder_15 : decode (m_cc M_X_backorder) 15 = .ok (.iconst 4, 1) := by decide +kernel
theorem fX_backorder_16 : decode (m_cc M_X_backorder) 16 = .ok (.if_icmp .ne 7, 3) := by decide +kernel
theorem fX_backorder_19 : decode (m_cc M_X_backorder) 19 = .ok (.iconst 1, 1) := by decide +kernel
theorem fX_backorder_20 : decode (m_cc M_X_backorder) 20 = .ok (.goto 4, 3) := by decide +kernel
theorem fX_backorder_23 : decode (m_cc M_X_backorder) 23 = .ok (.iconst 0, 1) := by decide +kernel
theorem fX_backorder_24 : decode (m_cc M_X_backorder) 24 = .ok (.invokestatic 48, 3) := by decide +kernel
theorem fX_backorder_27 : decode (m_cc M_X_backorder) 27 = .ok (.aload_n 2, 1) := by decide +kernel
theorem fX_backorder_28 : decode (m_cc M_X_backorder) 28 = .ok (.invokevirtual 148, 3) := by decide +kernel
theorem fX_backorder_31 : decode (m_cc M_X_backorder) 31 = .ok (.invokestatic 48, 3) := by decide +kernel
theorem fX_backorder_34 : decode (m_cc M_X_backorder) 34 = .ok (.aload_n 0, 1) := by decide +kernel
theorem fX_backorder_35 : decode (m_cc M_X_backorder) 35 = .ok (.invokevirtual 28, 3) := by decide +kernel
theorem fX_backorder_38 : decode (m_cc M_X_backorder) 38 = .ok (.aload_n 0, 1) := by decide +kernel
theorem fX_backorder_39 : decode (m_cc M_X_backorder) 39 = .ok (.invokevirtual 60, 3) := by decide +kernel
theorem fX_backorder_42 : decode (m_cc M_X_backorder) 42 = .ok (.aload_n 0, 1) := by decide +kernel
theorem fX_backorder_43 : decode (m_cc M_X_backorder) 43 = .ok (.aload_n 3, 1) := by decide +kernel
theorem fX_backorder_44 : decode (m_cc M_X_backorder) 44 = .ok (.getfield 129, 3) := by decide +kernel
theorem fX_backorder_47 : decode (m_cc M_X_backorder) 47 = .ok (.iconst 0, 1) := by decide +kernel
theorem fX_backorder_48 : decode (m_cc M_X_backorder) 48 = .ok (.aload_n 3, 1) := by decide +kernel
theorem fX_backorder_49 : decode (m_cc M_X_backorder) 49 = .ok (.getfield 151, 3) := by decide +kernel
theorem fX_backorder_52 : decode (m_cc M_X_backorder) 52 = .ok (.aload_n 3, 1) := by decide +kernel
theorem fX_backorder_53 : decode (m_cc M_X_backorder) 53 = .ok (.getfield 123, 3) := by decide +kernel
theorem fX_backorder_56 : decode (m_cc M_X_backorder) 56 = .ok (.invokevirtual 31, 3) := by decide +kernel
theorem fX_backorder_59 : decode (m_cc M_X_backorder) 59 = .ok (.astore 4, 2) := by decide +kernel
theorem fX_backorder_61 : decode (m_cc M_X_backorder) 61 = .ok (.aload_n 0, 1) := by decide +kernel
theorem fX_backorder_62 : decode (m_cc M_X_backorder) 62 = .ok (.aload 4, 2) := by decide +kernel
theorem fX_backorder_64 : decode (m_cc M_X_backorder) 64 = .ok (.aload_n 2, 1) := by decide +kernel
theorem fX_backorder_65 : decode (m_cc M_X_backorder) 65 = .ok (.getfield 116, 3) := by decide +kernel
theorem fX_backorder_68 : decode (m_cc M_X_backorder) 68 = .ok (.aload_n 2, 1) := by decide +kernel
theorem fX_backorder_69 : decode (m_cc M_X_backorder) 69 = .ok (.invokevirtual 154, 3) := by decide +kernel
theorem fX_backorder_72 : decode (m_cc M_X_backorder) 72 = .ok (.aload_n 2, 1) := by decide +kernel
theorem fX_backorder_73 : decode (m_cc M_X_backorder) 73 = .ok (.getfield 157, 3) := by decide +kernel
theorem fX_backorder_76 : decode (m_cc M_X_backorder) 76 = .ok (.invokevirtual 63, 3) := by decide +kernel
theorem fX_backorder_79 : decode (m_cc M_X_backorder) 79 = .ok (.astore 5, 2) := by decide +kernel
theorem fX_backorder_81 : decode (m_cc M_X_backorder) 81 = .ok (.aload_n 2, 1) := by decide +kernel
theorem fX_backorder_82 : decode (m_cc M_X_backorder) 82 = .ok (.iconst 1, 1) := by decide +kernel
theorem fX_backorder_83 : decode (m_cc M_X_backorder) 83 = .ok (.putfield 160, 3) := by decide +kernel
theorem fX_backorder_86 : decode (m_cc M_X_backorder) 86 = .ok (.aload 5, 2) := by decide +kernel
theorem fX_backorder_88 : decode (m_cc M_X_backorder) 88 = .ok (.getfield 67, 3) := by decide +kernel
theorem fX_backorder_91 : decode (m_cc M_X_backorder) 91 = .ok (.ireturn, 1) := by decide +kernel
theorem fX_ready_0 : decode (m_cc M_X_ready) 0 = .ok (.iload_n 1, 1) := by decide +kernel
theorem fX_ready_1 : decode (m_cc M_X_ready) 1 = .ok (.invokestatic 163, 3) := by decide +kernel
theorem fX_ready_4 : decode (m_cc M_X_ready) 4 = .ok (.iconst 0, 1) := by decide +kernel
theorem fX_ready_5 : decode (m_cc M_X_ready) 5 = .ok (.istore_n 2, 1) := by decide +kernel
theorem fX_ready_6 : decode (m_cc M_X_ready) 6 = .ok (.iload_n 2, 1) := by decide +kernel
theorem fX_ready_7 : decode (m_cc M_X_ready) 7 = .ok (.aload_n 0, 1) := by decide +kernel
theorem fX_ready_8 : decode (m_cc M_X_ready) 8 = .ok (.getfield 10, 3) := by decide +kernel
theorem fX_ready_11 : decode (m_cc M_X_ready) 11 = .ok (.invokevirtual 53, 3) := by decide +kernel
theorem fX_ready_14 : decode (m_cc M_X_ready) 14 = .ok (.if_icmp .ge 42, 3) := by decide +kernel
theorem fX_ready_17 : decode (m_cc M_X_ready) 17 = .ok (.aload_n 0, 1) := by decide +kernel
theorem fX_ready_18 : decode (m_cc M_X_ready) 18 = .ok (.getfield 10, 3) := by decide +kernel
theorem fX_ready_21 : decode (m_cc M_X_ready) 21 = .ok (.iload_n 2, 1) := by decide +kernel
theorem fX_ready_22 : decode (m_cc M_X_ready) 22 = .ok (.invokevirtual 167, 3) := by decide +kernel
theorem fX_ready_25 : decode (m_cc M_X_ready) 25 = .ok (.checkcast 36, 3) := by decide +kernel
theorem fX_ready_28 : decode (m_cc M_X_ready) 28 = .ok (.astore_n 3, 1) := by decide +kernel
theorem fX_ready_29 : decode (m_cc M_X_ready) 29 = .ok (.aload_n 3, 1) := by decide +kernel
theorem fX_ready_30 : decode (m_cc M_X_ready) 30 = .ok (.invokevirtual 171, 3) := by decide +kernel
theorem fX_ready_33 : decode (m_cc M_X_ready) 33 = .ok (.ifCond .eq 17, 3) := by decide +kernel
theorem fX_ready_36 : decode (m_cc M_X_ready) 36 = .ok (.aload_n 0, 1) := by decide +kernel
theorem fX_ready_37 : decode (m_cc M_X_ready) 37 = .ok (.aload_n 3, 1) := by decide +kernel
theorem fX_ready_38 : decode (m_cc M_X_ready) 38 = .ok (.invokevirtual 174, 3) := by decide +kernel
theorem fX_ready_41 : decode (m_cc M_X_ready) 41 = .ok (.iload_n 1, 1) := by decide +kernel
theorem fX_ready_42 : decode (m_cc M_X_ready) 42 = .ok (.if_icmp .ne 8, 3) := by decide +kernel
theorem fX_ready_45 : decode (m_cc M_X_ready) 45 = .ok (.aload_n 3, 1) := by decide +kernel
theorem fX_ready_46 : decode (m_cc M_X_ready) 46 = .ok (.getfield 35, 3) := by decide +kernel
theorem fX_ready_49 : decode (m_cc M_X_ready) 49 = .ok (.ireturn, 1) := by decide +kernel
theorem fX_ready_50 : decode (m_cc M_X_ready) 50 = .ok (.iinc 2 1, 3) := by decide +kernel
theorem fX_ready_53 : decode (m_cc M_X_ready) 53 = .ok (.goto (-47), 3) := by decide +kernel
theorem fX_ready_56 : decode (m_cc M_X_ready) 56 = .ok (.iconst (-1), 1) := by decide +kernel
theorem fX_ready_57 : decode (m_cc M_X_ready) 57 = .ok (.ireturn, 1) := by decide +kernel
theorem fX_told_0 : decode (m_cc M_X_told) 0 = .ok (.aload_n 0, 1) := by decide +kernel
theorem fX_told_1 : decode (m_cc M_X_told) 1 = .ok (.iload_n 1, 1) := by decide +kernel
theorem fX_told_2 : decode (m_cc M_X_told) 2 = .ok (.invokevirtual 41, 3) := by decide +kernel
theorem fX_told_5 : decode (m_cc M_X_told) 5 = .ok (.astore_n 3, 1) := by decide +kernel
theorem fX_told_6 : decode (m_cc M_X_told) 6 = .ok (.iload_n 2, 1) := by decide +kernel
theorem fX_told_7 : decode (m_cc M_X_told) 7 = .ok (.tableswitch 106 0 9 #[53, 58, 63, 68, 73, 78, 83, 91, 96, 101], 53) := by decide +kernel
theorem fX_told_60 : decode (m_cc M_X_told) 60 = .ok (.aload_n 3, 1) := by decide +kernel
theorem fX_told_61 : decode (m_cc M_X_told) 61 = .ok (.getfield 45, 3) := by decide +kernel
theorem fX_told_64 : decode (m_cc M_X_told) 64 = .ok (.ireturn, 1) := by decide +kernel
theorem fX_told_65 : decode (m_cc M_X_told) 65 = .ok (.aload_n 3, 1) := by decide +kernel
theorem fX_told_66 : decode (m_cc M_X_told) 66 = .ok (.getfield 129, 3) := by decide +kernel
theorem fX_told_69 : decode (m_cc M_X_told) 69 = .ok (.ireturn, 1) := by decide +kernel
theorem fX_told_70 : decode (m_cc M_X_told) 70 = .ok (.aload_n 3, 1) := by decide +kernel
theorem fX_told_71 : decode (m_cc M_X_told) 71 = .ok (.getfield 178, 3) := by decide +kernel
theorem fX_told_74 : decode (m_cc M_X_told) 74 = .ok (.ireturn, 1) := by decide +kernel
theorem fX_told_75 : decode (m_cc M_X_told) 75 = .ok (.aload_n 3, 1) := by decide +kernel
theorem fX_told_76 : decode (m_cc M_X_told) 76 = .ok (.getfield 151, 3) := by decide +kernel
theorem fX_told_79 : decode (m_cc M_X_told) 79 = .ok (.ireturn, 1) := by decide +kernel
theorem fX_told_80 : decode (m_cc M_X_told) 80 = .ok (.aload_n 3, 1) := by decide +kernel
theorem fX_told_81 : decode (m_cc M_X_told) 81 = .ok (.getfield 123, 3) := by decide +kernel
theorem fX_told_84 : decode (m_cc M_X_told) 84 = .ok (.ireturn, 1) := by decide +kernel
theorem fX_told_85 : decode (m_cc M_X_told) 85 = .ok (.aload_n 3, 1) := by decide +kernel
theorem fX_told_86 : decode (m_cc M_X_told) 86 = .ok (.getfield 139, 3) := by decide +kernel
theorem fX_told_89 : decode (m_cc M_X_told) 89 = .ok (.ireturn, 1) := by decide +kernel
theorem fX_told_90 : decode (m_cc M_X_told) 90 = .ok (.aload_n 3, 1) := by decide +kernel
theorem fX_told_91 : decode (m_cc M_X_told) 91 = .ok (.getfield 52, 3) := by decide +kernel
theorem fX_told_94 : decode (m_cc M_X_told) 94 = .ok (.invokevirtual 53, 3) := by decide +kernel
theorem fX_told_97 : decode (m_cc M_X_told) 97 = .ok (.ireturn, 1) := by decide +kernel
theorem fX_told_98 : decode (m_cc M_X_told) 98 = .ok (.aload_n 3, 1) := by decide +kernel
theorem fX_told_99 : decode (m_cc M_X_told) 99 = .ok (.getfield 88, 3) := by decide +kernel
theorem fX_told_102 : decode (m_cc M_X_told) 102 = .ok (.ireturn, 1) := by decide +kernel
theorem fX_told_103 : decode (m_cc M_X_told) 103 = .ok (.aload_n 3, 1) := by decide +kernel
theorem fX_told_104 : decode (m_cc M_X_told) 104 = .ok (.getfield 136, 3) := by decide +kernel
theorem fX_told_107 : decode (m_cc M_X_told) 107 = .ok (.ireturn, 1) := by decide +kernel
theorem fX_told_108 : decode (m_cc M_X_told) 108 = .ok (.aload_n 3, 1) := by decide +kernel
theorem fX_told_109 : decode (m_cc M_X_told) 109 = .ok (.invokevirtual 181, 3) := by decide +kernel
theorem fX_told_112 : decode (m_cc M_X_told) 112 = .ok (.ireturn, 1) := by decide +kernel
theorem fX_told_113 : decode (m_cc M_X_told) 113 = .ok (.new 182, 3) := by decide +kernel
theorem fX_told_116 : decode (m_cc M_X_told) 116 = .ok (.dup, 1) := by decide +kernel
theorem fX_told_117 : decode (m_cc M_X_told) 117 = .ok (.ldc 184, 2) := by decide +kernel
theorem fX_told_119 : decode (m_cc M_X_told) 119 = .ok (.invokespecial 186, 3) := by decide +kernel
theorem fX_told_122 : decode (m_cc M_X_told) 122 = .ok (.athrow, 1) := by decide +kernel
theorem fX_lineOf_0 : decode (m_cc M_X_lineOf) 0 = .ok (.aload_n 0, 1) := by decide +kernel
theorem fX_lineOf_1 : decode (m_cc M_X_lineOf) 1 = .ok (.iload_n 1, 1) := by decide +kernel
theorem fX_lineOf_2 : decode (m_cc M_X_lineOf) 2 = .ok (.invokevirtual 41, 3) := by decide +kernel
theorem fX_lineOf_5 : decode (m_cc M_X_lineOf) 5 = .ok (.astore_n 3, 1) := by decide +kernel
theorem fX_lineOf_6 : decode (m_cc M_X_lineOf) 6 = .ok (.iload_n 2, 1) := by decide +kernel
theorem fX_lineOf_7 : decode (m_cc M_X_lineOf) 7 = .ok (.invokestatic 163, 3) := by decide +kernel
theorem fX_lineOf_10 : decode (m_cc M_X_lineOf) 10 = .ok (.iload_n 2, 1) := by decide +kernel
theorem fX_lineOf_11 : decode (m_cc M_X_lineOf) 11 = .ok (.aload_n 3, 1) := by decide +kernel
theorem fX_lineOf_12 : decode (m_cc M_X_lineOf) 12 = .ok (.getfield 52, 3) := by decide +kernel
theorem fX_lineOf_15 : decode (m_cc M_X_lineOf) 15 = .ok (.invokevirtual 53, 3) := by decide +kernel
theorem fX_lineOf_18 : decode (m_cc M_X_lineOf) 18 = .ok (.if_icmp .ge 20, 3) := by decide +kernel
theorem fX_lineOf_21 : decode (m_cc M_X_lineOf) 21 = .ok (.aload_n 3, 1) := by decide +kernel
theorem fX_lineOf_22 : decode (m_cc M_X_lineOf) 22 = .ok (.getfield 52, 3) := by decide +kernel
theorem fX_lineOf_25 : decode (m_cc M_X_lineOf) 25 = .ok (.iload_n 2, 1) := by decide +kernel
theorem fX_lineOf_26 : decode (m_cc M_X_lineOf) 26 = .ok (.invokevirtual 167, 3) := by decide +kernel
theorem fX_lineOf_29 : decode (m_cc M_X_lineOf) 29 = .ok (.checkcast 68, 3) := by decide +kernel
theorem fX_lineOf_32 : decode (m_cc M_X_lineOf) 32 = .ok (.getfield 67, 3) := by decide +kernel
theorem fX_lineOf_35 : decode (m_cc M_X_lineOf) 35 = .ok (.goto 4, 3) := by decide +kernel
theorem fX_lineOf_38 : decode (m_cc M_X_lineOf) 38 = .ok (.iconst (-1), 1) := by decide +kernel
theorem fX_lineOf_39 : decode (m_cc M_X_lineOf) 39 = .ok (.ireturn, 1) := by decide +kernel
theorem fX_packed_0 : decode (m_cc M_X_packed) 0 = .ok (.aload_n 0, 1) := by decide +kernel
theorem fX_packed_1 : decode (m_cc M_X_packed) 1 = .ok (.iload_n 1, 1) := by decide +kernel
theorem fX_packed_2 : decode (m_cc M_X_packed) 2 = .ok (.invokevirtual 70, 3) := by decide +kernel
theorem fX_packed_5 : decode (m_cc M_X_packed) 5 = .ok (.astore_n 2, 1) := by decide +kernel
theorem fX_packed_6 : decode (m_cc M_X_packed) 6 = .ok (.aload_n 2, 1) := by decide +kernel
theorem fX_packed_7 : decode (m_cc M_X_packed) 7 = .ok (.getfield 74, 3) := by decide +kernel
theorem fX_packed_10 : decode (m_cc M_X_packed) 10 = .ok (.getfield 35, 3) := by decide +kernel
theorem fX_packed_13 : decode (m_cc M_X_packed) 13 = .ok (.i2l, 1) := by decide +kernel
theorem fX_packed_14 : decode (m_cc M_X_packed) 14 = .ok (.lstore_n 3, 1) := by decide +kernel
theorem fX_packed_15 : decode (m_cc M_X_packed) 15 = .ok (.lload_n 3, 1) := by decide +kernel
theorem fX_packed_16 : decode (m_cc M_X_packed) 16 = .ok (.iconst 1, 1) := by decide +kernel
theorem fX_packed_17 : decode (m_cc M_X_packed) 17 = .ok (.lshl, 1) := by decide +kernel
theorem fX_packed_18 : decode (m_cc M_X_packed) 18 = .ok (.aload_n 2, 1) := by decide +kernel
theorem fX_packed_19 : decode (m_cc M_X_packed) 19 = .ok (.getfield 160, 3) := by decide +kernel
theorem fX_packed_22 : decode (m_cc M_X_packed) 22 = .ok (.ifCond .eq 7, 3) := by decide +kernel
theorem fX_packed_25 : decode (m_cc M_X_packed) 25 = .ok (.iconst 1, 1) := by decide +kernel
theorem fX_packed_26 : decode (m_cc M_X_packed) 26 = .ok (.goto 4, 3) := by decide +kernel
theorem fX_packed_29 : decode (m_cc M_X_packed) 29 = .ok (.iconst 0, 1) := by decide +kernel
theorem fX_packed_30 : decode (m_cc M_X_packed) 30 = .ok (.i2l, 1) := by decide +kernel
theorem fX_packed_31 : decode (m_cc M_X_packed) 31 = .ok (.lor, 1) := by decide +kernel
theorem fX_packed_32 : decode (m_cc M_X_packed) 32 = .ok (.lstore_n 3, 1) := by decide +kernel
theorem fX_packed_33 : decode (m_cc M_X_packed) 33 = .ok (.lload_n 3, 1) := by decide +kernel
theorem fX_packed_34 : decode (m_cc M_X_packed) 34 = .ok (.iconst 1, 1) := by decide +kernel
theorem fX_packed_35 : decode (m_cc M_X_packed) 35 = .ok (.lshl, 1) := by decide +kernel
theorem fX_packed_36 : decode (m_cc M_X_packed) 36 = .ok (.aload_n 2, 1) := by decide +kernel
theorem fX_packed_37 : decode (m_cc M_X_packed) 37 = .ok (.getfield 78, 3) := by decide +kernel
theorem fX_packed_40 : decode (m_cc M_X_packed) 40 = .ok (.ifCond .eq 7, 3) := by decide +kernel
theorem fX_packed_43 : decode (m_cc M_X_packed) 43 = .ok (.iconst 1, 1) := by decide +kernel
theorem fX_packed_44 : decode (m_cc M_X_packed) 44 = .ok (.goto 4, 3) := by decide +kernel
theorem fX_packed_47 : decode (m_cc M_X_packed) 47 = .ok (.iconst 0, 1) := by decide +kernel
theorem fX_packed_48 : decode (m_cc M_X_packed) 48 = .ok (.i2l, 1) := by decide +kernel
theorem fX_packed_49 : decode (m_cc M_X_packed) 49 = .ok (.lor, 1) := by decide +kernel
theorem fX_packed_50 : decode (m_cc M_X_packed) 50 = .ok (.lstore_n 3, 1) := by decide +kernel
theorem fX_packed_51 : decode (m_cc M_X_packed) 51 = .ok (.lload_n 3, 1) := by decide +kernel
theorem fX_packed_52 : decode (m_cc M_X_packed) 52 = .ok (.bipush 10, 2) := by decide +kernel
theorem fX_packed_54 : decode (m_cc M_X_packed) 54 = .ok (.lshl, 1) := by decide +kernel
theorem fX_packed_55 : decode (m_cc M_X_packed) 55 = .ok (.aload_n 2, 1) := by decide +kernel
theorem fX_packed_56 : decode (m_cc M_X_packed) 56 = .ok (.getfield 189, 3) := by decide +kernel
theorem fX_packed_59 : decode (m_cc M_X_packed) 59 = .ok (.i2l, 1) := by decide +kernel
theorem fX_packed_60 : decode (m_cc M_X_packed) 60 = .ok (.lor, 1) := by decide +kernel
theorem fX_packed_61 : decode (m_cc M_X_packed) 61 = .ok (.lstore_n 3, 1) := by decide +kernel
theorem fX_packed_62 : decode (m_cc M_X_packed) 62 = .ok (.lload_n 3, 1) := by decide +kernel
theorem fX_packed_63 : decode (m_cc M_X_packed) 63 = .ok (.bipush 10, 2) := by decide +kernel
theorem fX_packed_65 : decode (m_cc M_X_packed) 65 = .ok (.lshl, 1) := by decide +kernel
theorem fX_packed_66 : decode (m_cc M_X_packed) 66 = .ok (.aload_n 2, 1) := by decide +kernel
theorem fX_packed_67 : decode (m_cc M_X_packed) 67 = .ok (.getfield 95, 3) := by decide +kernel
theorem fX_packed_70 : decode (m_cc M_X_packed) 70 = .ok (.i2l, 1) := by decide +kernel
theorem fX_packed_71 : decode (m_cc M_X_packed) 71 = .ok (.lor, 1) := by decide +kernel
theorem fX_packed_72 : decode (m_cc M_X_packed) 72 = .ok (.lstore_n 3, 1) := by decide +kernel
theorem fX_packed_73 : decode (m_cc M_X_packed) 73 = .ok (.lload_n 3, 1) := by decide +kernel
theorem fX_packed_74 : decode (m_cc M_X_packed) 74 = .ok (.bipush 10, 2) := by decide +kernel
theorem fX_packed_76 : decode (m_cc M_X_packed) 76 = .ok (.lshl, 1) := by decide +kernel
theorem fX_packed_77 : decode (m_cc M_X_packed) 77 = .ok (.aload_n 2, 1) := by decide +kernel
theorem fX_packed_78 : decode (m_cc M_X_packed) 78 = .ok (.getfield 82, 3) := by decide +kernel
theorem fX_packed_81 : decode (m_cc M_X_packed) 81 = .ok (.i2l, 1) := by decide +kernel
theorem fX_packed_82 : decode (m_cc M_X_packed) 82 = .ok (.lor, 1) := by decide +kernel
theorem fX_packed_83 : decode (m_cc M_X_packed) 83 = .ok (.lstore_n 3, 1) := by decide +kernel
theorem fX_packed_84 : decode (m_cc M_X_packed) 84 = .ok (.lload_n 3, 1) := by decide +kernel
theorem fX_packed_85 : decode (m_cc M_X_packed) 85 = .ok (.bipush 10, 2) := by decide +kernel
theorem fX_packed_87 : decode (m_cc M_X_packed) 87 = .ok (.lshl, 1) := by decide +kernel
theorem fX_packed_88 : decode (m_cc M_X_packed) 88 = .ok (.aload_n 2, 1) := by decide +kernel
theorem fX_packed_89 : decode (m_cc M_X_packed) 89 = .ok (.getfield 85, 3) := by decide +kernel
theorem fX_packed_92 : decode (m_cc M_X_packed) 92 = .ok (.i2l, 1) := by decide +kernel
theorem fX_packed_93 : decode (m_cc M_X_packed) 93 = .ok (.lor, 1) := by decide +kernel
theorem fX_packed_94 : decode (m_cc M_X_packed) 94 = .ok (.lstore_n 3, 1) := by decide +kernel
theorem fX_packed_95 : decode (m_cc M_X_packed) 95 = .ok (.lload_n 3, 1) := by decide +kernel
theorem fX_packed_96 : decode (m_cc M_X_packed) 96 = .ok (.iconst 3, 1) := by decide +kernel
theorem fX_packed_97 : decode (m_cc M_X_packed) 97 = .ok (.lshl, 1) := by decide +kernel
theorem fX_packed_98 : decode (m_cc M_X_packed) 98 = .ok (.aload_n 2, 1) := by decide +kernel
theorem fX_packed_99 : decode (m_cc M_X_packed) 99 = .ok (.getfield 157, 3) := by decide +kernel
theorem fX_packed_102 : decode (m_cc M_X_packed) 102 = .ok (.i2l, 1) := by decide +kernel
theorem fX_packed_103 : decode (m_cc M_X_packed) 103 = .ok (.lor, 1) := by decide +kernel
theorem fX_packed_104 : decode (m_cc M_X_packed) 104 = .ok (.lstore_n 3, 1) := by decide +kernel
theorem fX_packed_105 : decode (m_cc M_X_packed) 105 = .ok (.lload_n 3, 1) := by decide +kernel
theorem fX_packed_106 : decode (m_cc M_X_packed) 106 = .ok (.iconst 5, 1) := by decide +kernel
theorem fX_packed_107 : decode (m_cc M_X_packed) 107 = .ok (.lshl, 1) := by decide +kernel
theorem fX_packed_108 : decode (m_cc M_X_packed) 108 = .ok (.aload_n 2, 1) := by decide +kernel
theorem fX_packed_109 : decode (m_cc M_X_packed) 109 = .ok (.getfield 192, 3) := by decide +kernel
theorem fX_packed_112 : decode (m_cc M_X_packed) 112 = .ok (.iconst 1, 1) := by decide +kernel
theorem fX_packed_113 : decode (m_cc M_X_packed) 113 = .ok (.iadd, 1) := by decide +kernel
theorem fX_packed_114 : decode (m_cc M_X_packed) 114 = .ok (.i2l, 1) := by decide +kernel
theorem fX_packed_115 : decode (m_cc M_X_packed) 115 = .ok (.lor, 1) := by decide +kernel
theorem fX_packed_116 : decode (m_cc M_X_packed) 116 = .ok (.lstore_n 3, 1) := by decide +kernel
theorem fX_packed_117 : decode (m_cc M_X_packed) 117 = .ok (.lload_n 3, 1) := by decide +kernel
theorem fX_packed_118 : decode (m_cc M_X_packed) 118 = .ok (.iconst 4, 1) := by decide +kernel
theorem fX_packed_119 : decode (m_cc M_X_packed) 119 = .ok (.lshl, 1) := by decide +kernel
theorem fX_packed_120 : decode (m_cc M_X_packed) 120 = .ok (.aload_n 2, 1) := by decide +kernel
theorem fX_packed_121 : decode (m_cc M_X_packed) 121 = .ok (.getfield 116, 3) := by decide +kernel
theorem fX_packed_124 : decode (m_cc M_X_packed) 124 = .ok (.i2l, 1) := by decide +kernel
theorem fX_packed_125 : decode (m_cc M_X_packed) 125 = .ok (.lor, 1) := by decide +kernel
theorem fX_packed_126 : decode (m_cc M_X_packed) 126 = .ok (.lreturn, 1) := by decide +kernel
theorem fX_count_0 : decode (m_cc M_X_count) 0 = .ok (.iload_n 1, 1) := by decide +kernel
theorem fX_count_1 : decode (m_cc M_X_count) 1 = .ok (.tableswitch 57 0 3 #[31, 39, 47, 52], 31) := by decide +kernel
theorem fX_count_32 : decode (m_cc M_X_count) 32 = .ok (.aload_n 0, 1) := by decide +kernel
theorem fX_count_33 : decode (m_cc M_X_count) 33 = .ok (.getfield 10, 3) := by decide +kernel
theorem fX_count_36 : decode (m_cc M_X_count) 36 = .ok (.invokevirtual 53, 3) := by decide +kernel
theorem fX_count_39 : decode (m_cc M_X_count) 39 = .ok (.ireturn, 1) := by decide +kernel
theorem fX_count_40 : decode (m_cc M_X_count) 40 = .ok (.aload_n 0, 1) := by decide +kernel
theorem fX_count_41 : decode (m_cc M_X_count) 41 = .ok (.getfield 16, 3) := by decide +kernel
theorem fX_count_44 : decode (m_cc M_X_count) 44 = .ok (.invokevirtual 53, 3) := by decide +kernel
theorem fX_count_47 : decode (m_cc M_X_count) 47 = .ok (.ireturn, 1) := by decide +kernel
theorem fX_count_48 : decode (m_cc M_X_count) 48 = .ok (.aload_n 0, 1) := by decide +kernel
theorem fX_count_49 : decode (m_cc M_X_count) 49 = .ok (.invokevirtual 195, 3) := by decide +kernel
theorem fX_count_52 : decode (m_cc M_X_count) 52 = .ok (.ireturn, 1) := by decide +kernel
theorem fX_count_53 : decode (m_cc M_X_count) 53 = .ok (.aload_n 0, 1) := by decide +kernel
theorem fX_count_54 : decode (m_cc M_X_count) 54 = .ok (.invokevirtual 198, 3) := by decide +kernel
theorem fX_count_57 : decode (m_cc M_X_count) 57 = .ok (.ireturn, 1) := by decide +kernel
theorem fX_count_58 : decode (m_cc M_X_count) 58 = .ok (.iconst (-1), 1) := by decide +kernel
theorem fX_count_59 : decode (m_cc M_X_count) 59 = .ok (.ireturn, 1) := by decide +kernel
theorem fX_orderAt_0 : decode (m_cc M_X_orderAt) 0 = .ok (.iload_n 1, 1) := by decide +kernel
theorem fX_orderAt_1 : decode (m_cc M_X_orderAt) 1 = .ok (.ifCond .lt 14, 3) := by decide +kernel
theorem fX_orderAt_4 : decode (m_cc M_X_orderAt) 4 = .ok (.iload_n 1, 1) := by decide +kernel
theorem fX_orderAt_5 : decode (m_cc M_X_orderAt) 5 = .ok (.aload_n 0, 1) := by decide +kernel
theorem fX_orderAt_6 : decode (m_cc M_X_orderAt) 6 = .ok (.getfield 10, 3) := by decide +kernel
theorem fX_orderAt_9 : decode (m_cc M_X_orderAt) 9 = .ok (.invokevirtual 53, 3) := by decide +kernel
theorem fX_orderAt_12 : decode (m_cc M_X_orderAt) 12 = .ok (.if_icmp .lt 13, 3) := by decide +kernel
theorem fX_orderAt_15 : decode (m_cc M_X_orderAt) 15 = .ok (.new 201, 3) := by decide +kernel
theorem fX_orderAt_18 : decode (m_cc M_X_orderAt) 18 = .ok (.dup, 1) := by decide +kernel
theorem fX_orderAt_19 : decode (m_cc M_X_orderAt) 19 = .ok (.ldc 203, 2) := by decide +kernel
theorem fX_orderAt_21 : decode (m_cc M_X_orderAt) 21 = .ok (.invokespecial 205, 3) := by decide +kernel
theorem fX_orderAt_24 : decode (m_cc M_X_orderAt) 24 = .ok (.athrow, 1) := by decide +kernel
theorem fX_orderAt_25 : decode (m_cc M_X_orderAt) 25 = .ok (.aload_n 0, 1) := by decide +kernel
theorem fX_orderAt_26 : decode (m_cc M_X_orderAt) 26 = .ok (.getfield 10, 3) := by decide +kernel
theorem fX_orderAt_29 : decode (m_cc M_X_orderAt) 29 = .ok (.iload_n 1, 1) := by decide +kernel
theorem fX_orderAt_30 : decode (m_cc M_X_orderAt) 30 = .ok (.invokevirtual 167, 3) := by decide +kernel
theorem fX_orderAt_33 : decode (m_cc M_X_orderAt) 33 = .ok (.checkcast 36, 3) := by decide +kernel
theorem fX_orderAt_36 : decode (m_cc M_X_orderAt) 36 = .ok (.areturn, 1) := by decide +kernel
theorem fX_lineAt_0 : decode (m_cc M_X_lineAt) 0 = .ok (.iload_n 1, 1) := by decide +kernel
theorem fX_lineAt_1 : decode (m_cc M_X_lineAt) 1 = .ok (.ifCond .lt 14, 3) := by decide +kernel
theorem fX_lineAt_4 : decode (m_cc M_X_lineAt) 4 = .ok (.iload_n 1, 1) := by decide +kernel
theorem fX_lineAt_5 : decode (m_cc M_X_lineAt) 5 = .ok (.aload_n 0, 1) := by decide +kernel
theorem fX_lineAt_6 : decode (m_cc M_X_lineAt) 6 = .ok (.getfield 16, 3) := by decide +kernel
theorem fX_lineAt_9 : decode (m_cc M_X_lineAt) 9 = .ok (.invokevirtual 53, 3) := by decide +kernel
theorem fX_lineAt_12 : decode (m_cc M_X_lineAt) 12 = .ok (.if_icmp .lt 13, 3) := by decide +kernel
theorem fX_lineAt_15 : decode (m_cc M_X_lineAt) 15 = .ok (.new 201, 3) := by decide +kernel
theorem fX_lineAt_18 : decode (m_cc M_X_lineAt) 18 = .ok (.dup, 1) := by decide +kernel
theorem fX_lineAt_19 : decode (m_cc M_X_lineAt) 19 = .ok (.ldc 206, 2) := by decide +kernel
theorem fX_lineAt_21 : decode (m_cc M_X_lineAt) 21 = .ok (.invokespecial 205, 3) := by decide +kernel
theorem fX_lineAt_24 : decode (m_cc M_X_lineAt) 24 = .ok (.athrow, 1) := by decide +kernel
theorem fX_lineAt_25 : decode (m_cc M_X_lineAt) 25 = .ok (.aload_n 0, 1) := by decide +kernel
theorem fX_lineAt_26 : decode (m_cc M_X_lineAt) 26 = .ok (.getfield 16, 3) := by decide +kernel
theorem fX_lineAt_29 : decode (m_cc M_X_lineAt) 29 = .ok (.iload_n 1, 1) := by decide +kernel
theorem fX_lineAt_30 : decode (m_cc M_X_lineAt) 30 = .ok (.invokevirtual 167, 3) := by decide +kernel
theorem fX_lineAt_33 : decode (m_cc M_X_lineAt) 33 = .ok (.checkcast 68, 3) := by decide +kernel
theorem fX_lineAt_36 : decode (m_cc M_X_lineAt) 36 = .ok (.areturn, 1) := by decide +kernel
theorem fX_requireRange_0 : decode (m_cc M_X_requireRange) 0 = .ok (.iload_n 0, 1) := by decide +kernel
theorem fX_requireRange_1 : decode (m_cc M_X_requireRange) 1 = .ok (.iload_n 1, 1) := by decide +kernel
theorem fX_requireRange_2 : decode (m_cc M_X_requireRange) 2 = .ok (.if_icmp .lt 8, 3) := by decide +kernel
theorem fX_requireRange_5 : decode (m_cc M_X_requireRange) 5 = .ok (.iload_n 0, 1) := by decide +kernel
theorem fX_requireRange_6 : decode (m_cc M_X_requireRange) 6 = .ok (.iload_n 2, 1) := by decide +kernel
theorem fX_requireRange_7 : decode (m_cc M_X_requireRange) 7 = .ok (.if_icmp .le 13, 3) := by decide +kernel
theorem fX_requireRange_10 : decode (m_cc M_X_requireRange) 10 = .ok (.new 182, 3) := by decide +kernel
theorem fX_requireRange_13 : decode (m_cc M_X_requireRange) 13 = .ok (.dup, 1) := by decide +kernel
theorem fX_requireRange_14 : decode (m_cc M_X_requireRange) 14 = .ok (.ldc 208, 2) := by decide +kernel
theorem fX_requireRange_16 : decode (m_cc M_X_requireRange) 16 = .ok (.invokespecial 186, 3) := by decide +kernel
theorem fX_requireRange_19 : decode (m_cc M_X_requireRange) 19 = .ok (.athrow, 1) := by decide +kernel
theorem fX_requireRange_20 : decode (m_cc M_X_requireRange) 20 = .ok (.return_, 1) := by decide +kernel
theorem fX_requireNotNegative_0 : decode (m_cc M_X_requireNotNegative) 0 = .ok (.iload_n 0, 1) := by decide +kernel
theorem fX_requireNotNegative_1 : decode (m_cc M_X_requireNotNegative) 1 = .ok (.ifCond .ge 13, 3) := by decide +kernel
theorem fX_requireNotNegative_4 : decode (m_cc M_X_requireNotNegative) 4 = .ok (.new 182, 3) := by decide +kernel
theorem fX_requireNotNegative_7 : decode (m_cc M_X_requireNotNegative) 7 = .ok (.dup, 1) := by decide +kernel
theorem fX_requireNotNegative_8 : decode (m_cc M_X_requireNotNegative) 8 = .ok (.ldc 210, 2) := by decide +kernel
theorem fX_requireNotNegative_10 : decode (m_cc M_X_requireNotNegative) 10 = .ok (.invokespecial 186, 3) := by decide +kernel
theorem fX_requireNotNegative_13 : decode (m_cc M_X_requireNotNegative) 13 = .ok (.athrow, 1) := by decide +kernel
theorem fX_requireNotNegative_14 : decode (m_cc M_X_requireNotNegative) 14 = .ok (.return_, 1) := by decide +kernel
theorem fX_requireState_0 : decode (m_cc M_X_requireState) 0 = .ok (.iload_n 0, 1) := by decide +kernel
theorem fX_requireState_1 : decode (m_cc M_X_requireState) 1 = .ok (.ifCond .ne 13, 3) := by decide +kernel
theorem fX_requireState_4 : decode (m_cc M_X_requireState) 4 = .ok (.new 212, 3) := by decide +kernel
theorem fX_requireState_7 : decode (m_cc M_X_requireState) 7 = .ok (.dup, 1) := by decide +kernel
theorem fX_requireState_8 : decode (m_cc M_X_requireState) 8 = .ok (.ldc 214, 2) := by decide +kernel
theorem fX_requireState_10 : decode (m_cc M_X_requireState) 10 = .ok (.invokespecial 216, 3) := by decide +kernel
theorem fX_requireState_13 : decode (m_cc M_X_requireState) 13 = .ok (.athrow, 1) := by decide +kernel
theorem fX_requireState_14 : decode (m_cc M_X_requireState) 14 = .ok (.return_, 1) := by decide +kernel
theorem fX_requireRoom_0 : decode (m_cc M_X_requireRoom) 0 = .ok (.iload_n 0, 1) := by decide +kernel
theorem fX_requireRoom_1 : decode (m_cc M_X_requireRoom) 1 = .ok (.ifCond .ne 13, 3) := by decide +kernel
theorem fX_requireRoom_4 : decode (m_cc M_X_requireRoom) 4 = .ok (.new 217, 3) := by decide +kernel
theorem fX_requireRoom_7 : decode (m_cc M_X_requireRoom) 7 = .ok (.dup, 1) := by decide +kernel
theorem fX_requireRoom_8 : decode (m_cc M_X_requireRoom) 8 = .ok (.ldc 219, 2) := by decide +kernel
theorem fX_requireRoom_10 : decode (m_cc M_X_requireRoom) 10 = .ok (.invokespecial 221, 3) := by decide +kernel
theorem fX_requireRoom_13 : decode (m_cc M_X_requireRoom) 13 = .ok (.athrow, 1) := by decide +kernel
theorem fX_requireRoom_14 : decode (m_cc M_X_requireRoom) 14 = .ok (.return_, 1) := by decide +kernel
theorem fX_requireRoomForOrder_0 : decode (m_cc M_X_requireRoomForOrder) 0 = .ok (.aload_n 0, 1) := by decide +kernel
theorem fX_requireRoomForOrder_1 : decode (m_cc M_X_requireRoomForOrder) 1 = .ok (.getfield 10, 3) := by decide +kernel
theorem fX_requireRoomForOrder_4 : decode (m_cc M_X_requireRoomForOrder) 4 = .ok (.invokevirtual 53, 3) := by decide +kernel
theorem fX_requireRoomForOrder_7 : decode (m_cc M_X_requireRoomForOrder) 7 = .ok (.bipush 20, 2) := by decide +kernel
theorem fX_requireRoomForOrder_9 : decode (m_cc M_X_requireRoomForOrder) 9 = .ok (.if_icmp .ge 7, 3) := by decide +kernel
theorem fX_requireRoomForOrder_12 : decode (m_cc M_X_requireRoomForOrder) 12 = .ok (.iconst 1, 1) := by decide +kernel
theorem fX_requireRoomForOrder_13 : decode (m_cc M_X_requireRoomForOrder) 13 = .ok (.goto 4, 3) := by decide +kernel
theorem fX_requireRoomForOrder_16 : decode (m_cc M_X_requireRoomForOrder) 16 = .ok (.iconst 0, 1) := by decide +kernel
theorem fX_requireRoomForOrder_17 : decode (m_cc M_X_requireRoomForOrder) 17 = .ok (.invokestatic 57, 3) := by decide +kernel
theorem fX_requireRoomForOrder_20 : decode (m_cc M_X_requireRoomForOrder) 20 = .ok (.return_, 1) := by decide +kernel
theorem fX_requireRoomForLine_0 : decode (m_cc M_X_requireRoomForLine) 0 = .ok (.aload_n 0, 1) := by decide +kernel
theorem fX_requireRoomForLine_1 : decode (m_cc M_X_requireRoomForLine) 1 = .ok (.getfield 16, 3) := by decide +kernel
theorem fX_requireRoomForLine_4 : decode (m_cc M_X_requireRoomForLine) 4 = .ok (.invokevirtual 53, 3) := by decide +kernel
theorem fX_requireRoomForLine_7 : decode (m_cc M_X_requireRoomForLine) 7 = .ok (.bipush 60, 2) := by decide +kernel
theorem fX_requireRoomForLine_9 : decode (m_cc M_X_requireRoomForLine) 9 = .ok (.if_icmp .ge 7, 3) := by decide +kernel
theorem fX_requireRoomForLine_12 : decode (m_cc M_X_requireRoomForLine) 12 = .ok (.iconst 1, 1) := by decide +kernel
theorem fX_requireRoomForLine_13 : decode (m_cc M_X_requireRoomForLine) 13 = .ok (.goto 4, 3) := by decide +kernel
theorem fX_requireRoomForLine_16 : decode (m_cc M_X_requireRoomForLine) 16 = .ok (.iconst 0, 1) := by decide +kernel
theorem fX_requireRoomForLine_17 : decode (m_cc M_X_requireRoomForLine) 17 = .ok (.invokestatic 57, 3) := by decide +kernel
theorem fX_requireRoomForLine_20 : decode (m_cc M_X_requireRoomForLine) 20 = .ok (.return_, 1) := by decide +kernel
theorem fX_requireChangeValue_0 : decode (m_cc M_X_requireChangeValue) 0 = .ok (.iload_n 0, 1) := by decide +kernel
theorem fX_requireChangeValue_1 : decode (m_cc M_X_requireChangeValue) 1 = .ok (.ifCond .ne 14, 3) := by decide +kernel
theorem fX_requireChangeValue_4 : decode (m_cc M_X_requireChangeValue) 4 = .ok (.iload_n 1, 1) := by decide +kernel
theorem fX_requireChangeValue_5 : decode (m_cc M_X_requireChangeValue) 5 = .ok (.iconst 1, 1) := by decide +kernel
theorem fX_requireChangeValue_6 : decode (m_cc M_X_requireChangeValue) 6 = .ok (.sipush 1000, 3) := by decide +kernel
theorem fX_requireChangeValue_9 : decode (m_cc M_X_requireChangeValue) 9 = .ok (.invokestatic 19, 3) := by decide +kernel
theorem fX_requireChangeValue_12 : decode (m_cc M_X_requireChangeValue) 12 = .ok (.goto 25, 3) := by decide +kernel
theorem fX_requireChangeValue_15 : decode (m_cc M_X_requireChangeValue) 15 = .ok (.iload_n 0, 1) := by decide +kernel
theorem fX_requireChangeValue_16 : decode (m_cc M_X_requireChangeValue) 16 = .ok (.iconst 1, 1) := by decide +kernel
theorem fX_requireChangeValue_17 : decode (m_cc M_X_requireChangeValue) 17 = .ok (.if_icmp .ne 13, 3) := by decide +kernel
theorem fX_requireChangeValue_20 : decode (m_cc M_X_requireChangeValue) 20 = .ok (.iload_n 1, 1) := by decide +kernel
theorem fX_requireChangeValue_21 : decode (m_cc M_X_requireChangeValue) 21 = .ok (.iconst 0, 1) := by decide +kernel
theorem fX_requireChangeValue_22 : decode (m_cc M_X_requireChangeValue) 22 = .ok (.bipush 15, 2) := by decide +kernel
theorem fX_requireChangeValue_24 : decode (m_cc M_X_requireChangeValue) 24 = .ok (.invokestatic 19, 3) := by decide +kernel
theorem fX_requireChangeValue_27 : decode (m_cc M_X_requireChangeValue) 27 = .ok (.goto 10, 3) := by decide +kernel
theorem fX_requireChangeValue_30 : decode (m_cc M_X_requireChangeValue) 30 = .ok (.iload_n 1, 1) := by decide +kernel
theorem fX_requireChangeValue_31 : decode (m_cc M_X_requireChangeValue) 31 = .ok (.iconst 0, 1) := by decide +kernel
theorem fX_requireChangeValue_32 : decode (m_cc M_X_requireChangeValue) 32 = .ok (.bipush 7, 2) := by decide +kernel
theorem fX_requireChangeValue_34 : decode (m_cc M_X_requireChangeValue) 34 = .ok (.invokestatic 19, 3) := by decide +kernel
theorem fX_requireChangeValue_37 : decode (m_cc M_X_requireChangeValue) 37 = .ok (.return_, 1) := by decide +kernel
theorem fX_phaseLetsChange_0 : decode (m_cc M_X_phaseLetsChange) 0 = .ok (.iload_n 0, 1) := by decide +kernel
theorem fX_phaseLetsChange_1 : decode (m_cc M_X_phaseLetsChange) 1 = .ok (.ifCond .eq 13, 3) := by decide +kernel
theorem fX_phaseLetsChange_4 : decode (m_cc M_X_phaseLetsChange) 4 = .ok (.iload_n 0, 1) := by decide +kernel
theorem fX_phaseLetsChange_5 : decode (m_cc M_X_phaseLetsChange) 5 = .ok (.iconst 1, 1) := by decide +kernel
theorem fX_phaseLetsChange_6 : decode (m_cc M_X_phaseLetsChange) 6 = .ok (.if_icmp .ne 12, 3) := by decide +kernel
theorem fX_phaseLetsChange_9 : decode (m_cc M_X_phaseLetsChange) 9 = .ok (.iload_n 1, 1) := by decide +kernel
theorem fX_phaseLetsChange_10 : decode (m_cc M_X_phaseLetsChange) 10 = .ok (.iconst 2, 1) := by decide +kernel
theorem fX_phaseLetsChange_11 : decode (m_cc M_X_phaseLetsChange) 11 = .ok (.if_icmp .ne 7, 3) := by decide +kernel
theorem fX_phaseLetsChange_14 : decode (m_cc M_X_phaseLetsChange) 14 = .ok (.iconst 1, 1) := by decide +kernel
theorem fX_phaseLetsChange_15 : decode (m_cc M_X_phaseLetsChange) 15 = .ok (.goto 4, 3) := by decide +kernel
theorem fX_phaseLetsChange_18 : decode (m_cc M_X_phaseLetsChange) 18 = .ok (.iconst 0, 1) := by decide +kernel
theorem fX_phaseLetsChange_19 : decode (m_cc M_X_phaseLetsChange) 19 = .ok (.ireturn, 1) := by decide +kernel
theorem fX_applyChange_0 : decode (m_cc M_X_applyChange) 0 = .ok (.iload_n 1, 1) := by decide +kernel
theorem fX_applyChange_1 : decode (m_cc M_X_applyChange) 1 = .ok (.ifCond .ne 23, 3) := by decide +kernel
theorem fX_applyChange_4 : decode (m_cc M_X_applyChange) 4 = .ok (.aload_n 0, 1) := by decide +kernel
theorem fX_applyChange_5 : decode (m_cc M_X_applyChange) 5 = .ok (.iload_n 2, 1) := by decide +kernel
theorem fX_applyChange_6 : decode (m_cc M_X_applyChange) 6 = .ok (.putfield 85, 3) := by decide +kernel
theorem fX_applyChange_9 : decode (m_cc M_X_applyChange) 9 = .ok (.aload_n 0, 1) := by decide +kernel
theorem fX_applyChange_10 : decode (m_cc M_X_applyChange) 10 = .ok (.aload_n 0, 1) := by decide +kernel
theorem fX_applyChange_11 : decode (m_cc M_X_applyChange) 11 = .ok (.getfield 82, 3) := by decide +kernel
theorem fX_applyChange_14 : decode (m_cc M_X_applyChange) 14 = .ok (.iload_n 2, 1) := by decide +kernel
theorem fX_applyChange_15 : decode (m_cc M_X_applyChange) 15 = .ok (.invokestatic 222, 3) := by decide +kernel
theorem fX_applyChange_18 : decode (m_cc M_X_applyChange) 18 = .ok (.putfield 82, 3) := by decide +kernel
theorem fX_applyChange_21 : decode (m_cc M_X_applyChange) 21 = .ok (.goto 21, 3) := by decide +kernel
theorem fX_applyChange_24 : decode (m_cc M_X_applyChange) 24 = .ok (.iload_n 1, 1) := by decide +kernel
theorem fX_applyChange_25 : decode (m_cc M_X_applyChange) 25 = .ok (.iconst 1, 1) := by decide +kernel
theorem fX_applyChange_26 : decode (m_cc M_X_applyChange) 26 = .ok (.if_icmp .ne 11, 3) := by decide +kernel
theorem fX_applyChange_29 : decode (m_cc M_X_applyChange) 29 = .ok (.aload_n 0, 1) := by decide +kernel
theorem fX_applyChange_30 : decode (m_cc M_X_applyChange) 30 = .ok (.iload_n 2, 1) := by decide +kernel
theorem fX_applyChange_31 : decode (m_cc M_X_applyChange) 31 = .ok (.putfield 192, 3) := by decide +kernel
theorem fX_applyChange_34 : decode (m_cc M_X_applyChange) 34 = .ok (.goto 8, 3) := by decide +kernel
theorem fX_applyChange_37 : decode (m_cc M_X_applyChange) 37 = .ok (.aload_n 0, 1) := by decide +kernel
theorem fX_applyChange_38 : decode (m_cc M_X_applyChange) 38 = .ok (.iload_n 2, 1) := by decide +kernel
theorem fX_applyChange_39 : decode (m_cc M_X_applyChange) 39 = .ok (.putfield 157, 3) := by decide +kernel
theorem fX_applyChange_42 : decode (m_cc M_X_applyChange) 42 = .ok (.return_, 1) := by decide +kernel
theorem fX_firstWithOwnNumber_0 : decode (m_cc M_X_firstWithOwnNumber) 0 = .ok (.iconst 0, 1) := by decide +kernel
theorem fX_firstWithOwnNumber_1 : decode (m_cc M_X_firstWithOwnNumber) 1 = .ok (.istore_n 3, 1) := by decide +kernel
theorem fX_firstWithOwnNumber_2 : decode (m_cc M_X_firstWithOwnNumber) 2 = .ok (.iload_n 3, 1) := by decide +kernel
theorem fX_firstWithOwnNumber_3 : decode (m_cc M_X_firstWithOwnNumber) 3 = .ok (.aload_n 0, 1) := by decide +kernel
theorem fX_firstWithOwnNumber_4 : decode (m_cc M_X_firstWithOwnNumber) 4 = .ok (.getfield 10, 3) := by decide +kernel
theorem fX_firstWithOwnNumber_7 : decode (m_cc M_X_firstWithOwnNumber) 7 = .ok (.invokevirtual 53, 3) := by decide +kernel
theorem fX_firstWithOwnNumber_10 : decode (m_cc M_X_firstWithOwnNumber) 10 = .ok (.if_icmp .ge 42, 3) := by decide +kernel
theorem fX_firstWithOwnNumber_13 : decode (m_cc M_X_firstWithOwnNumber) 13 = .ok (.aload_n 0, 1) := by decide +kernel
theorem fX_firstWithOwnNumber_14 : decode (m_cc M_X_firstWithOwnNumber) 14 = .ok (.getfield 10, 3) := by decide +kernel
theorem fX_firstWithOwnNumber_17 : decode (m_cc M_X_firstWithOwnNumber) 17 = .ok (.iload_n 3, 1) := by decide +kernel
theorem fX_firstWithOwnNumber_18 : decode (m_cc M_X_firstWithOwnNumber) 18 = .ok (.invokevirtual 167, 3) := by decide +kernel
theorem fX_firstWithOwnNumber_21 : decode (m_cc M_X_firstWithOwnNumber) 21 = .ok (.checkcast 36, 3) := by decide +kernel
theorem fX_firstWithOwnNumber_24 : decode (m_cc M_X_firstWithOwnNumber) 24 = .ok (.astore 4, 2) := by decide +kernel
theorem fX_firstWithOwnNumber_26 : decode (m_cc M_X_firstWithOwnNumber) 26 = .ok (.aload 4, 2) := by decide +kernel
theorem fX_firstWithOwnNumber_28 : decode (m_cc M_X_firstWithOwnNumber) 28 = .ok (.getfield 129, 3) := by decide +kernel
theorem fX_firstWithOwnNumber_31 : decode (m_cc M_X_firstWithOwnNumber) 31 = .ok (.iload_n 1, 1) := by decide +kernel
theorem fX_firstWithOwnNumber_32 : decode (m_cc M_X_firstWithOwnNumber) 32 = .ok (.if_icmp .ne 14, 3) := by decide +kernel
theorem fX_firstWithOwnNumber_35 : decode (m_cc M_X_firstWithOwnNumber) 35 = .ok (.aload 4, 2) := by decide +kernel
theorem fX_firstWithOwnNumber_37 : decode (m_cc M_X_firstWithOwnNumber) 37 = .ok (.getfield 178, 3) := by decide +kernel
theorem fX_firstWithOwnNumber_40 : decode (m_cc M_X_firstWithOwnNumber) 40 = .ok (.iload_n 2, 1) := by decide +kernel
theorem fX_firstWithOwnNumber_41 : decode (m_cc M_X_firstWithOwnNumber) 41 = .ok (.if_icmp .ne 5, 3) := by decide +kernel
theorem fX_firstWithOwnNumber_44 : decode (m_cc M_X_firstWithOwnNumber) 44 = .ok (.iload_n 3, 1) := by decide +kernel
theorem fX_firstWithOwnNumber_45 : decode (m_cc M_X_firstWithOwnNumber) 45 = .ok (.ireturn, 1) := by decide +kernel
theorem fX_firstWithOwnNumber_46 : decode (m_cc M_X_firstWithOwnNumber) 46 = .ok (.iinc 3 1, 3) := by decide +kernel
theorem fX_firstWithOwnNumber_49 : decode (m_cc M_X_firstWithOwnNumber) 49 = .ok (.goto (-47), 3) := by decide +kernel
theorem fX_firstWithOwnNumber_52 : decode (m_cc M_X_firstWithOwnNumber) 52 = .ok (.iconst (-1), 1) := by decide +kernel
theorem fX_firstWithOwnNumber_53 : decode (m_cc M_X_firstWithOwnNumber) 53 = .ok (.ireturn, 1) := by decide +kernel
theorem fX_addOrder_0 : decode (m_cc M_X_addOrder) 0 = .ok (.new 36, 3) := by decide +kernel
theorem fX_addOrder_3 : decode (m_cc M_X_addOrder) 3 = .ok (.dup, 1) := by decide +kernel
theorem fX_addOrder_4 : decode (m_cc M_X_addOrder) 4 = .ok (.aload_n 0, 1) := by decide +kernel
theorem fX_addOrder_5 : decode (m_cc M_X_addOrder) 5 = .ok (.getfield 10, 3) := by decide +kernel
theorem fX_addOrder_8 : decode (m_cc M_X_addOrder) 8 = .ok (.invokevirtual 53, 3) := by decide +kernel
theorem fX_addOrder_11 : decode (m_cc M_X_addOrder) 11 = .ok (.iload_n 1, 1) := by decide +kernel
theorem fX_addOrder_12 : decode (m_cc M_X_addOrder) 12 = .ok (.iload_n 2, 1) := by decide +kernel
theorem fX_addOrder_13 : decode (m_cc M_X_addOrder) 13 = .ok (.iload_n 3, 1) := by decide +kernel
theorem fX_addOrder_14 : decode (m_cc M_X_addOrder) 14 = .ok (.iload 4, 2) := by decide +kernel
theorem fX_addOrder_16 : decode (m_cc M_X_addOrder) 16 = .ok (.invokespecial 227, 3) := by decide +kernel
theorem fX_addOrder_19 : decode (m_cc M_X_addOrder) 19 = .ok (.astore 5, 2) := by decide +kernel
theorem fX_addOrder_21 : decode (m_cc M_X_addOrder) 21 = .ok (.aload_n 0, 1) := by decide +kernel
theorem fX_addOrder_22 : decode (m_cc M_X_addOrder) 22 = .ok (.getfield 10, 3) := by decide +kernel
theorem fX_addOrder_25 : decode (m_cc M_X_addOrder) 25 = .ok (.aload 5, 2) := by decide +kernel
theorem fX_addOrder_27 : decode (m_cc M_X_addOrder) 27 = .ok (.invokevirtual 230, 3) := by decide +kernel
theorem fX_addOrder_30 : decode (m_cc M_X_addOrder) 30 = .ok (.pop, 1) := by decide +kernel
theorem fX_addOrder_31 : decode (m_cc M_X_addOrder) 31 = .ok (.aload 5, 2) := by decide +kernel
theorem fX_addOrder_33 : decode (m_cc M_X_addOrder) 33 = .ok (.areturn, 1) := by decide +kernel
theorem fX_addLine_0 : decode (m_cc M_X_addLine) 0 = .ok (.new 68, 3) := by decide +kernel
theorem fX_addLine_3 : decode (m_cc M_X_addLine) 3 = .ok (.dup, 1) := by decide +kernel
theorem fX_addLine_4 : decode (m_cc M_X_addLine) 4 = .ok (.aload_n 0, 1) := by decide +kernel
theorem fX_addLine_5 : decode (m_cc M_X_addLine) 5 = .ok (.getfield 16, 3) := by decide +kernel
theorem fX_addLine_8 : decode (m_cc M_X_addLine) 8 = .ok (.invokevirtual 53, 3) := by decide +kernel
theorem fX_addLine_11 : decode (m_cc M_X_addLine) 11 = .ok (.aload_n 1, 1) := by decide +kernel
theorem fX_addLine_12 : decode (m_cc M_X_addLine) 12 = .ok (.iload_n 2, 1) := by decide +kernel
theorem fX_addLine_13 : decode (m_cc M_X_addLine) 13 = .ok (.iload_n 3, 1) := by decide +kernel
theorem fX_addLine_14 : decode (m_cc M_X_addLine) 14 = .ok (.iload 4, 2) := by decide +kernel
theorem fX_addLine_16 : decode (m_cc M_X_addLine) 16 = .ok (.invokespecial 234, 3) := by decide +kernel
theorem fX_addLine_19 : decode (m_cc M_X_addLine) 19 = .ok (.astore 5, 2) := by decide +kernel
theorem fX_addLine_21 : decode (m_cc M_X_addLine) 21 = .ok (.aload_n 0, 1) := by decide +kernel
theorem fX_addLine_22 : decode (m_cc M_X_addLine) 22 = .ok (.getfield 16, 3) := by decide +kernel
theorem fX_addLine_25 : decode (m_cc M_X_addLine) 25 = .ok (.aload 5, 2) := by decide +kernel
theorem fX_addLine_27 : decode (m_cc M_X_addLine) 27 = .ok (.invokevirtual 230, 3) := by decide +kernel
theorem fX_addLine_30 : decode (m_cc M_X_addLine) 30 = .ok (.pop, 1) := by decide +kernel
theorem fX_addLine_31 : decode (m_cc M_X_addLine) 31 = .ok (.aload_n 1, 1) := by decide +kernel
theorem fX_addLine_32 : decode (m_cc M_X_addLine) 32 = .ok (.getfield 52, 3) := by decide +kernel
theorem fX_addLine_35 : decode (m_cc M_X_addLine) 35 = .ok (.aload 5, 2) := by decide +kernel
theorem fX_addLine_37 : decode (m_cc M_X_addLine) 37 = .ok (.invokevirtual 230, 3) := by decide +kernel
theorem fX_addLine_40 : decode (m_cc M_X_addLine) 40 = .ok (.pop, 1) := by decide +kernel
theorem fX_addLine_41 : decode (m_cc M_X_addLine) 41 = .ok (.aload_n 1, 1) := by decide +kernel
theorem fX_addLine_42 : decode (m_cc M_X_addLine) 42 = .ok (.dup, 1) := by decide +kernel
theorem fX_addLine_43 : decode (m_cc M_X_addLine) 43 = .ok (.getfield 88, 3) := by decide +kernel
theorem fX_addLine_46 : decode (m_cc M_X_addLine) 46 = .ok (.iconst 1, 1) := by decide +kernel
theorem fX_addLine_47 : decode (m_cc M_X_addLine) 47 = .ok (.iadd, 1) := by decide +kernel
theorem fX_addLine_48 : decode (m_cc M_X_addLine) 48 = .ok (.putfield 88, 3) := by decide +kernel
theorem fX_addLine_51 : decode (m_cc M_X_addLine) 51 = .ok (.aload 5, 2) := by decide +kernel
theorem fX_addLine_53 : decode (m_cc M_X_addLine) 53 = .ok (.areturn, 1) := by decide +kernel
theorem fX_waitingBefore_0 : decode (m_cc M_X_waitingBefore) 0 = .ok (.iconst 0, 1) := by decide +kernel
theorem fX_waitingBefore_1 : decode (m_cc M_X_waitingBefore) 1 = .ok (.istore_n 2, 1) := by decide +kernel
theorem fX_waitingBefore_2 : decode (m_cc M_X_waitingBefore) 2 = .ok (.iconst 0, 1) := by decide +kernel
theorem fX_waitingBefore_3 : decode (m_cc M_X_waitingBefore) 3 = .ok (.istore_n 3, 1) := by decide +kernel
theorem fX_waitingBefore_4 : decode (m_cc M_X_waitingBefore) 4 = .ok (.iload_n 3, 1) := by decide +kernel
theorem fX_waitingBefore_5 : decode (m_cc M_X_waitingBefore) 5 = .ok (.aload_n 0, 1) := by decide +kernel
theorem fX_waitingBefore_6 : decode (m_cc M_X_waitingBefore) 6 = .ok (.getfield 10, 3) := by decide +kernel
theorem fX_waitingBefore_9 : decode (m_cc M_X_waitingBefore) 9 = .ok (.invokevirtual 53, 3) := by decide +kernel
theorem fX_waitingBefore_12 : decode (m_cc M_X_waitingBefore) 12 = .ok (.if_icmp .ge 42, 3) := by decide +kernel
theorem fX_waitingBefore_15 : decode (m_cc M_X_waitingBefore) 15 = .ok (.aload_n 0, 1) := by decide +kernel
theorem fX_waitingBefore_16 : decode (m_cc M_X_waitingBefore) 16 = .ok (.getfield 10, 3) := by decide +kernel
theorem fX_waitingBefore_19 : decode (m_cc M_X_waitingBefore) 19 = .ok (.iload_n 3, 1) := by decide +kernel
theorem fX_waitingBefore_20 : decode (m_cc M_X_waitingBefore) 20 = .ok (.invokevirtual 167, 3) := by decide +kernel
theorem fX_waitingBefore_23 : decode (m_cc M_X_waitingBefore) 23 = .ok (.checkcast 36, 3) := by decide +kernel
theorem fX_waitingBefore_26 : decode (m_cc M_X_waitingBefore) 26 = .ok (.astore 4, 2) := by decide +kernel
theorem fX_waitingBefore_28 : decode (m_cc M_X_waitingBefore) 28 = .ok (.aload 4, 2) := by decide +kernel
theorem fX_waitingBefore_30 : decode (m_cc M_X_waitingBefore) 30 = .ok (.invokevirtual 171, 3) := by decide +kernel
theorem fX_waitingBefore_33 : decode (m_cc M_X_waitingBefore) 33 = .ok (.ifCond .eq 15, 3) := by decide +kernel
theorem fX_waitingBefore_36 : decode (m_cc M_X_waitingBefore) 36 = .ok (.aload 4, 2) := by decide +kernel
theorem fX_waitingBefore_38 : decode (m_cc M_X_waitingBefore) 38 = .ok (.aload_n 1, 1) := by decide +kernel
theorem fX_waitingBefore_39 : decode (m_cc M_X_waitingBefore) 39 = .ok (.invokevirtual 237, 3) := by decide +kernel
theorem fX_waitingBefore_42 : decode (m_cc M_X_waitingBefore) 42 = .ok (.ifCond .eq 6, 3) := by decide +kernel
theorem fX_waitingBefore_45 : decode (m_cc M_X_waitingBefore) 45 = .ok (.iinc 2 1, 3) := by decide +kernel
theorem fX_waitingBefore_48 : decode (m_cc M_X_waitingBefore) 48 = .ok (.iinc 3 1, 3) := by decide +kernel
theorem fX_waitingBefore_51 : decode (m_cc M_X_waitingBefore) 51 = .ok (.goto (-47), 3) := by decide +kernel
theorem fX_waitingBefore_54 : decode (m_cc M_X_waitingBefore) 54 = .ok (.iload_n 2, 1) := by decide +kernel
theorem fX_waitingBefore_55 : decode (m_cc M_X_waitingBefore) 55 = .ok (.ireturn, 1) := by decide +kernel
theorem fX_piecesHeld_0 : decode (m_cc M_X_piecesHeld) 0 = .ok (.iconst 0, 1) := by decide +kernel
theorem fX_piecesHeld_1 : decode (m_cc M_X_piecesHeld) 1 = .ok (.istore_n 1, 1) := by decide +kernel
theorem fX_piecesHeld_2 : decode (m_cc M_X_piecesHeld) 2 = .ok (.iconst 0, 1) := by decide +kernel
theorem fX_piecesHeld_3 : decode (m_cc M_X_piecesHeld) 3 = .ok (.istore_n 2, 1) := by decide +kernel
theorem fX_piecesHeld_4 : decode (m_cc M_X_piecesHeld) 4 = .ok (.iload_n 2, 1) := by decide +kernel
theorem fX_piecesHeld_5 : decode (m_cc M_X_piecesHeld) 5 = .ok (.aload_n 0, 1) := by decide +kernel
theorem fX_piecesHeld_6 : decode (m_cc M_X_piecesHeld) 6 = .ok (.getfield 16, 3) := by decide +kernel
theorem fX_piecesHeld_9 : decode (m_cc M_X_piecesHeld) 9 = .ok (.invokevirtual 53, 3) := by decide +kernel
theorem fX_piecesHeld_12 : decode (m_cc M_X_piecesHeld) 12 = .ok (.if_icmp .ge 46, 3) := by decide +kernel
theorem fX_piecesHeld_15 : decode (m_cc M_X_piecesHeld) 15 = .ok (.aload_n 0, 1) := by decide +kernel
theorem fX_piecesHeld_16 : decode (m_cc M_X_piecesHeld) 16 = .ok (.getfield 16, 3) := by decide +kernel
theorem fX_piecesHeld_19 : decode (m_cc M_X_piecesHeld) 19 = .ok (.iload_n 2, 1) := by decide +kernel
theorem fX_piecesHeld_20 : decode (m_cc M_X_piecesHeld) 20 = .ok (.invokevirtual 167, 3) := by decide +kernel
theorem fX_piecesHeld_23 : decode (m_cc M_X_piecesHeld) 23 = .ok (.checkcast 68, 3) := by decide +kernel
theorem fX_piecesHeld_26 : decode (m_cc M_X_piecesHeld) 26 = .ok (.astore_n 3, 1) := by decide +kernel
theorem fX_piecesHeld_27 : decode (m_cc M_X_piecesHeld) 27 = .ok (.aload_n 3, 1) := by decide +kernel
theorem fX_piecesHeld_28 : decode (m_cc M_X_piecesHeld) 28 = .ok (.getfield 78, 3) := by decide +kernel
theorem fX_piecesHeld_31 : decode (m_cc M_X_piecesHeld) 31 = .ok (.ifCond .eq 21, 3) := by decide +kernel
theorem fX_piecesHeld_34 : decode (m_cc M_X_piecesHeld) 34 = .ok (.aload_n 3, 1) := by decide +kernel
theorem fX_piecesHeld_35 : decode (m_cc M_X_piecesHeld) 35 = .ok (.getfield 74, 3) := by decide +kernel
theorem fX_piecesHeld_38 : decode (m_cc M_X_piecesHeld) 38 = .ok (.getfield 45, 3) := by decide +kernel
theorem fX_piecesHeld_41 : decode (m_cc M_X_piecesHeld) 41 = .ok (.iconst 4, 1) := by decide +kernel
theorem fX_piecesHeld_42 : decode (m_cc M_X_piecesHeld) 42 = .ok (.if_icmp .ge 10, 3) := by decide +kernel
theorem fX_piecesHeld_45 : decode (m_cc M_X_piecesHeld) 45 = .ok (.iload_n 1, 1) := by decide +kernel
theorem fX_piecesHeld_46 : decode (m_cc M_X_piecesHeld) 46 = .ok (.aload_n 3, 1) := by decide +kernel
theorem fX_piecesHeld_47 : decode (m_cc M_X_piecesHeld) 47 = .ok (.getfield 82, 3) := by decide +kernel
theorem fX_piecesHeld_50 : decode (m_cc M_X_piecesHeld) 50 = .ok (.iadd, 1) := by decide +kernel
theorem fX_piecesHeld_51 : decode (m_cc M_X_piecesHeld) 51 = .ok (.istore_n 1, 1) := by decide +kernel
theorem fX_piecesHeld_52 : decode (m_cc M_X_piecesHeld) 52 = .ok (.iinc 2 1, 3) := by decide +kernel
theorem fX_piecesHeld_55 : decode (m_cc M_X_piecesHeld) 55 = .ok (.goto (-51), 3) := by decide +kernel
theorem fX_piecesHeld_58 : decode (m_cc M_X_piecesHeld) 58 = .ok (.iload_n 1, 1) := by decide +kernel
theorem fX_piecesHeld_59 : decode (m_cc M_X_piecesHeld) 59 = .ok (.ireturn, 1) := by decide +kernel
theorem fX_piecesShipped_0 : decode (m_cc M_X_piecesShipped) 0 = .ok (.iconst 0, 1) := by decide +kernel
theorem fX_piecesShipped_1 : decode (m_cc M_X_piecesShipped) 1 = .ok (.istore_n 1, 1) := by decide +kernel
theorem fX_piecesShipped_2 : decode (m_cc M_X_piecesShipped) 2 = .ok (.iconst 0, 1) := by decide +kernel
theorem fX_piecesShipped_3 : decode (m_cc M_X_piecesShipped) 3 = .ok (.istore_n 2, 1) := by decide +kernel
theorem fX_piecesShipped_4 : decode (m_cc M_X_piecesShipped) 4 = .ok (.iload_n 2, 1) := by decide +kernel
theorem fX_piecesShipped_5 : decode (m_cc M_X_piecesShipped) 5 = .ok (.aload_n 0, 1) := by decide +kernel
theorem fX_piecesShipped_6 : decode (m_cc M_X_piecesShipped) 6 = .ok (.getfield 16, 3) := by decide +kernel
theorem fX_piecesShipped_9 : decode (m_cc M_X_piecesShipped) 9 = .ok (.invokevirtual 53, 3) := by decide +kernel
theorem fX_piecesShipped_12 : decode (m_cc M_X_piecesShipped) 12 = .ok (.if_icmp .ge 26, 3) := by decide +kernel
theorem fX_piecesShipped_15 : decode (m_cc M_X_piecesShipped) 15 = .ok (.iload_n 1, 1) := by decide +kernel
theorem fX_piecesShipped_16 : decode (m_cc M_X_piecesShipped) 16 = .ok (.aload_n 0, 1) := by decide +kernel
theorem fX_piecesShipped_17 : decode (m_cc M_X_piecesShipped) 17 = .ok (.getfield 16, 3) := by decide +kernel
theorem fX_piecesShipped_20 : decode (m_cc M_X_piecesShipped) 20 = .ok (.iload_n 2, 1) := by decide +kernel
theorem fX_piecesShipped_21 : decode (m_cc M_X_piecesShipped) 21 = .ok (.invokevirtual 167, 3) := by decide +kernel
theorem fX_piecesShipped_24 : decode (m_cc M_X_piecesShipped) 24 = .ok (.checkcast 68, 3) := by decide +kernel
theorem fX_piecesShipped_27 : decode (m_cc M_X_piecesShipped) 27 = .ok (.getfield 189, 3) := by decide +kernel
theorem fX_piecesShipped_30 : decode (m_cc M_X_piecesShipped) 30 = .ok (.iadd, 1) := by decide +kernel
theorem fX_piecesShipped_31 : decode (m_cc M_X_piecesShipped) 31 = .ok (.istore_n 1, 1) := by decide +kernel
theorem fX_piecesShipped_32 : decode (m_cc M_X_piecesShipped) 32 = .ok (.iinc 2 1, 3) := by decide +kernel
theorem fX_piecesShipped_35 : decode (m_cc M_X_piecesShipped) 35 = .ok (.goto (-31), 3) := by decide +kernel
theorem fX_piecesShipped_38 : decode (m_cc M_X_piecesShipped) 38 = .ok (.iload_n 1, 1) := by decide +kernel
theorem fX_piecesShipped_39 : decode (m_cc M_X_piecesShipped) 39 = .ok (.ireturn, 1) := by decide +kernel
end
section
/-! DECODED: Order, Line, the JDK -/
theorem fL_init_0 : decode (m_cc M_L_init) 0 = .ok (.aload_n 0, 1) := by decide +kernel
theorem fL_init_1 : decode (m_cc M_L_init) 1 = .ok (.invokespecial 3, 3) := by decide +kernel
theorem fL_init_4 : decode (m_cc M_L_init) 4 = .ok (.aload_n 0, 1) := by decide +kernel
theorem fL_init_5 : decode (m_cc M_L_init) 5 = .ok (.iload_n 1, 1) := by decide +kernel
theorem fL_init_6 : decode (m_cc M_L_init) 6 = .ok (.putfield 9, 3) := by decide +kernel
theorem fL_init_9 : decode (m_cc M_L_init) 9 = .ok (.aload_n 0, 1) := by decide +kernel
theorem fL_init_10 : decode (m_cc M_L_init) 10 = .ok (.aload_n 2, 1) := by decide +kernel
theorem fL_init_11 : decode (m_cc M_L_init) 11 = .ok (.putfield 15, 3) := by decide +kernel
theorem fL_init_14 : decode (m_cc M_L_init) 14 = .ok (.aload_n 0, 1) := by decide +kernel
theorem fL_init_15 : decode (m_cc M_L_init) 15 = .ok (.iload_n 3, 1) := by decide +kernel
theorem fL_init_16 : decode (m_cc M_L_init) 16 = .ok (.putfield 19, 3) := by decide +kernel
theorem fL_init_19 : decode (m_cc M_L_init) 19 = .ok (.aload_n 0, 1) := by decide +kernel
theorem fL_init_20 : decode (m_cc M_L_init) 20 = .ok (.iload 4, 2) := by decide +kernel
theorem fL_init_22 : decode (m_cc M_L_init) 22 = .ok (.putfield 22, 3) := by decide +kernel
theorem fL_init_25 : decode (m_cc M_L_init) 25 = .ok (.aload_n 0, 1) := by decide +kernel
theorem fL_init_26 : decode (m_cc M_L_init) 26 = .ok (.iload 5, 2) := by decide +kernel
theorem fL_init_28 : decode (m_cc M_L_init) 28 = .ok (.putfield 25, 3) := by decide +kernel
theorem fL_init_31 : decode (m_cc M_L_init) 31 = .ok (.aload_n 0, 1) := by decide +kernel
theorem fL_init_32 : decode (m_cc M_L_init) 32 = .ok (.iconst 0, 1) := by decide +kernel
theorem fL_init_33 : decode (m_cc M_L_init) 33 = .ok (.putfield 28, 3) := by decide +kernel
theorem fL_init_36 : decode (m_cc M_L_init) 36 = .ok (.aload_n 0, 1) := by decide +kernel
theorem fL_init_37 : decode (m_cc M_L_init) 37 = .ok (.iconst 0, 1) := by decide +kernel
theorem fL_init_38 : decode (m_cc M_L_init) 38 = .ok (.putfield 31, 3) := by decide +kernel
theorem fL_init_41 : decode (m_cc M_L_init) 41 = .ok (.aload_n 0, 1) := by decide +kernel
theorem fL_init_42 : decode (m_cc M_L_init) 42 = .ok (.iconst 0, 1) := by decide +kernel
theorem fL_init_43 : decode (m_cc M_L_init) 43 = .ok (.putfield 34, 3) := by decide +kernel
theorem fL_init_46 : decode (m_cc M_L_init) 46 = .ok (.aload_n 0, 1) := by decide +kernel
theorem fL_init_47 : decode (m_cc M_L_init) 47 = .ok (.iconst (-1), 1) := by decide +kernel
theorem fL_init_48 : decode (m_cc M_L_init) 48 = .ok (.putfield 37, 3) := by decide +kernel
theorem fL_init_51 : decode (m_cc M_L_init) 51 = .ok (.aload_n 0, 1) := by decide +kernel
theorem fL_init_52 : decode (m_cc M_L_init) 52 = .ok (.iconst 1, 1) := by decide +kernel
theorem fL_init_53 : decode (m_cc M_L_init) 53 = .ok (.putfield 40, 3) := by decide +kernel
theorem fL_init_56 : decode (m_cc M_L_init) 56 = .ok (.aload_n 0, 1) := by decide +kernel
theorem fL_init_57 : decode (m_cc M_L_init) 57 = .ok (.iconst 0, 1) := by decide +kernel
theorem fL_init_58 : decode (m_cc M_L_init) 58 = .ok (.putfield 44, 3) := by decide +kernel
theorem fL_init_61 : decode (m_cc M_L_init) 61 = .ok (.return_, 1) := by decide +kernel
theorem fL_hasRule_0 : decode (m_cc M_L_hasRule) 0 = .ok (.aload_n 0, 1) := by decide +kernel
theorem fL_hasRule_1 : decode (m_cc M_L_hasRule) 1 = .ok (.getfield 25, 3) := by decide +kernel
theorem fL_hasRule_4 : decode (m_cc M_L_hasRule) 4 = .ok (.iload_n 1, 1) := by decide +kernel
theorem fL_hasRule_5 : decode (m_cc M_L_hasRule) 5 = .ok (.iand, 1) := by decide +kernel
theorem fL_hasRule_6 : decode (m_cc M_L_hasRule) 6 = .ok (.ifCond .eq 7, 3) := by decide +kernel
theorem fL_hasRule_9 : decode (m_cc M_L_hasRule) 9 = .ok (.iconst 1, 1) := by decide +kernel
theorem fL_hasRule_10 : decode (m_cc M_L_hasRule) 10 = .ok (.goto 4, 3) := by decide +kernel
theorem fL_hasRule_13 : decode (m_cc M_L_hasRule) 13 = .ok (.iconst 0, 1) := by decide +kernel
theorem fL_hasRule_14 : decode (m_cc M_L_hasRule) 14 = .ok (.ireturn, 1) := by decide +kernel
theorem fL_isReady_0 : decode (m_cc M_L_isReady) 0 = .ok (.aload_n 0, 1) := by decide +kernel
theorem fL_isReady_1 : decode (m_cc M_L_isReady) 1 = .ok (.getfield 28, 3) := by decide +kernel
theorem fL_isReady_4 : decode (m_cc M_L_isReady) 4 = .ok (.aload_n 0, 1) := by decide +kernel
theorem fL_isReady_5 : decode (m_cc M_L_isReady) 5 = .ok (.getfield 22, 3) := by decide +kernel
theorem fL_isReady_8 : decode (m_cc M_L_isReady) 8 = .ok (.if_icmp .eq 26, 3) := by decide +kernel
theorem fL_isReady_11 : decode (m_cc M_L_isReady) 11 = .ok (.aload_n 0, 1) := by decide +kernel
theorem fL_isReady_12 : decode (m_cc M_L_isReady) 12 = .ok (.iconst 1, 1) := by decide +kernel
theorem fL_isReady_13 : decode (m_cc M_L_isReady) 13 = .ok (.invokevirtual 47, 3) := by decide +kernel
theorem fL_isReady_16 : decode (m_cc M_L_isReady) 16 = .ok (.ifCond .eq 10, 3) := by decide +kernel
theorem fL_isReady_19 : decode (m_cc M_L_isReady) 19 = .ok (.aload_n 0, 1) := by decide +kernel
theorem fL_isReady_20 : decode (m_cc M_L_isReady) 20 = .ok (.getfield 28, 3) := by decide +kernel
theorem fL_isReady_23 : decode (m_cc M_L_isReady) 23 = .ok (.ifCond .gt 11, 3) := by decide +kernel
theorem fL_isReady_26 : decode (m_cc M_L_isReady) 26 = .ok (.aload_n 0, 1) := by decide +kernel
theorem fL_isReady_27 : decode (m_cc M_L_isReady) 27 = .ok (.iconst 4, 1) := by decide +kernel
theorem fL_isReady_28 : decode (m_cc M_L_isReady) 28 = .ok (.invokevirtual 47, 3) := by decide +kernel
theorem fL_isReady_31 : decode (m_cc M_L_isReady) 31 = .ok (.ifCond .eq 7, 3) := by decide +kernel
theorem fL_isReady_34 : decode (m_cc M_L_isReady) 34 = .ok (.iconst 1, 1) := by decide +kernel
theorem fL_isReady_35 : decode (m_cc M_L_isReady) 35 = .ok (.goto 4, 3) := by decide +kernel
theorem fL_isReady_38 : decode (m_cc M_L_isReady) 38 = .ok (.iconst 0, 1) := by decide +kernel
theorem fL_isReady_39 : decode (m_cc M_L_isReady) 39 = .ok (.ireturn, 1) := by decide +kernel
theorem fL_missing_0 : decode (m_cc M_L_missing) 0 = .ok (.aload_n 0, 1) := by decide +kernel
theorem fL_missing_1 : decode (m_cc M_L_missing) 1 = .ok (.getfield 22, 3) := by decide +kernel
theorem fL_missing_4 : decode (m_cc M_L_missing) 4 = .ok (.aload_n 0, 1) := by decide +kernel
theorem fL_missing_5 : decode (m_cc M_L_missing) 5 = .ok (.getfield 34, 3) := by decide +kernel
theorem fL_missing_8 : decode (m_cc M_L_missing) 8 = .ok (.isub, 1) := by decide +kernel
theorem fL_missing_9 : decode (m_cc M_L_missing) 9 = .ok (.ireturn, 1) := by decide +kernel
theorem fL_awaitsBackorder_0 : decode (m_cc M_L_awaitsBackorder) 0 = .ok (.aload_n 0, 1) := by decide +kernel
theorem fL_awaitsBackorder_1 : decode (m_cc M_L_awaitsBackorder) 1 = .ok (.getfield 40, 3) := by decide +kernel
theorem fL_awaitsBackorder_4 : decode (m_cc M_L_awaitsBackorder) 4 = .ok (.ifCond .eq 29, 3) := by decide +kernel
theorem fL_awaitsBackorder_7 : decode (m_cc M_L_awaitsBackorder) 7 = .ok (.aload_n 0, 1) := by decide +kernel
theorem fL_awaitsBackorder_8 : decode (m_cc M_L_awaitsBackorder) 8 = .ok (.iconst 4, 1) := by decide +kernel
theorem fL_awaitsBackorder_9 : decode (m_cc M_L_awaitsBackorder) 9 = .ok (.invokevirtual 47, 3) := by decide +kernel
theorem fL_awaitsBackorder_12 : decode (m_cc M_L_awaitsBackorder) 12 = .ok (.ifCond .eq 21, 3) := by decide +kernel
theorem fL_awaitsBackorder_15 : decode (m_cc M_L_awaitsBackorder) 15 = .ok (.aload_n 0, 1) := by decide +kernel
theorem fL_awaitsBackorder_16 : decode (m_cc M_L_awaitsBackorder) 16 = .ok (.invokevirtual 51, 3) := by decide +kernel
theorem fL_awaitsBackorder_19 : decode (m_cc M_L_awaitsBackorder) 19 = .ok (.ifCond .le 14, 3) := by decide +kernel
theorem fL_awaitsBackorder_22 : decode (m_cc M_L_awaitsBackorder) 22 = .ok (.aload_n 0, 1) := by decide +kernel
theorem fL_awaitsBackorder_23 : decode (m_cc M_L_awaitsBackorder) 23 = .ok (.getfield 44, 3) := by decide +kernel
theorem fL_awaitsBackorder_26 : decode (m_cc M_L_awaitsBackorder) 26 = .ok (.ifCond .ne 7, 3) := by decide +kernel
theorem fL_awaitsBackorder_29 : decode (m_cc M_L_awaitsBackorder) 29 = .ok (.iconst 1, 1) := by decide +kernel
theorem fL_awaitsBackorder_30 : decode (m_cc M_L_awaitsBackorder) 30 = .ok (.goto 4, 3) := by decide +kernel
theorem fL_awaitsBackorder_33 : decode (m_cc M_L_awaitsBackorder) 33 = .ok (.iconst 0, 1) := by decide +kernel
theorem fL_awaitsBackorder_34 : decode (m_cc M_L_awaitsBackorder) 34 = .ok (.ireturn, 1) := by decide +kernel
theorem fO_init_0 : decode (m_cc M_O_init) 0 = .ok (.aload_n 0, 1) := by decide +kernel
theorem fO_init_1 : decode (m_cc M_O_init) 1 = .ok (.invokespecial 3, 3) := by decide +kernel
theorem fO_init_4 : decode (m_cc M_O_init) 4 = .ok (.aload_n 0, 1) := by decide +kernel
theorem fO_init_5 : decode (m_cc M_O_init) 5 = .ok (.iload_n 1, 1) := by decide +kernel
theorem fO_init_6 : decode (m_cc M_O_init) 6 = .ok (.putfield 9, 3) := by decide +kernel
theorem fO_init_9 : decode (m_cc M_O_init) 9 = .ok (.aload_n 0, 1) := by decide +kernel
theorem fO_init_10 : decode (m_cc M_O_init) 10 = .ok (.iload_n 2, 1) := by decide +kernel
theorem fO_init_11 : decode (m_cc M_O_init) 11 = .ok (.putfield 15, 3) := by decide +kernel
theorem fO_init_14 : decode (m_cc M_O_init) 14 = .ok (.aload_n 0, 1) := by decide +kernel
theorem fO_init_15 : decode (m_cc M_O_init) 15 = .ok (.iload_n 3, 1) := by decide +kernel
theorem fO_init_16 : decode (m_cc M_O_init) 16 = .ok (.putfield 18, 3) := by decide +kernel
theorem fO_init_19 : decode (m_cc M_O_init) 19 = .ok (.aload_n 0, 1) := by decide +kernel
theorem fO_init_20 : decode (m_cc M_O_init) 20 = .ok (.iload 4, 2) := by decide +kernel
theorem fO_init_22 : decode (m_cc M_O_init) 22 = .ok (.putfield 21, 3) := by decide +kernel
theorem fO_init_25 : decode (m_cc M_O_init) 25 = .ok (.aload_n 0, 1) := by decide +kernel
theorem fO_init_26 : decode (m_cc M_O_init) 26 = .ok (.iload 5, 2) := by decide +kernel
theorem fO_init_28 : decode (m_cc M_O_init) 28 = .ok (.putfield 24, 3) := by decide +kernel
theorem fO_init_31 : decode (m_cc M_O_init) 31 = .ok (.aload_n 0, 1) := by decide +kernel
theorem fO_init_32 : decode (m_cc M_O_init) 32 = .ok (.new 27, 3) := by decide +kernel
theorem fO_init_35 : decode (m_cc M_O_init) 35 = .ok (.dup, 1) := by decide +kernel
theorem fO_init_36 : decode (m_cc M_O_init) 36 = .ok (.invokespecial 29, 3) := by decide +kernel
theorem fO_init_39 : decode (m_cc M_O_init) 39 = .ok (.putfield 30, 3) := by decide +kernel
theorem fO_init_42 : decode (m_cc M_O_init) 42 = .ok (.aload_n 0, 1) := by decide +kernel
theorem fO_init_43 : decode (m_cc M_O_init) 43 = .ok (.iconst 0, 1) := by decide +kernel
theorem fO_init_44 : decode (m_cc M_O_init) 44 = .ok (.putfield 34, 3) := by decide +kernel
theorem fO_init_47 : decode (m_cc M_O_init) 47 = .ok (.aload_n 0, 1) := by decide +kernel
theorem fO_init_48 : decode (m_cc M_O_init) 48 = .ok (.iconst 0, 1) := by decide +kernel
theorem fO_init_49 : decode (m_cc M_O_init) 49 = .ok (.putfield 37, 3) := by decide +kernel
theorem fO_init_52 : decode (m_cc M_O_init) 52 = .ok (.aload_n 0, 1) := by decide +kernel
theorem fO_init_53 : decode (m_cc M_O_init) 53 = .ok (.iconst 1, 1) := by decide +kernel
theorem fO_init_54 : decode (m_cc M_O_init) 54 = .ok (.putfield 40, 3) := by decide +kernel
theorem fO_init_57 : decode (m_cc M_O_init) 57 = .ok (.aload_n 0, 1) := by decide +kernel
theorem fO_init_58 : decode (m_cc M_O_init) 58 = .ok (.iconst (-1), 1) := by decide +kernel
theorem fO_init_59 : decode (m_cc M_O_init) 59 = .ok (.putfield 43, 3) := by decide +kernel
theorem fO_init_62 : decode (m_cc M_O_init) 62 = .ok (.return_, 1) := by decide +kernel
theorem fO_isBlocked_0 : decode (m_cc M_O_isBlocked) 0 = .ok (.aload_n 0, 1) := by decide +kernel
theorem fO_isBlocked_1 : decode (m_cc M_O_isBlocked) 1 = .ok (.getfield 37, 3) := by decide +kernel
theorem fO_isBlocked_4 : decode (m_cc M_O_isBlocked) 4 = .ok (.ifCond .eq 7, 3) := by decide +kernel
theorem fO_isBlocked_7 : decode (m_cc M_O_isBlocked) 7 = .ok (.iconst 1, 1) := by decide +kernel
theorem fO_isBlocked_8 : decode (m_cc M_O_isBlocked) 8 = .ok (.goto 4, 3) := by decide +kernel
theorem fO_isBlocked_11 : decode (m_cc M_O_isBlocked) 11 = .ok (.iconst 0, 1) := by decide +kernel
theorem fO_isBlocked_12 : decode (m_cc M_O_isBlocked) 12 = .ok (.ireturn, 1) := by decide +kernel
theorem fO_isWaiting_0 : decode (m_cc M_O_isWaiting) 0 = .ok (.aload_n 0, 1) := by decide +kernel
theorem fO_isWaiting_1 : decode (m_cc M_O_isWaiting) 1 = .ok (.getfield 34, 3) := by decide +kernel
theorem fO_isWaiting_4 : decode (m_cc M_O_isWaiting) 4 = .ok (.ifCond .eq 11, 3) := by decide +kernel
theorem fO_isWaiting_7 : decode (m_cc M_O_isWaiting) 7 = .ok (.aload_n 0, 1) := by decide +kernel
theorem fO_isWaiting_8 : decode (m_cc M_O_isWaiting) 8 = .ok (.getfield 34, 3) := by decide +kernel
theorem fO_isWaiting_11 : decode (m_cc M_O_isWaiting) 11 = .ok (.iconst 1, 1) := by decide +kernel
theorem fO_isWaiting_12 : decode (m_cc M_O_isWaiting) 12 = .ok (.if_icmp .ne 14, 3) := by decide +kernel
theorem fO_isWaiting_15 : decode (m_cc M_O_isWaiting) 15 = .ok (.aload_n 0, 1) := by decide +kernel
theorem fO_isWaiting_16 : decode (m_cc M_O_isWaiting) 16 = .ok (.invokevirtual 46, 3) := by decide +kernel
theorem fO_isWaiting_19 : decode (m_cc M_O_isWaiting) 19 = .ok (.ifCond .ne 7, 3) := by decide +kernel
theorem fO_isWaiting_22 : decode (m_cc M_O_isWaiting) 22 = .ok (.iconst 1, 1) := by decide +kernel
theorem fO_isWaiting_23 : decode (m_cc M_O_isWaiting) 23 = .ok (.goto 4, 3) := by decide +kernel
theorem fO_isWaiting_26 : decode (m_cc M_O_isWaiting) 26 = .ok (.iconst 0, 1) := by decide +kernel
theorem fO_isWaiting_27 : decode (m_cc M_O_isWaiting) 27 = .ok (.ireturn, 1) := by decide +kernel
theorem fO_comesBefore_0 : decode (m_cc M_O_comesBefore) 0 = .ok (.aload_n 0, 1) := by decide +kernel
theorem fO_comesBefore_1 : decode (m_cc M_O_comesBefore) 1 = .ok (.getfield 21, 3) := by decide +kernel
theorem fO_comesBefore_4 : decode (m_cc M_O_comesBefore) 4 = .ok (.aload_n 1, 1) := by decide +kernel
theorem fO_comesBefore_5 : decode (m_cc M_O_comesBefore) 5 = .ok (.getfield 21, 3) := by decide +kernel
theorem fO_comesBefore_8 : decode (m_cc M_O_comesBefore) 8 = .ok (.if_icmp .eq 20, 3) := by decide +kernel
theorem fO_comesBefore_11 : decode (m_cc M_O_comesBefore) 11 = .ok (.aload_n 0, 1) := by decide +kernel
theorem fO_comesBefore_12 : decode (m_cc M_O_comesBefore) 12 = .ok (.getfield 21, 3) := by decide +kernel
theorem fO_comesBefore_15 : decode (m_cc M_O_comesBefore) 15 = .ok (.aload_n 1, 1) := by decide +kernel
theorem fO_comesBefore_16 : decode (m_cc M_O_comesBefore) 16 = .ok (.getfield 21, 3) := by decide +kernel
theorem fO_comesBefore_19 : decode (m_cc M_O_comesBefore) 19 = .ok (.if_icmp .ge 7, 3) := by decide +kernel
theorem fO_comesBefore_22 : decode (m_cc M_O_comesBefore) 22 = .ok (.iconst 1, 1) := by decide +kernel
theorem fO_comesBefore_23 : decode (m_cc M_O_comesBefore) 23 = .ok (.goto 4, 3) := by decide +kernel
theorem fO_comesBefore_26 : decode (m_cc M_O_comesBefore) 26 = .ok (.iconst 0, 1) := by decide +kernel
theorem fO_comesBefore_27 : decode (m_cc M_O_comesBefore) 27 = .ok (.ireturn, 1) := by decide +kernel
theorem fO_comesBefore_28 : decode (m_cc M_O_comesBefore) 28 = .ok (.aload_n 0, 1) := by decide +kernel
theorem fO_comesBefore_29 : decode (m_cc M_O_comesBefore) 29 = .ok (.getfield 24, 3) := by decide +kernel
theorem fO_comesBefore_32 : decode (m_cc M_O_comesBefore) 32 = .ok (.aload_n 1, 1) := by decide +kernel
theorem fO_comesBefore_33 : decode (m_cc M_O_comesBefore) 33 = .ok (.getfield 24, 3) := by decide +kernel
theorem fO_comesBefore_36 : decode (m_cc M_O_comesBefore) 36 = .ok (.if_icmp .eq 20, 3) := by decide +kernel
theorem fO_comesBefore_39 : decode (m_cc M_O_comesBefore) 39 = .ok (.aload_n 0, 1) := by decide +kernel
theorem fO_comesBefore_40 : decode (m_cc M_O_comesBefore) 40 = .ok (.getfield 24, 3) := by decide +kernel
theorem fO_comesBefore_43 : decode (m_cc M_O_comesBefore) 43 = .ok (.aload_n 1, 1) := by decide +kernel
theorem fO_comesBefore_44 : decode (m_cc M_O_comesBefore) 44 = .ok (.getfield 24, 3) := by decide +kernel
theorem fO_comesBefore_47 : decode (m_cc M_O_comesBefore) 47 = .ok (.if_icmp .ge 7, 3) := by decide +kernel
theorem fO_comesBefore_50 : decode (m_cc M_O_comesBefore) 50 = .ok (.iconst 1, 1) := by decide +kernel
theorem fO_comesBefore_51 : decode (m_cc M_O_comesBefore) 51 = .ok (.goto 4, 3) := by decide +kernel
theorem fO_comesBefore_54 : decode (m_cc M_O_comesBefore) 54 = .ok (.iconst 0, 1) := by decide +kernel
theorem fO_comesBefore_55 : decode (m_cc M_O_comesBefore) 55 = .ok (.ireturn, 1) := by decide +kernel
theorem fO_comesBefore_56 : decode (m_cc M_O_comesBefore) 56 = .ok (.aload_n 0, 1) := by decide +kernel
theorem fO_comesBefore_57 : decode (m_cc M_O_comesBefore) 57 = .ok (.getfield 9, 3) := by decide +kernel
theorem fO_comesBefore_60 : decode (m_cc M_O_comesBefore) 60 = .ok (.aload_n 1, 1) := by decide +kernel
theorem fO_comesBefore_61 : decode (m_cc M_O_comesBefore) 61 = .ok (.getfield 9, 3) := by decide +kernel
theorem fO_comesBefore_64 : decode (m_cc M_O_comesBefore) 64 = .ok (.if_icmp .ge 7, 3) := by decide +kernel
theorem fO_comesBefore_67 : decode (m_cc M_O_comesBefore) 67 = .ok (.iconst 1, 1) := by decide +kernel
theorem fO_comesBefore_68 : decode (m_cc M_O_comesBefore) 68 = .ok (.goto 4, 3) := by decide +kernel
theorem fO_comesBefore_71 : decode (m_cc M_O_comesBefore) 71 = .ok (.iconst 0, 1) := by decide +kernel
theorem fO_comesBefore_72 : decode (m_cc M_O_comesBefore) 72 = .ok (.ireturn, 1) := by decide +kernel
theorem fO_meetsNextPhase_0 : decode (m_cc M_O_meetsNextPhase) 0 = .ok (.aload_n 0, 1) := by decide +kernel
theorem fO_meetsNextPhase_1 : decode (m_cc M_O_meetsNextPhase) 1 = .ok (.getfield 34, 3) := by decide +kernel
theorem fO_meetsNextPhase_4 : decode (m_cc M_O_meetsNextPhase) 4 = .ok (.tableswitch 66 0 4 #[36, 66, 56, 66, 61], 36) := by decide +kernel
theorem fO_meetsNextPhase_40 : decode (m_cc M_O_meetsNextPhase) 40 = .ok (.aload_n 0, 1) := by decide +kernel
theorem fO_meetsNextPhase_41 : decode (m_cc M_O_meetsNextPhase) 41 = .ok (.invokevirtual 50, 3) := by decide +kernel
theorem fO_meetsNextPhase_44 : decode (m_cc M_O_meetsNextPhase) 44 = .ok (.ifCond .eq 14, 3) := by decide +kernel
theorem fO_meetsNextPhase_47 : decode (m_cc M_O_meetsNextPhase) 47 = .ok (.aload_n 0, 1) := by decide +kernel
theorem fO_meetsNextPhase_48 : decode (m_cc M_O_meetsNextPhase) 48 = .ok (.invokevirtual 53, 3) := by decide +kernel
theorem fO_meetsNextPhase_51 : decode (m_cc M_O_meetsNextPhase) 51 = .ok (.ifCond .eq 7, 3) := by decide +kernel
theorem fO_meetsNextPhase_54 : decode (m_cc M_O_meetsNextPhase) 54 = .ok (.iconst 1, 1) := by decide +kernel
theorem fO_meetsNextPhase_55 : decode (m_cc M_O_meetsNextPhase) 55 = .ok (.goto 4, 3) := by decide +kernel
theorem fO_meetsNextPhase_58 : decode (m_cc M_O_meetsNextPhase) 58 = .ok (.iconst 0, 1) := by decide +kernel
theorem fO_meetsNextPhase_59 : decode (m_cc M_O_meetsNextPhase) 59 = .ok (.ireturn, 1) := by decide +kernel
theorem fO_meetsNextPhase_60 : decode (m_cc M_O_meetsNextPhase) 60 = .ok (.aload_n 0, 1) := by decide +kernel
theorem fO_meetsNextPhase_61 : decode (m_cc M_O_meetsNextPhase) 61 = .ok (.invokevirtual 56, 3) := by decide +kernel
theorem fO_meetsNextPhase_64 : decode (m_cc M_O_meetsNextPhase) 64 = .ok (.ireturn, 1) := by decide +kernel
theorem fO_meetsNextPhase_65 : decode (m_cc M_O_meetsNextPhase) 65 = .ok (.aload_n 0, 1) := by decide +kernel
theorem fO_meetsNextPhase_66 : decode (m_cc M_O_meetsNextPhase) 66 = .ok (.invokevirtual 59, 3) := by decide +kernel
theorem fO_meetsNextPhase_69 : decode (m_cc M_O_meetsNextPhase) 69 = .ok (.ireturn, 1) := by decide +kernel
theorem fO_meetsNextPhase_70 : decode (m_cc M_O_meetsNextPhase) 70 = .ok (.aload_n 0, 1) := by decide +kernel
theorem fO_meetsNextPhase_71 : decode (m_cc M_O_meetsNextPhase) 71 = .ok (.getfield 34, 3) := by decide +kernel
theorem fO_meetsNextPhase_74 : decode (m_cc M_O_meetsNextPhase) 74 = .ok (.iconst 1, 1) := by decide +kernel
theorem fO_meetsNextPhase_75 : decode (m_cc M_O_meetsNextPhase) 75 = .ok (.if_icmp .eq 11, 3) := by decide +kernel
theorem fO_meetsNextPhase_78 : decode (m_cc M_O_meetsNextPhase) 78 = .ok (.aload_n 0, 1) := by decide +kernel
theorem fO_meetsNextPhase_79 : decode (m_cc M_O_meetsNextPhase) 79 = .ok (.getfield 34, 3) := by decide +kernel
theorem fO_meetsNextPhase_82 : decode (m_cc M_O_meetsNextPhase) 82 = .ok (.iconst 3, 1) := by decide +kernel
theorem fO_meetsNextPhase_83 : decode (m_cc M_O_meetsNextPhase) 83 = .ok (.if_icmp .ne 7, 3) := by decide +kernel
theorem fO_meetsNextPhase_86 : decode (m_cc M_O_meetsNextPhase) 86 = .ok (.iconst 1, 1) := by decide +kernel
theorem fO_meetsNextPhase_87 : decode (m_cc M_O_meetsNextPhase) 87 = .ok (.goto 4, 3) := by decide +kernel
theorem fO_meetsNextPhase_90 : decode (m_cc M_O_meetsNextPhase) 90 = .ok (.iconst 0, 1) := by decide +kernel
theorem fO_meetsNextPhase_91 : decode (m_cc M_O_meetsNextPhase) 91 = .ok (.ireturn, 1) := by decide +kernel
theorem fO_hasLiveLine_0 : decode (m_cc M_O_hasLiveLine) 0 = .ok (.iconst 0, 1) := by decide +kernel
theorem fO_hasLiveLine_1 : decode (m_cc M_O_hasLiveLine) 1 = .ok (.istore_n 1, 1) := by decide +kernel
theorem fO_hasLiveLine_2 : decode (m_cc M_O_hasLiveLine) 2 = .ok (.iload_n 1, 1) := by decide +kernel
theorem fO_hasLiveLine_3 : decode (m_cc M_O_hasLiveLine) 3 = .ok (.aload_n 0, 1) := by decide +kernel
theorem fO_hasLiveLine_4 : decode (m_cc M_O_hasLiveLine) 4 = .ok (.getfield 30, 3) := by decide +kernel
theorem fO_hasLiveLine_7 : decode (m_cc M_O_hasLiveLine) 7 = .ok (.invokevirtual 62, 3) := by decide +kernel
theorem fO_hasLiveLine_10 : decode (m_cc M_O_hasLiveLine) 10 = .ok (.if_icmp .ge 28, 3) := by decide +kernel
theorem fO_hasLiveLine_13 : decode (m_cc M_O_hasLiveLine) 13 = .ok (.aload_n 0, 1) := by decide +kernel
theorem fO_hasLiveLine_14 : decode (m_cc M_O_hasLiveLine) 14 = .ok (.getfield 30, 3) := by decide +kernel
theorem fO_hasLiveLine_17 : decode (m_cc M_O_hasLiveLine) 17 = .ok (.iload_n 1, 1) := by decide +kernel
theorem fO_hasLiveLine_18 : decode (m_cc M_O_hasLiveLine) 18 = .ok (.invokevirtual 66, 3) := by decide +kernel
theorem fO_hasLiveLine_21 : decode (m_cc M_O_hasLiveLine) 21 = .ok (.checkcast 70, 3) := by decide +kernel
theorem fO_hasLiveLine_24 : decode (m_cc M_O_hasLiveLine) 24 = .ok (.getfield 72, 3) := by decide +kernel
theorem fO_hasLiveLine_27 : decode (m_cc M_O_hasLiveLine) 27 = .ok (.ifCond .eq 5, 3) := by decide +kernel
theorem fO_hasLiveLine_30 : decode (m_cc M_O_hasLiveLine) 30 = .ok (.iconst 1, 1) := by decide +kernel
theorem fO_hasLiveLine_31 : decode (m_cc M_O_hasLiveLine) 31 = .ok (.ireturn, 1) := by decide +kernel
theorem fO_hasLiveLine_32 : decode (m_cc M_O_hasLiveLine) 32 = .ok (.iinc 1 1, 3) := by decide +kernel
theorem fO_hasLiveLine_35 : decode (m_cc M_O_hasLiveLine) 35 = .ok (.goto (-33), 3) := by decide +kernel
theorem fO_hasLiveLine_38 : decode (m_cc M_O_hasLiveLine) 38 = .ok (.iconst 0, 1) := by decide +kernel
theorem fO_hasLiveLine_39 : decode (m_cc M_O_hasLiveLine) 39 = .ok (.ireturn, 1) := by decide +kernel
theorem fO_eachLiveLineIsReady_0 : decode (m_cc M_O_eachLiveLineIsReady) 0 = .ok (.iconst 0, 1) := by decide +kernel
theorem fO_eachLiveLineIsReady_1 : decode (m_cc M_O_eachLiveLineIsReady) 1 = .ok (.istore_n 1, 1) := by decide +kernel
theorem fO_eachLiveLineIsReady_2 : decode (m_cc M_O_eachLiveLineIsReady) 2 = .ok (.iload_n 1, 1) := by decide +kernel
theorem fO_eachLiveLineIsReady_3 : decode (m_cc M_O_eachLiveLineIsReady) 3 = .ok (.aload_n 0, 1) := by decide +kernel
theorem fO_eachLiveLineIsReady_4 : decode (m_cc M_O_eachLiveLineIsReady) 4 = .ok (.getfield 30, 3) := by decide +kernel
theorem fO_eachLiveLineIsReady_7 : decode (m_cc M_O_eachLiveLineIsReady) 7 = .ok (.invokevirtual 62, 3) := by decide +kernel
theorem fO_eachLiveLineIsReady_10 : decode (m_cc M_O_eachLiveLineIsReady) 10 = .ok (.if_icmp .ge 37, 3) := by decide +kernel
theorem fO_eachLiveLineIsReady_13 : decode (m_cc M_O_eachLiveLineIsReady) 13 = .ok (.aload_n 0, 1) := by decide +kernel
theorem fO_eachLiveLineIsReady_14 : decode (m_cc M_O_eachLiveLineIsReady) 14 = .ok (.getfield 30, 3) := by decide +kernel
theorem fO_eachLiveLineIsReady_17 : decode (m_cc M_O_eachLiveLineIsReady) 17 = .ok (.iload_n 1, 1) := by decide +kernel
theorem fO_eachLiveLineIsReady_18 : decode (m_cc M_O_eachLiveLineIsReady) 18 = .ok (.invokevirtual 66, 3) := by decide +kernel
theorem fO_eachLiveLineIsReady_21 : decode (m_cc M_O_eachLiveLineIsReady) 21 = .ok (.checkcast 70, 3) := by decide +kernel
theorem fO_eachLiveLineIsReady_24 : decode (m_cc M_O_eachLiveLineIsReady) 24 = .ok (.astore_n 2, 1) := by decide +kernel
theorem fO_eachLiveLineIsReady_25 : decode (m_cc M_O_eachLiveLineIsReady) 25 = .ok (.aload_n 2, 1) := by decide +kernel
theorem fO_eachLiveLineIsReady_26 : decode (m_cc M_O_eachLiveLineIsReady) 26 = .ok (.getfield 72, 3) := by decide +kernel
theorem fO_eachLiveLineIsReady_29 : decode (m_cc M_O_eachLiveLineIsReady) 29 = .ok (.ifCond .eq 12, 3) := by decide +kernel
theorem fO_eachLiveLineIsReady_32 : decode (m_cc M_O_eachLiveLineIsReady) 32 = .ok (.aload_n 2, 1) := by decide +kernel
theorem fO_eachLiveLineIsReady_33 : decode (m_cc M_O_eachLiveLineIsReady) 33 = .ok (.invokevirtual 76, 3) := by decide +kernel
theorem fO_eachLiveLineIsReady_36 : decode (m_cc M_O_eachLiveLineIsReady) 36 = .ok (.ifCond .ne 5, 3) := by decide +kernel
theorem fO_eachLiveLineIsReady_39 : decode (m_cc M_O_eachLiveLineIsReady) 39 = .ok (.iconst 0, 1) := by decide +kernel
theorem fO_eachLiveLineIsReady_40 : decode (m_cc M_O_eachLiveLineIsReady) 40 = .ok (.ireturn, 1) := by decide +kernel
theorem fO_eachLiveLineIsReady_41 : decode (m_cc M_O_eachLiveLineIsReady) 41 = .ok (.iinc 1 1, 3) := by decide +kernel
theorem fO_eachLiveLineIsReady_44 : decode (m_cc M_O_eachLiveLineIsReady) 44 = .ok (.goto (-42), 3) := by decide +kernel
theorem fO_eachLiveLineIsReady_47 : decode (m_cc M_O_eachLiveLineIsReady) 47 = .ok (.iconst 1, 1) := by decide +kernel
theorem fO_eachLiveLineIsReady_48 : decode (m_cc M_O_eachLiveLineIsReady) 48 = .ok (.ireturn, 1) := by decide +kernel
theorem fO_allHeldIsPicked_0 : decode (m_cc M_O_allHeldIsPicked) 0 = .ok (.iconst 0, 1) := by decide +kernel
theorem fO_allHeldIsPicked_1 : decode (m_cc M_O_allHeldIsPicked) 1 = .ok (.istore_n 1, 1) := by decide +kernel
theorem fO_allHeldIsPicked_2 : decode (m_cc M_O_allHeldIsPicked) 2 = .ok (.iload_n 1, 1) := by decide +kernel
theorem fO_allHeldIsPicked_3 : decode (m_cc M_O_allHeldIsPicked) 3 = .ok (.aload_n 0, 1) := by decide +kernel
theorem fO_allHeldIsPicked_4 : decode (m_cc M_O_allHeldIsPicked) 4 = .ok (.getfield 30, 3) := by decide +kernel
theorem fO_allHeldIsPicked_7 : decode (m_cc M_O_allHeldIsPicked) 7 = .ok (.invokevirtual 62, 3) := by decide +kernel
theorem fO_allHeldIsPicked_10 : decode (m_cc M_O_allHeldIsPicked) 10 = .ok (.if_icmp .ge 41, 3) := by decide +kernel
theorem fO_allHeldIsPicked_13 : decode (m_cc M_O_allHeldIsPicked) 13 = .ok (.aload_n 0, 1) := by decide +kernel
theorem fO_allHeldIsPicked_14 : decode (m_cc M_O_allHeldIsPicked) 14 = .ok (.getfield 30, 3) := by decide +kernel
theorem fO_allHeldIsPicked_17 : decode (m_cc M_O_allHeldIsPicked) 17 = .ok (.iload_n 1, 1) := by decide +kernel
theorem fO_allHeldIsPicked_18 : decode (m_cc M_O_allHeldIsPicked) 18 = .ok (.invokevirtual 66, 3) := by decide +kernel
theorem fO_allHeldIsPicked_21 : decode (m_cc M_O_allHeldIsPicked) 21 = .ok (.checkcast 70, 3) := by decide +kernel
theorem fO_allHeldIsPicked_24 : decode (m_cc M_O_allHeldIsPicked) 24 = .ok (.astore_n 2, 1) := by decide +kernel
theorem fO_allHeldIsPicked_25 : decode (m_cc M_O_allHeldIsPicked) 25 = .ok (.aload_n 2, 1) := by decide +kernel
theorem fO_allHeldIsPicked_26 : decode (m_cc M_O_allHeldIsPicked) 26 = .ok (.getfield 72, 3) := by decide +kernel
theorem fO_allHeldIsPicked_29 : decode (m_cc M_O_allHeldIsPicked) 29 = .ok (.ifCond .eq 16, 3) := by decide +kernel
theorem fO_allHeldIsPicked_32 : decode (m_cc M_O_allHeldIsPicked) 32 = .ok (.aload_n 2, 1) := by decide +kernel
theorem fO_allHeldIsPicked_33 : decode (m_cc M_O_allHeldIsPicked) 33 = .ok (.getfield 79, 3) := by decide +kernel
theorem fO_allHeldIsPicked_36 : decode (m_cc M_O_allHeldIsPicked) 36 = .ok (.aload_n 2, 1) := by decide +kernel
theorem fO_allHeldIsPicked_37 : decode (m_cc M_O_allHeldIsPicked) 37 = .ok (.getfield 82, 3) := by decide +kernel
theorem fO_allHeldIsPicked_40 : decode (m_cc M_O_allHeldIsPicked) 40 = .ok (.if_icmp .eq 5, 3) := by decide +kernel
theorem fO_allHeldIsPicked_43 : decode (m_cc M_O_allHeldIsPicked) 43 = .ok (.iconst 0, 1) := by decide +kernel
theorem fO_allHeldIsPicked_44 : decode (m_cc M_O_allHeldIsPicked) 44 = .ok (.ireturn, 1) := by decide +kernel
theorem fO_allHeldIsPicked_45 : decode (m_cc M_O_allHeldIsPicked) 45 = .ok (.iinc 1 1, 3) := by decide +kernel
theorem fO_allHeldIsPicked_48 : decode (m_cc M_O_allHeldIsPicked) 48 = .ok (.goto (-46), 3) := by decide +kernel
theorem fO_allHeldIsPicked_51 : decode (m_cc M_O_allHeldIsPicked) 51 = .ok (.iconst 1, 1) := by decide +kernel
theorem fO_allHeldIsPicked_52 : decode (m_cc M_O_allHeldIsPicked) 52 = .ok (.ireturn, 1) := by decide +kernel
theorem fO_noLineAwaitsBackorder_0 : decode (m_cc M_O_noLineAwaitsBackorder) 0 = .ok (.iconst 0, 1) := by decide +kernel
theorem fO_noLineAwaitsBackorder_1 : decode (m_cc M_O_noLineAwaitsBackorder) 1 = .ok (.istore_n 1, 1) := by decide +kernel
theorem fO_noLineAwaitsBackorder_2 : decode (m_cc M_O_noLineAwaitsBackorder) 2 = .ok (.iload_n 1, 1) := by decide +kernel
theorem fO_noLineAwaitsBackorder_3 : decode (m_cc M_O_noLineAwaitsBackorder) 3 = .ok (.aload_n 0, 1) := by decide +kernel
theorem fO_noLineAwaitsBackorder_4 : decode (m_cc M_O_noLineAwaitsBackorder) 4 = .ok (.getfield 30, 3) := by decide +kernel
theorem fO_noLineAwaitsBackorder_7 : decode (m_cc M_O_noLineAwaitsBackorder) 7 = .ok (.invokevirtual 62, 3) := by decide +kernel
theorem fO_noLineAwaitsBackorder_10 : decode (m_cc M_O_noLineAwaitsBackorder) 10 = .ok (.if_icmp .ge 28, 3) := by decide +kernel
theorem fO_noLineAwaitsBackorder_13 : decode (m_cc M_O_noLineAwaitsBackorder) 13 = .ok (.aload_n 0, 1) := by decide +kernel
theorem fO_noLineAwaitsBackorder_14 : decode (m_cc M_O_noLineAwaitsBackorder) 14 = .ok (.getfield 30, 3) := by decide +kernel
theorem fO_noLineAwaitsBackorder_17 : decode (m_cc M_O_noLineAwaitsBackorder) 17 = .ok (.iload_n 1, 1) := by decide +kernel
theorem fO_noLineAwaitsBackorder_18 : decode (m_cc M_O_noLineAwaitsBackorder) 18 = .ok (.invokevirtual 66, 3) := by decide +kernel
theorem fO_noLineAwaitsBackorder_21 : decode (m_cc M_O_noLineAwaitsBackorder) 21 = .ok (.checkcast 70, 3) := by decide +kernel
theorem fO_noLineAwaitsBackorder_24 : decode (m_cc M_O_noLineAwaitsBackorder) 24 = .ok (.invokevirtual 85, 3) := by decide +kernel
theorem fO_noLineAwaitsBackorder_27 : decode (m_cc M_O_noLineAwaitsBackorder) 27 = .ok (.ifCond .eq 5, 3) := by decide +kernel
theorem fO_noLineAwaitsBackorder_30 : decode (m_cc M_O_noLineAwaitsBackorder) 30 = .ok (.iconst 0, 1) := by decide +kernel
theorem fO_noLineAwaitsBackorder_31 : decode (m_cc M_O_noLineAwaitsBackorder) 31 = .ok (.ireturn, 1) := by decide +kernel
theorem fO_noLineAwaitsBackorder_32 : decode (m_cc M_O_noLineAwaitsBackorder) 32 = .ok (.iinc 1 1, 3) := by decide +kernel
theorem fO_noLineAwaitsBackorder_35 : decode (m_cc M_O_noLineAwaitsBackorder) 35 = .ok (.goto (-33), 3) := by decide +kernel
theorem fO_noLineAwaitsBackorder_38 : decode (m_cc M_O_noLineAwaitsBackorder) 38 = .ok (.iconst 1, 1) := by decide +kernel
theorem fO_noLineAwaitsBackorder_39 : decode (m_cc M_O_noLineAwaitsBackorder) 39 = .ok (.ireturn, 1) := by decide +kernel
theorem fO_shipAllPicked_0 : decode (m_cc M_O_shipAllPicked) 0 = .ok (.iconst 0, 1) := by decide +kernel
theorem fO_shipAllPicked_1 : decode (m_cc M_O_shipAllPicked) 1 = .ok (.istore_n 1, 1) := by decide +kernel
theorem fO_shipAllPicked_2 : decode (m_cc M_O_shipAllPicked) 2 = .ok (.iload_n 1, 1) := by decide +kernel
theorem fO_shipAllPicked_3 : decode (m_cc M_O_shipAllPicked) 3 = .ok (.aload_n 0, 1) := by decide +kernel
theorem fO_shipAllPicked_4 : decode (m_cc M_O_shipAllPicked) 4 = .ok (.getfield 30, 3) := by decide +kernel
theorem fO_shipAllPicked_7 : decode (m_cc M_O_shipAllPicked) 7 = .ok (.invokevirtual 62, 3) := by decide +kernel
theorem fO_shipAllPicked_10 : decode (m_cc M_O_shipAllPicked) 10 = .ok (.if_icmp .ge 29, 3) := by decide +kernel
theorem fO_shipAllPicked_13 : decode (m_cc M_O_shipAllPicked) 13 = .ok (.aload_n 0, 1) := by decide +kernel
theorem fO_shipAllPicked_14 : decode (m_cc M_O_shipAllPicked) 14 = .ok (.getfield 30, 3) := by decide +kernel
theorem fO_shipAllPicked_17 : decode (m_cc M_O_shipAllPicked) 17 = .ok (.iload_n 1, 1) := by decide +kernel
theorem fO_shipAllPicked_18 : decode (m_cc M_O_shipAllPicked) 18 = .ok (.invokevirtual 66, 3) := by decide +kernel
theorem fO_shipAllPicked_21 : decode (m_cc M_O_shipAllPicked) 21 = .ok (.checkcast 70, 3) := by decide +kernel
theorem fO_shipAllPicked_24 : decode (m_cc M_O_shipAllPicked) 24 = .ok (.astore_n 2, 1) := by decide +kernel
theorem fO_shipAllPicked_25 : decode (m_cc M_O_shipAllPicked) 25 = .ok (.aload_n 2, 1) := by decide +kernel
theorem fO_shipAllPicked_26 : decode (m_cc M_O_shipAllPicked) 26 = .ok (.aload_n 2, 1) := by decide +kernel
theorem fO_shipAllPicked_27 : decode (m_cc M_O_shipAllPicked) 27 = .ok (.getfield 79, 3) := by decide +kernel
theorem fO_shipAllPicked_30 : decode (m_cc M_O_shipAllPicked) 30 = .ok (.putfield 88, 3) := by decide +kernel
theorem fO_shipAllPicked_33 : decode (m_cc M_O_shipAllPicked) 33 = .ok (.iinc 1 1, 3) := by decide +kernel
theorem fO_shipAllPicked_36 : decode (m_cc M_O_shipAllPicked) 36 = .ok (.goto (-34), 3) := by decide +kernel
theorem fO_shipAllPicked_39 : decode (m_cc M_O_shipAllPicked) 39 = .ok (.return_, 1) := by decide +kernel
theorem fO_takeLinesOf_0 : decode (m_cc M_O_takeLinesOf) 0 = .ok (.iconst 0, 1) := by decide +kernel
theorem fO_takeLinesOf_1 : decode (m_cc M_O_takeLinesOf) 1 = .ok (.istore_n 2, 1) := by decide +kernel
theorem fO_takeLinesOf_2 : decode (m_cc M_O_takeLinesOf) 2 = .ok (.iload_n 2, 1) := by decide +kernel
theorem fO_takeLinesOf_3 : decode (m_cc M_O_takeLinesOf) 3 = .ok (.aload_n 1, 1) := by decide +kernel
theorem fO_takeLinesOf_4 : decode (m_cc M_O_takeLinesOf) 4 = .ok (.getfield 30, 3) := by decide +kernel
theorem fO_takeLinesOf_7 : decode (m_cc M_O_takeLinesOf) 7 = .ok (.invokevirtual 62, 3) := by decide +kernel
theorem fO_takeLinesOf_10 : decode (m_cc M_O_takeLinesOf) 10 = .ok (.if_icmp .ge 35, 3) := by decide +kernel
theorem fO_takeLinesOf_13 : decode (m_cc M_O_takeLinesOf) 13 = .ok (.aload_n 1, 1) := by decide +kernel
theorem fO_takeLinesOf_14 : decode (m_cc M_O_takeLinesOf) 14 = .ok (.getfield 30, 3) := by decide +kernel
theorem fO_takeLinesOf_17 : decode (m_cc M_O_takeLinesOf) 17 = .ok (.iload_n 2, 1) := by decide +kernel
theorem fO_takeLinesOf_18 : decode (m_cc M_O_takeLinesOf) 18 = .ok (.invokevirtual 66, 3) := by decide +kernel
theorem fO_takeLinesOf_21 : decode (m_cc M_O_takeLinesOf) 21 = .ok (.checkcast 70, 3) := by decide +kernel
theorem fO_takeLinesOf_24 : decode (m_cc M_O_takeLinesOf) 24 = .ok (.astore_n 3, 1) := by decide +kernel
theorem fO_takeLinesOf_25 : decode (m_cc M_O_takeLinesOf) 25 = .ok (.aload_n 3, 1) := by decide +kernel
theorem fO_takeLinesOf_26 : decode (m_cc M_O_takeLinesOf) 26 = .ok (.aload_n 0, 1) := by decide +kernel
theorem fO_takeLinesOf_27 : decode (m_cc M_O_takeLinesOf) 27 = .ok (.putfield 91, 3) := by decide +kernel
theorem fO_takeLinesOf_30 : decode (m_cc M_O_takeLinesOf) 30 = .ok (.aload_n 0, 1) := by decide +kernel
theorem fO_takeLinesOf_31 : decode (m_cc M_O_takeLinesOf) 31 = .ok (.getfield 30, 3) := by decide +kernel
theorem fO_takeLinesOf_34 : decode (m_cc M_O_takeLinesOf) 34 = .ok (.aload_n 3, 1) := by decide +kernel
theorem fO_takeLinesOf_35 : decode (m_cc M_O_takeLinesOf) 35 = .ok (.invokevirtual 95, 3) := by decide +kernel
theorem fO_takeLinesOf_38 : decode (m_cc M_O_takeLinesOf) 38 = .ok (.pop, 1) := by decide +kernel
theorem fO_takeLinesOf_39 : decode (m_cc M_O_takeLinesOf) 39 = .ok (.iinc 2 1, 3) := by decide +kernel
theorem fO_takeLinesOf_42 : decode (m_cc M_O_takeLinesOf) 42 = .ok (.goto (-40), 3) := by decide +kernel
theorem fO_takeLinesOf_45 : decode (m_cc M_O_takeLinesOf) 45 = .ok (.aload_n 1, 1) := by decide +kernel
theorem fO_takeLinesOf_46 : decode (m_cc M_O_takeLinesOf) 46 = .ok (.getfield 30, 3) := by decide +kernel
theorem fO_takeLinesOf_49 : decode (m_cc M_O_takeLinesOf) 49 = .ok (.invokevirtual 99, 3) := by decide +kernel
theorem fO_takeLinesOf_52 : decode (m_cc M_O_takeLinesOf) 52 = .ok (.return_, 1) := by decide +kernel
theorem fO_missing_0 : decode (m_cc M_O_missing) 0 = .ok (.aload_n 0, 1) := by decide +kernel
theorem fO_missing_1 : decode (m_cc M_O_missing) 1 = .ok (.getfield 34, 3) := by decide +kernel
theorem fO_missing_4 : decode (m_cc M_O_missing) 4 = .ok (.iconst 4, 1) := by decide +kernel
theorem fO_missing_5 : decode (m_cc M_O_missing) 5 = .ok (.if_icmp .ge 5, 3) := by decide +kernel
theorem fO_missing_8 : decode (m_cc M_O_missing) 8 = .ok (.iconst 0, 1) := by decide +kernel
theorem fO_missing_9 : decode (m_cc M_O_missing) 9 = .ok (.ireturn, 1) := by decide +kernel
theorem fO_missing_10 : decode (m_cc M_O_missing) 10 = .ok (.iconst 0, 1) := by decide +kernel
theorem fO_missing_11 : decode (m_cc M_O_missing) 11 = .ok (.istore_n 1, 1) := by decide +kernel
theorem fO_missing_12 : decode (m_cc M_O_missing) 12 = .ok (.iconst 0, 1) := by decide +kernel
theorem fO_missing_13 : decode (m_cc M_O_missing) 13 = .ok (.istore_n 2, 1) := by decide +kernel
theorem fO_missing_14 : decode (m_cc M_O_missing) 14 = .ok (.iload_n 2, 1) := by decide +kernel
theorem fO_missing_15 : decode (m_cc M_O_missing) 15 = .ok (.aload_n 0, 1) := by decide +kernel
theorem fO_missing_16 : decode (m_cc M_O_missing) 16 = .ok (.getfield 30, 3) := by decide +kernel
theorem fO_missing_19 : decode (m_cc M_O_missing) 19 = .ok (.invokevirtual 62, 3) := by decide +kernel
theorem fO_missing_22 : decode (m_cc M_O_missing) 22 = .ok (.if_icmp .ge 35, 3) := by decide +kernel
theorem fO_missing_25 : decode (m_cc M_O_missing) 25 = .ok (.aload_n 0, 1) := by decide +kernel
theorem fO_missing_26 : decode (m_cc M_O_missing) 26 = .ok (.getfield 30, 3) := by decide +kernel
theorem fO_missing_29 : decode (m_cc M_O_missing) 29 = .ok (.iload_n 2, 1) := by decide +kernel
theorem fO_missing_30 : decode (m_cc M_O_missing) 30 = .ok (.invokevirtual 66, 3) := by decide +kernel
theorem fO_missing_33 : decode (m_cc M_O_missing) 33 = .ok (.checkcast 70, 3) := by decide +kernel
theorem fO_missing_36 : decode (m_cc M_O_missing) 36 = .ok (.astore_n 3, 1) := by decide +kernel
theorem fO_missing_37 : decode (m_cc M_O_missing) 37 = .ok (.aload_n 3, 1) := by decide +kernel
theorem fO_missing_38 : decode (m_cc M_O_missing) 38 = .ok (.getfield 72, 3) := by decide +kernel
theorem fO_missing_41 : decode (m_cc M_O_missing) 41 = .ok (.ifCond .eq 10, 3) := by decide +kernel
theorem fO_missing_44 : decode (m_cc M_O_missing) 44 = .ok (.iload_n 1, 1) := by decide +kernel
theorem fO_missing_45 : decode (m_cc M_O_missing) 45 = .ok (.aload_n 3, 1) := by decide +kernel
theorem fO_missing_46 : decode (m_cc M_O_missing) 46 = .ok (.invokevirtual 102, 3) := by decide +kernel
theorem fO_missing_49 : decode (m_cc M_O_missing) 49 = .ok (.iadd, 1) := by decide +kernel
theorem fO_missing_50 : decode (m_cc M_O_missing) 50 = .ok (.istore_n 1, 1) := by decide +kernel
theorem fO_missing_51 : decode (m_cc M_O_missing) 51 = .ok (.iinc 2 1, 3) := by decide +kernel
theorem fO_missing_54 : decode (m_cc M_O_missing) 54 = .ok (.goto (-40), 3) := by decide +kernel
theorem fO_missing_57 : decode (m_cc M_O_missing) 57 = .ok (.iload_n 1, 1) := by decide +kernel
theorem fO_missing_58 : decode (m_cc M_O_missing) 58 = .ok (.ireturn, 1) := by decide +kernel
theorem fJi_bitCount_0 : decode (m_cc M_Ji_bitCount) 0 = .ok (.iload_n 0, 1) := by decide +kernel
theorem fJi_bitCount_1 : decode (m_cc M_Ji_bitCount) 1 = .ok (.iload_n 0, 1) := by decide +kernel
theorem fJi_bitCount_2 : decode (m_cc M_Ji_bitCount) 2 = .ok (.iconst 1, 1) := by decide +kernel
theorem fJi_bitCount_3 : decode (m_cc M_Ji_bitCount) 3 = .ok (.iushr, 1) := by decide +kernel
theorem fJi_bitCount_4 : decode (m_cc M_Ji_bitCount) 4 = .ok (.ldc_w 265, 3) := by decide +kernel
theorem fJi_bitCount_7 : decode (m_cc M_Ji_bitCount) 7 = .ok (.iand, 1) := by decide +kernel
theorem fJi_bitCount_8 : decode (m_cc M_Ji_bitCount) 8 = .ok (.isub, 1) := by decide +kernel
theorem fJi_bitCount_9 : decode (m_cc M_Ji_bitCount) 9 = .ok (.istore_n 0, 1) := by decide +kernel
theorem fJi_bitCount_10 : decode (m_cc M_Ji_bitCount) 10 = .ok (.iload_n 0, 1) := by decide +kernel
theorem fJi_bitCount_11 : decode (m_cc M_Ji_bitCount) 11 = .ok (.ldc_w 266, 3) := by decide +kernel
theorem fJi_bitCount_14 : decode (m_cc M_Ji_bitCount) 14 = .ok (.iand, 1) := by decide +kernel
theorem fJi_bitCount_15 : decode (m_cc M_Ji_bitCount) 15 = .ok (.iload_n 0, 1) := by decide +kernel
theorem fJi_bitCount_16 : decode (m_cc M_Ji_bitCount) 16 = .ok (.iconst 2, 1) := by decide +kernel
theorem fJi_bitCount_17 : decode (m_cc M_Ji_bitCount) 17 = .ok (.iushr, 1) := by decide +kernel
theorem fJi_bitCount_18 : decode (m_cc M_Ji_bitCount) 18 = .ok (.ldc_w 266, 3) := by decide +kernel
theorem fJi_bitCount_21 : decode (m_cc M_Ji_bitCount) 21 = .ok (.iand, 1) := by decide +kernel
theorem fJi_bitCount_22 : decode (m_cc M_Ji_bitCount) 22 = .ok (.iadd, 1) := by decide +kernel
theorem fJi_bitCount_23 : decode (m_cc M_Ji_bitCount) 23 = .ok (.istore_n 0, 1) := by decide +kernel
theorem fJi_bitCount_24 : decode (m_cc M_Ji_bitCount) 24 = .ok (.iload_n 0, 1) := by decide +kernel
theorem fJi_bitCount_25 : decode (m_cc M_Ji_bitCount) 25 = .ok (.iload_n 0, 1) := by decide +kernel
theorem fJi_bitCount_26 : decode (m_cc M_Ji_bitCount) 26 = .ok (.iconst 4, 1) := by decide +kernel
theorem fJi_bitCount_27 : decode (m_cc M_Ji_bitCount) 27 = .ok (.iushr, 1) := by decide +kernel
theorem fJi_bitCount_28 : decode (m_cc M_Ji_bitCount) 28 = .ok (.iadd, 1) := by decide +kernel
theorem fJi_bitCount_29 : decode (m_cc M_Ji_bitCount) 29 = .ok (.ldc_w 267, 3) := by decide +kernel
theorem fJi_bitCount_32 : decode (m_cc M_Ji_bitCount) 32 = .ok (.iand, 1) := by decide +kernel
theorem fJi_bitCount_33 : decode (m_cc M_Ji_bitCount) 33 = .ok (.istore_n 0, 1) := by decide +kernel
theorem fJi_bitCount_34 : decode (m_cc M_Ji_bitCount) 34 = .ok (.iload_n 0, 1) := by decide +kernel
theorem fJi_bitCount_35 : decode (m_cc M_Ji_bitCount) 35 = .ok (.iload_n 0, 1) := by decide +kernel
theorem fJi_bitCount_36 : decode (m_cc M_Ji_bitCount) 36 = .ok (.bipush 8, 2) := by decide +kernel
theorem fJi_bitCount_38 : decode (m_cc M_Ji_bitCount) 38 = .ok (.iushr, 1) := by decide +kernel
theorem fJi_bitCount_39 : decode (m_cc M_Ji_bitCount) 39 = .ok (.iadd, 1) := by decide +kernel
theorem fJi_bitCount_40 : decode (m_cc M_Ji_bitCount) 40 = .ok (.istore_n 0, 1) := by decide +kernel
theorem fJi_bitCount_41 : decode (m_cc M_Ji_bitCount) 41 = .ok (.iload_n 0, 1) := by decide +kernel
theorem fJi_bitCount_42 : decode (m_cc M_Ji_bitCount) 42 = .ok (.iload_n 0, 1) := by decide +kernel
theorem fJi_bitCount_43 : decode (m_cc M_Ji_bitCount) 43 = .ok (.bipush 16, 2) := by decide +kernel
theorem fJi_bitCount_45 : decode (m_cc M_Ji_bitCount) 45 = .ok (.iushr, 1) := by decide +kernel
theorem fJi_bitCount_46 : decode (m_cc M_Ji_bitCount) 46 = .ok (.iadd, 1) := by decide +kernel
theorem fJi_bitCount_47 : decode (m_cc M_Ji_bitCount) 47 = .ok (.istore_n 0, 1) := by decide +kernel
theorem fJi_bitCount_48 : decode (m_cc M_Ji_bitCount) 48 = .ok (.iload_n 0, 1) := by decide +kernel
theorem fJi_bitCount_49 : decode (m_cc M_Ji_bitCount) 49 = .ok (.bipush 63, 2) := by decide +kernel
theorem fJi_bitCount_51 : decode (m_cc M_Ji_bitCount) 51 = .ok (.iand, 1) := by decide +kernel
theorem fJi_bitCount_52 : decode (m_cc M_Ji_bitCount) 52 = .ok (.ireturn, 1) := by decide +kernel
theorem fAc_init_0 : decode (m_cc M_Ac_init) 0 = .ok (.aload_n 0, 1) := by decide +kernel
theorem fAc_init_1 : decode (m_cc M_Ac_init) 1 = .ok (.invokespecial 1, 3) := by decide +kernel
theorem fAc_init_4 : decode (m_cc M_Ac_init) 4 = .ok (.return_, 1) := by decide +kernel
theorem fAl_init_0 : decode (m_cc M_Al_init) 0 = .ok (.aload_n 0, 1) := by decide +kernel
theorem fAl_init_1 : decode (m_cc M_Al_init) 1 = .ok (.invokespecial 1, 3) := by decide +kernel
theorem fAl_init_4 : decode (m_cc M_Al_init) 4 = .ok (.aload_n 0, 1) := by decide +kernel
theorem fAl_init_5 : decode (m_cc M_Al_init) 5 = .ok (.iconst 0, 1) := by decide +kernel
theorem fAl_init_6 : decode (m_cc M_Al_init) 6 = .ok (.putfield 7, 3) := by decide +kernel
theorem fAl_init_9 : decode (m_cc M_Al_init) 9 = .ok (.return_, 1) := by decide +kernel
theorem fA_init_0 : decode (m_cc M_A_init) 0 = .ok (.aload_n 0, 1) := by decide +kernel
theorem fA_init_1 : decode (m_cc M_A_init) 1 = .ok (.invokespecial 1, 3) := by decide +kernel
theorem fA_init_4 : decode (m_cc M_A_init) 4 = .ok (.aload_n 0, 1) := by decide +kernel
theorem fA_init_5 : decode (m_cc M_A_init) 5 = .ok (.getstatic 39, 3) := by decide +kernel
theorem fA_init_8 : decode (m_cc M_A_init) 8 = .ok (.putfield 9, 3) := by decide +kernel
theorem fA_init_11 : decode (m_cc M_A_init) 11 = .ok (.return_, 1) := by decide +kernel
theorem fA_add0_0 : decode (m_cc M_A_add0) 0 = .ok (.aload_n 0, 1) := by decide +kernel
theorem fA_add0_1 : decode (m_cc M_A_add0) 1 = .ok (.dup, 1) := by decide +kernel
theorem fA_add0_2 : decode (m_cc M_A_add0) 2 = .ok (.getfield 63, 3) := by decide +kernel
theorem fA_add0_5 : decode (m_cc M_A_add0) 5 = .ok (.iconst 1, 1) := by decide +kernel
theorem fA_add0_6 : decode (m_cc M_A_add0) 6 = .ok (.iadd, 1) := by decide +kernel
theorem fA_add0_7 : decode (m_cc M_A_add0) 7 = .ok (.putfield 63, 3) := by decide +kernel
theorem fA_add0_10 : decode (m_cc M_A_add0) 10 = .ok (.aload_n 0, 1) := by decide +kernel
theorem fA_add0_11 : decode (m_cc M_A_add0) 11 = .ok (.aload_n 1, 1) := by decide +kernel
theorem fA_add0_12 : decode (m_cc M_A_add0) 12 = .ok (.aload_n 0, 1) := by decide +kernel
theorem fA_add0_13 : decode (m_cc M_A_add0) 13 = .ok (.getfield 9, 3) := by decide +kernel
theorem fA_add0_16 : decode (m_cc M_A_add0) 16 = .ok (.aload_n 0, 1) := by decide +kernel
theorem fA_add0_17 : decode (m_cc M_A_add0) 17 = .ok (.getfield 48, 3) := by decide +kernel
theorem fA_add0_20 : decode (m_cc M_A_add0) 20 = .ok (.invokevirtual 131, 3) := by decide +kernel
theorem fA_add0_23 : decode (m_cc M_A_add0) 23 = .ok (.iconst 1, 1) := by decide +kernel
theorem fA_add0_24 : decode (m_cc M_A_add0) 24 = .ok (.ireturn, 1) := by decide +kernel
theorem fA_add1_0 : decode (m_cc M_A_add1) 0 = .ok (.iload_n 3, 1) := by decide +kernel
theorem fA_add1_1 : decode (m_cc M_A_add1) 1 = .ok (.aload_n 2, 1) := by decide +kernel
theorem fA_add1_2 : decode (m_cc M_A_add1) 2 = .ok (.arraylength, 1) := by decide +kernel
theorem fA_add1_3 : decode (m_cc M_A_add1) 3 = .ok (.if_icmp .ne 8, 3) := by decide +kernel
theorem fA_add1_6 : decode (m_cc M_A_add1) 6 = .ok (.aload_n 0, 1) := by decide +kernel
theorem fA_add1_7 : decode (m_cc M_A_add1) 7 = .ok (.invokevirtual 129, 3) := by decide +kernel
theorem fA_add1_10 : decode (m_cc M_A_add1) 10 = .ok (.astore_n 2, 1) := by decide +kernel
theorem fA_add1_11 : decode (m_cc M_A_add1) 11 = .ok (.aload_n 2, 1) := by decide +kernel
theorem fA_add1_12 : decode (m_cc M_A_add1) 12 = .ok (.iload_n 3, 1) := by decide +kernel
theorem fA_add1_13 : decode (m_cc M_A_add1) 13 = .ok (.aload_n 1, 1) := by decide +kernel
theorem fA_add1_14 : decode (m_cc M_A_add1) 14 = .ok (.aastore, 1) := by decide +kernel
theorem fA_add1_15 : decode (m_cc M_A_add1) 15 = .ok (.aload_n 0, 1) := by decide +kernel
theorem fA_add1_16 : decode (m_cc M_A_add1) 16 = .ok (.iload_n 3, 1) := by decide +kernel
theorem fA_add1_17 : decode (m_cc M_A_add1) 17 = .ok (.iconst 1, 1) := by decide +kernel
theorem fA_add1_18 : decode (m_cc M_A_add1) 18 = .ok (.iadd, 1) := by decide +kernel
theorem fA_add1_19 : decode (m_cc M_A_add1) 19 = .ok (.putfield 48, 3) := by decide +kernel
theorem fA_add1_22 : decode (m_cc M_A_add1) 22 = .ok (.return_, 1) := by decide +kernel
theorem fA_clear_0 : decode (m_cc M_A_clear) 0 = .ok (.aload_n 0, 1) := by decide +kernel
theorem fA_clear_1 : decode (m_cc M_A_clear) 1 = .ok (.dup, 1) := by decide +kernel
theorem fA_clear_2 : decode (m_cc M_A_clear) 2 = .ok (.getfield 63, 3) := by decide +kernel
theorem fA_clear_5 : decode (m_cc M_A_clear) 5 = .ok (.iconst 1, 1) := by decide +kernel
theorem fA_clear_6 : decode (m_cc M_A_clear) 6 = .ok (.iadd, 1) := by decide +kernel
theorem fA_clear_7 : decode (m_cc M_A_clear) 7 = .ok (.putfield 63, 3) := by decide +kernel
theorem fA_clear_10 : decode (m_cc M_A_clear) 10 = .ok (.aload_n 0, 1) := by decide +kernel
theorem fA_clear_11 : decode (m_cc M_A_clear) 11 = .ok (.getfield 9, 3) := by decide +kernel
theorem fA_clear_14 : decode (m_cc M_A_clear) 14 = .ok (.astore_n 1, 1) := by decide +kernel
theorem fA_clear_15 : decode (m_cc M_A_clear) 15 = .ok (.aload_n 0, 1) := by decide +kernel
theorem fA_clear_16 : decode (m_cc M_A_clear) 16 = .ok (.getfield 48, 3) := by decide +kernel
theorem fA_clear_19 : decode (m_cc M_A_clear) 19 = .ok (.istore_n 2, 1) := by decide +kernel
theorem fA_clear_20 : decode (m_cc M_A_clear) 20 = .ok (.aload_n 0, 1) := by decide +kernel
theorem fA_clear_21 : decode (m_cc M_A_clear) 21 = .ok (.iconst 0, 1) := by decide +kernel
theorem fA_clear_22 : decode (m_cc M_A_clear) 22 = .ok (.dup_x1, 1) := by decide +kernel
theorem fA_clear_23 : decode (m_cc M_A_clear) 23 = .ok (.putfield 48, 3) := by decide +kernel
theorem fA_clear_26 : decode (m_cc M_A_clear) 26 = .ok (.istore_n 3, 1) := by decide +kernel
theorem fA_clear_27 : decode (m_cc M_A_clear) 27 = .ok (.iload_n 3, 1) := by decide +kernel
theorem fA_clear_28 : decode (m_cc M_A_clear) 28 = .ok (.iload_n 2, 1) := by decide +kernel
theorem fA_clear_29 : decode (m_cc M_A_clear) 29 = .ok (.if_icmp .ge 13, 3) := by decide +kernel
theorem fA_clear_32 : decode (m_cc M_A_clear) 32 = .ok (.aload_n 1, 1) := by decide +kernel
theorem fA_clear_33 : decode (m_cc M_A_clear) 33 = .ok (.iload_n 3, 1) := by decide +kernel
theorem fA_clear_34 : decode (m_cc M_A_clear) 34 = .ok (.aconst_null, 1) := by decide +kernel
theorem fA_clear_35 : decode (m_cc M_A_clear) 35 = .ok (.aastore, 1) := by decide +kernel
theorem fA_clear_36 : decode (m_cc M_A_clear) 36 = .ok (.iinc 3 1, 3) := by decide +kernel
theorem fA_clear_39 : decode (m_cc M_A_clear) 39 = .ok (.goto (-12), 3) := by decide +kernel
theorem fA_clear_42 : decode (m_cc M_A_clear) 42 = .ok (.return_, 1) := by decide +kernel
theorem fA_elementData_0 : decode (m_cc M_A_elementData) 0 = .ok (.aload_n 0, 1) := by decide +kernel
theorem fA_elementData_1 : decode (m_cc M_A_elementData) 1 = .ok (.getfield 9, 3) := by decide +kernel
theorem fA_elementData_4 : decode (m_cc M_A_elementData) 4 = .ok (.iload_n 1, 1) := by decide +kernel
theorem fA_elementData_5 : decode (m_cc M_A_elementData) 5 = .ok (.aaload, 1) := by decide +kernel
theorem fA_elementData_6 : decode (m_cc M_A_elementData) 6 = .ok (.areturn, 1) := by decide +kernel
theorem fA_get_0 : decode (m_cc M_A_get) 0 = .ok (.iload_n 1, 1) := by decide +kernel
theorem fA_get_1 : decode (m_cc M_A_get) 1 = .ok (.aload_n 0, 1) := by decide +kernel
theorem fA_get_2 : decode (m_cc M_A_get) 2 = .ok (.getfield 48, 3) := by decide +kernel
theorem fA_get_5 : decode (m_cc M_A_get) 5 = .ok (.invokestatic 118, 3) := by decide +kernel
theorem fA_get_8 : decode (m_cc M_A_get) 8 = .ok (.pop, 1) := by decide +kernel
theorem fA_get_9 : decode (m_cc M_A_get) 9 = .ok (.aload_n 0, 1) := by decide +kernel
theorem fA_get_10 : decode (m_cc M_A_get) 10 = .ok (.iload_n 1, 1) := by decide +kernel
theorem fA_get_11 : decode (m_cc M_A_get) 11 = .ok (.invokevirtual 123, 3) := by decide +kernel
theorem fA_get_14 : decode (m_cc M_A_get) 14 = .ok (.areturn, 1) := by decide +kernel
theorem fA_grow0_0 : decode (m_cc M_A_grow0) 0 = .ok (.aload_n 0, 1) := by decide +kernel
theorem fA_grow0_1 : decode (m_cc M_A_grow0) 1 = .ok (.aload_n 0, 1) := by decide +kernel
theorem fA_grow0_2 : decode (m_cc M_A_grow0) 2 = .ok (.getfield 48, 3) := by decide +kernel
theorem fA_grow0_5 : decode (m_cc M_A_grow0) 5 = .ok (.iconst 1, 1) := by decide +kernel
theorem fA_grow0_6 : decode (m_cc M_A_grow0) 6 = .ok (.iadd, 1) := by decide +kernel
theorem fA_grow0_7 : decode (m_cc M_A_grow0) 7 = .ok (.invokevirtual 69, 3) := by decide +kernel
theorem fA_grow0_10 : decode (m_cc M_A_grow0) 10 = .ok (.areturn, 1) := by decide +kernel
theorem fA_grow1_0 : decode (m_cc M_A_grow1) 0 = .ok (.aload_n 0, 1) := by decide +kernel
theorem fA_grow1_1 : decode (m_cc M_A_grow1) 1 = .ok (.getfield 9, 3) := by decide +kernel
theorem fA_grow1_4 : decode (m_cc M_A_grow1) 4 = .ok (.arraylength, 1) := by decide +kernel
theorem fA_grow1_5 : decode (m_cc M_A_grow1) 5 = .ok (.istore_n 2, 1) := by decide +kernel
theorem fA_grow1_6 : decode (m_cc M_A_grow1) 6 = .ok (.iload_n 2, 1) := by decide +kernel
theorem fA_grow1_7 : decode (m_cc M_A_grow1) 7 = .ok (.ifCond .gt 13, 3) := by decide +kernel
theorem fA_grow1_10 : decode (m_cc M_A_grow1) 10 = .ok (.aload_n 0, 1) := by decide +kernel
theorem fA_grow1_11 : decode (m_cc M_A_grow1) 11 = .ok (.getfield 9, 3) := by decide +kernel
theorem fA_grow1_14 : decode (m_cc M_A_grow1) 14 = .ok (.getstatic 39, 3) := by decide +kernel
theorem fA_grow1_17 : decode (m_cc M_A_grow1) 17 = .ok (.if_acmp .eq 28, 3) := by decide +kernel
theorem fA_grow1_20 : decode (m_cc M_A_grow1) 20 = .ok (.iload_n 2, 1) := by decide +kernel
theorem fA_grow1_21 : decode (m_cc M_A_grow1) 21 = .ok (.iload_n 1, 1) := by decide +kernel
theorem fA_grow1_22 : decode (m_cc M_A_grow1) 22 = .ok (.iload_n 2, 1) := by decide +kernel
theorem fA_grow1_23 : decode (m_cc M_A_grow1) 23 = .ok (.isub, 1) := by decide +kernel
theorem fA_grow1_24 : decode (m_cc M_A_grow1) 24 = .ok (.iload_n 2, 1) := by decide +kernel
theorem fA_grow1_25 : decode (m_cc M_A_grow1) 25 = .ok (.iconst 1, 1) := by decide +kernel
theorem fA_grow1_26 : decode (m_cc M_A_grow1) 26 = .ok (.ishr, 1) := by decide +kernel
theorem fA_grow1_27 : decode (m_cc M_A_grow1) 27 = .ok (.invokestatic 73, 3) := by decide +kernel
theorem fA_grow1_30 : decode (m_cc M_A_grow1) 30 = .ok (.istore_n 3, 1) := by decide +kernel
theorem fA_grow1_31 : decode (m_cc M_A_grow1) 31 = .ok (.aload_n 0, 1) := by decide +kernel
theorem fA_grow1_32 : decode (m_cc M_A_grow1) 32 = .ok (.aload_n 0, 1) := by decide +kernel
theorem fA_grow1_33 : decode (m_cc M_A_grow1) 33 = .ok (.getfield 9, 3) := by decide +kernel
theorem fA_grow1_36 : decode (m_cc M_A_grow1) 36 = .ok (.iload_n 3, 1) := by decide +kernel
theorem fA_grow1_37 : decode (m_cc M_A_grow1) 37 = .ok (.invokestatic 66, 3) := by decide +kernel
theorem fA_grow1_40 : decode (m_cc M_A_grow1) 40 = .ok (.dup_x1, 1) := by decide +kernel
theorem fA_grow1_41 : decode (m_cc M_A_grow1) 41 = .ok (.putfield 9, 3) := by decide +kernel
theorem fA_grow1_44 : decode (m_cc M_A_grow1) 44 = .ok (.areturn, 1) := by decide +kernel
theorem fA_grow1_45 : decode (m_cc M_A_grow1) 45 = .ok (.aload_n 0, 1) := by decide +kernel
theorem fA_grow1_46 : decode (m_cc M_A_grow1) 46 = .ok (.bipush 10, 2) := by decide +kernel
theorem fA_grow1_48 : decode (m_cc M_A_grow1) 48 = .ok (.iload_n 1, 1) := by decide +kernel
theorem fA_grow1_49 : decode (m_cc M_A_grow1) 49 = .ok (.invokestatic 79, 3) := by decide +kernel
theorem fA_grow1_52 : decode (m_cc M_A_grow1) 52 = .ok (.anewarray 7, 3) := by decide +kernel
theorem fA_grow1_55 : decode (m_cc M_A_grow1) 55 = .ok (.dup_x1, 1) := by decide +kernel
theorem fA_grow1_56 : decode (m_cc M_A_grow1) 56 = .ok (.putfield 9, 3) := by decide +kernel
theorem fA_grow1_59 : decode (m_cc M_A_grow1) 59 = .ok (.areturn, 1) := by decide +kernel
theorem fA_size_0 : decode (m_cc M_A_size) 0 = .ok (.aload_n 0, 1) := by decide +kernel
theorem fA_size_1 : decode (m_cc M_A_size) 1 = .ok (.getfield 48, 3) := by decide +kernel
theorem fA_size_4 : decode (m_cc M_A_size) 4 = .ok (.ireturn, 1) := by decide +kernel
theorem fJa_copyOf0_0 : decode (m_cc M_Ja_copyOf0) 0 = .ok (.aload_n 0, 1) := by decide +kernel
theorem fJa_copyOf0_1 : decode (m_cc M_Ja_copyOf0) 1 = .ok (.iload_n 1, 1) := by decide +kernel
theorem fJa_copyOf0_2 : decode (m_cc M_Ja_copyOf0) 2 = .ok (.aload_n 0, 1) := by decide +kernel
theorem fJa_copyOf0_3 : decode (m_cc M_Ja_copyOf0) 3 = .ok (.invokevirtual 86, 3) := by decide +kernel
theorem fJa_copyOf0_6 : decode (m_cc M_Ja_copyOf0) 6 = .ok (.invokestatic 300, 3) := by decide +kernel
theorem fJa_copyOf0_9 : decode (m_cc M_Ja_copyOf0) 9 = .ok (.areturn, 1) := by decide +kernel
theorem fJa_copyOf1_0 : decode (m_cc M_Ja_copyOf1) 0 = .ok (.aload_n 2, 1) := by decide +kernel
theorem fJa_copyOf1_1 : decode (m_cc M_Ja_copyOf1) 1 = .ok (.ldc 110, 2) := by decide +kernel
theorem fJa_copyOf1_3 : decode (m_cc M_Ja_copyOf1) 3 = .ok (.if_acmp .ne 10, 3) := by decide +kernel
theorem fJa_copyOf1_6 : decode (m_cc M_Ja_copyOf1) 6 = .ok (.iload_n 1, 1) := by decide +kernel
theorem fJa_copyOf1_7 : decode (m_cc M_Ja_copyOf1) 7 = .ok (.anewarray 2, 3) := by decide +kernel
theorem fJa_copyOf1_10 : decode (m_cc M_Ja_copyOf1) 10 = .ok (.goto 14, 3) := by decide +kernel
theorem fJa_copyOf1_13 : decode (m_cc M_Ja_copyOf1) 13 = .ok (.aload_n 2, 1) := by decide +kernel
theorem fJa_copyOf1_14 : decode (m_cc M_Ja_copyOf1) 14 = .ok (.invokevirtual 90, 3) := by decide +kernel
theorem fJa_copyOf1_17 : decode (m_cc M_Ja_copyOf1) 17 = .ok (.iload_n 1, 1) := by decide +kernel
theorem fJa_copyOf1_18 : decode (m_cc M_Ja_copyOf1) 18 = .ok (.invokestatic 95, 3) := by decide +kernel
theorem fJa_copyOf1_21 : decode (m_cc M_Ja_copyOf1) 21 = .ok (.checkcast 110, 3) := by decide +kernel
theorem fJa_copyOf1_24 : decode (m_cc M_Ja_copyOf1) 24 = .ok (.astore_n 3, 1) := by decide +kernel
theorem fJa_copyOf1_25 : decode (m_cc M_Ja_copyOf1) 25 = .ok (.aload_n 0, 1) := by decide +kernel
theorem fJa_copyOf1_26 : decode (m_cc M_Ja_copyOf1) 26 = .ok (.iconst 0, 1) := by decide +kernel
theorem fJa_copyOf1_27 : decode (m_cc M_Ja_copyOf1) 27 = .ok (.aload_n 3, 1) := by decide +kernel
theorem fJa_copyOf1_28 : decode (m_cc M_Ja_copyOf1) 28 = .ok (.iconst 0, 1) := by decide +kernel
theorem fJa_copyOf1_29 : decode (m_cc M_Ja_copyOf1) 29 = .ok (.aload_n 0, 1) := by decide +kernel
theorem fJa_copyOf1_30 : decode (m_cc M_Ja_copyOf1) 30 = .ok (.arraylength, 1) := by decide +kernel
theorem fJa_copyOf1_31 : decode (m_cc M_Ja_copyOf1) 31 = .ok (.iload_n 1, 1) := by decide +kernel
theorem fJa_copyOf1_32 : decode (m_cc M_Ja_copyOf1) 32 = .ok (.invokestatic 304, 3) := by decide +kernel
theorem fJa_copyOf1_35 : decode (m_cc M_Ja_copyOf1) 35 = .ok (.invokestatic 150, 3) := by decide +kernel
theorem fJa_copyOf1_38 : decode (m_cc M_Ja_copyOf1) 38 = .ok (.aload_n 3, 1) := by decide +kernel
theorem fJa_copyOf1_39 : decode (m_cc M_Ja_copyOf1) 39 = .ok (.areturn, 1) := by decide +kernel
theorem fJo_checkIndex_0 : decode (m_cc M_Jo_checkIndex) 0 = .ok (.iload_n 0, 1) := by decide +kernel
theorem fJo_checkIndex_1 : decode (m_cc M_Jo_checkIndex) 1 = .ok (.iload_n 1, 1) := by decide +kernel
theorem fJo_checkIndex_2 : decode (m_cc M_Jo_checkIndex) 2 = .ok (.aconst_null, 1) := by decide +kernel
theorem fJo_checkIndex_3 : decode (m_cc M_Jo_checkIndex) 3 = .ok (.invokestatic 105, 3) := by decide +kernel
theorem fJo_checkIndex_6 : decode (m_cc M_Jo_checkIndex) 6 = .ok (.ireturn, 1) := by decide +kernel
theorem fJs_newLength_0 : decode (m_cc M_Js_newLength) 0 = .ok (.iload_n 0, 1) := by decide +kernel
theorem fJs_newLength_1 : decode (m_cc M_Js_newLength) 1 = .ok (.iload_n 1, 1) := by decide +kernel
theorem fJs_newLength_2 : decode (m_cc M_Js_newLength) 2 = .ok (.iload_n 2, 1) := by decide +kernel
theorem fJs_newLength_3 : decode (m_cc M_Js_newLength) 3 = .ok (.invokestatic 194, 3) := by decide +kernel
theorem fJs_newLength_6 : decode (m_cc M_Js_newLength) 6 = .ok (.iadd, 1) := by decide +kernel
theorem fJs_newLength_7 : decode (m_cc M_Js_newLength) 7 = .ok (.istore_n 3, 1) := by decide +kernel
theorem fJs_newLength_8 : decode (m_cc M_Js_newLength) 8 = .ok (.iconst 0, 1) := by decide +kernel
theorem fJs_newLength_9 : decode (m_cc M_Js_newLength) 9 = .ok (.iload_n 3, 1) := by decide +kernel
theorem fJs_newLength_10 : decode (m_cc M_Js_newLength) 10 = .ok (.if_icmp .ge 11, 3) := by decide +kernel
theorem fJs_newLength_13 : decode (m_cc M_Js_newLength) 13 = .ok (.iload_n 3, 1) := by decide +kernel
theorem fJs_newLength_14 : decode (m_cc M_Js_newLength) 14 = .ok (.ldc 200, 2) := by decide +kernel
theorem fJs_newLength_16 : decode (m_cc M_Js_newLength) 16 = .ok (.if_icmp .gt 5, 3) := by decide +kernel
theorem fJs_newLength_19 : decode (m_cc M_Js_newLength) 19 = .ok (.iload_n 3, 1) := by decide +kernel
theorem fJs_newLength_20 : decode (m_cc M_Js_newLength) 20 = .ok (.ireturn, 1) := by decide +kernel
theorem fJs_newLength_21 : decode (m_cc M_Js_newLength) 21 = .ok (.iload_n 0, 1) := by decide +kernel
theorem fJs_newLength_22 : decode (m_cc M_Js_newLength) 22 = .ok (.iload_n 1, 1) := by decide +kernel
theorem fJs_newLength_23 : decode (m_cc M_Js_newLength) 23 = .ok (.invokestatic 201, 3) := by decide +kernel
theorem fJs_newLength_26 : decode (m_cc M_Js_newLength) 26 = .ok (.ireturn, 1) := by decide +kernel
theorem fJp_checkIndex_0 : decode (m_cc M_Jp_checkIndex) 0 = .ok (.iload_n 0, 1) := by decide +kernel
theorem fJp_checkIndex_1 : decode (m_cc M_Jp_checkIndex) 1 = .ok (.ifCond .lt 8, 3) := by decide +kernel
theorem fJp_checkIndex_4 : decode (m_cc M_Jp_checkIndex) 4 = .ok (.iload_n 0, 1) := by decide +kernel
theorem fJp_checkIndex_5 : decode (m_cc M_Jp_checkIndex) 5 = .ok (.iload_n 1, 1) := by decide +kernel
theorem fJp_checkIndex_6 : decode (m_cc M_Jp_checkIndex) 6 = .ok (.if_icmp .lt 10, 3) := by decide +kernel
theorem fJp_checkIndex_9 : decode (m_cc M_Jp_checkIndex) 9 = .ok (.aload_n 2, 1) := by decide +kernel
theorem fJp_checkIndex_10 : decode (m_cc M_Jp_checkIndex) 10 = .ok (.iload_n 0, 1) := by decide +kernel
theorem fJp_checkIndex_11 : decode (m_cc M_Jp_checkIndex) 11 = .ok (.iload_n 1, 1) := by decide +kernel
theorem fJp_checkIndex_12 : decode (m_cc M_Jp_checkIndex) 12 = .ok (.invokestatic 95, 3) := by decide +kernel
theorem fJp_checkIndex_15 : decode (m_cc M_Jp_checkIndex) 15 = .ok (.athrow, 1) := by decide +kernel
theorem fJp_checkIndex_16 : decode (m_cc M_Jp_checkIndex) 16 = .ok (.iload_n 0, 1) := by decide +kernel
theorem fJp_checkIndex_17 : decode (m_cc M_Jp_checkIndex) 17 = .ok (.ireturn, 1) := by decide +kernel
end
section
/-! DECODED: the reference -/
theorem fR_init_0 : decode (m_cc M_R_init) 0 = .ok (.aload_n 0, 1) := by decide +kernel
theorem fR_init_1 : decode (m_cc M_R_init) 1 = .ok (.invokespecial 1, 3) := by decide +kernel
theorem fR_init_4 : decode (m_cc M_R_init) 4 = .ok (.aload_n 0, 1) := by decide +kernel
theorem fR_init_5 : decode (m_cc M_R_init) 5 = .ok (.bipush 20, 2) := by decide +kernel
theorem fR_init_7 : decode (m_cc M_R_init) 7 = .ok (.newarray .int, 2) := by decide +kernel
theorem fR_init_9 : decode (m_cc M_R_init) 9 = .ok (.putfield 7, 3) := by decide +kernel
theorem fR_init_12 : decode (m_cc M_R_init) 12 = .ok (.aload_n 0, 1) := by decide +kernel
theorem fR_init_13 : decode (m_cc M_R_init) 13 = .ok (.bipush 20, 2) := by decide +kernel
theorem fR_init_15 : decode (m_cc M_R_init) 15 = .ok (.newarray .int, 2) := by decide +kernel
theorem fR_init_17 : decode (m_cc M_R_init) 17 = .ok (.putfield 13, 3) := by decide +kernel
theorem fR_init_20 : decode (m_cc M_R_init) 20 = .ok (.aload_n 0, 1) := by decide +kernel
theorem fR_init_21 : decode (m_cc M_R_init) 21 = .ok (.bipush 20, 2) := by decide +kernel
theorem fR_init_23 : decode (m_cc M_R_init) 23 = .ok (.newarray .int, 2) := by decide +kernel
theorem fR_init_25 : decode (m_cc M_R_init) 25 = .ok (.putfield 16, 3) := by decide +kernel
theorem fR_init_28 : decode (m_cc M_R_init) 28 = .ok (.aload_n 0, 1) := by decide +kernel
theorem fR_init_29 : decode (m_cc M_R_init) 29 = .ok (.bipush 20, 2) := by decide +kernel
theorem fR_init_31 : decode (m_cc M_R_init) 31 = .ok (.newarray .int, 2) := by decide +kernel
theorem fR_init_33 : decode (m_cc M_R_init) 33 = .ok (.putfield 19, 3) := by decide +kernel
theorem fR_init_36 : decode (m_cc M_R_init) 36 = .ok (.aload_n 0, 1) := by decide +kernel
theorem fR_init_37 : decode (m_cc M_R_init) 37 = .ok (.bipush 20, 2) := by decide +kernel
theorem fR_init_39 : decode (m_cc M_R_init) 39 = .ok (.newarray .int, 2) := by decide +kernel
theorem fR_init_41 : decode (m_cc M_R_init) 41 = .ok (.putfield 22, 3) := by decide +kernel
theorem fR_init_44 : decode (m_cc M_R_init) 44 = .ok (.aload_n 0, 1) := by decide +kernel
theorem fR_init_45 : decode (m_cc M_R_init) 45 = .ok (.bipush 20, 2) := by decide +kernel
theorem fR_init_47 : decode (m_cc M_R_init) 47 = .ok (.newarray .int, 2) := by decide +kernel
theorem fR_init_49 : decode (m_cc M_R_init) 49 = .ok (.putfield 25, 3) := by decide +kernel
theorem fR_init_52 : decode (m_cc M_R_init) 52 = .ok (.aload_n 0, 1) := by decide +kernel
theorem fR_init_53 : decode (m_cc M_R_init) 53 = .ok (.bipush 20, 2) := by decide +kernel
theorem fR_init_55 : decode (m_cc M_R_init) 55 = .ok (.newarray .int, 2) := by decide +kernel
theorem fR_init_57 : decode (m_cc M_R_init) 57 = .ok (.putfield 28, 3) := by decide +kernel
theorem fR_init_60 : decode (m_cc M_R_init) 60 = .ok (.aload_n 0, 1) := by decide +kernel
theorem fR_init_61 : decode (m_cc M_R_init) 61 = .ok (.bipush 20, 2) := by decide +kernel
theorem fR_init_63 : decode (m_cc M_R_init) 63 = .ok (.newarray .int, 2) := by decide +kernel
theorem fR_init_65 : decode (m_cc M_R_init) 65 = .ok (.putfield 31, 3) := by decide +kernel
theorem fR_init_68 : decode (m_cc M_R_init) 68 = .ok (.aload_n 0, 1) := by decide +kernel
theorem fR_init_69 : decode (m_cc M_R_init) 69 = .ok (.bipush 20, 2) := by decide +kernel
theorem fR_init_71 : decode (m_cc M_R_init) 71 = .ok (.newarray .int, 2) := by decide +kernel
theorem fR_init_73 : decode (m_cc M_R_init) 73 = .ok (.putfield 34, 3) := by decide +kernel
theorem fR_init_76 : decode (m_cc M_R_init) 76 = .ok (.aload_n 0, 1) := by decide +kernel
theorem fR_init_77 : decode (m_cc M_R_init) 77 = .ok (.sipush 160, 3) := by decide +kernel
theorem fR_init_80 : decode (m_cc M_R_init) 80 = .ok (.newarray .int, 2) := by decide +kernel
theorem fR_init_82 : decode (m_cc M_R_init) 82 = .ok (.putfield 37, 3) := by decide +kernel
theorem fR_init_85 : decode (m_cc M_R_init) 85 = .ok (.aload_n 0, 1) := by decide +kernel
theorem fR_init_86 : decode (m_cc M_R_init) 86 = .ok (.bipush 60, 2) := by decide +kernel
theorem fR_init_88 : decode (m_cc M_R_init) 88 = .ok (.newarray .int, 2) := by decide +kernel
theorem fR_init_90 : decode (m_cc M_R_init) 90 = .ok (.putfield 40, 3) := by decide +kernel
theorem fR_init_93 : decode (m_cc M_R_init) 93 = .ok (.aload_n 0, 1) := by decide +kernel
theorem fR_init_94 : decode (m_cc M_R_init) 94 = .ok (.bipush 60, 2) := by decide +kernel
theorem fR_init_96 : decode (m_cc M_R_init) 96 = .ok (.newarray .int, 2) := by decide +kernel
theorem fR_init_98 : decode (m_cc M_R_init) 98 = .ok (.putfield 43, 3) := by decide +kernel
theorem fR_init_101 : decode (m_cc M_R_init) 101 = .ok (.aload_n 0, 1) := by decide +kernel
theorem fR_init_102 : decode (m_cc M_R_init) 102 = .ok (.bipush 60, 2) := by decide +kernel
theorem fR_init_104 : decode (m_cc M_R_init) 104 = .ok (.newarray .int, 2) := by decide +kernel
theorem fR_init_106 : decode (m_cc M_R_init) 106 = .ok (.putfield 46, 3) := by decide +kernel
theorem fR_init_109 : decode (m_cc M_R_init) 109 = .ok (.aload_n 0, 1) := by decide +kernel
theorem fR_init_110 : decode (m_cc M_R_init) 110 = .ok (.bipush 60, 2) := by decide +kernel
theorem fR_init_112 : decode (m_cc M_R_init) 112 = .ok (.newarray .int, 2) := by decide +kernel
theorem fR_init_114 : decode (m_cc M_R_init) 114 = .ok (.putfield 49, 3) := by decide +kernel
theorem fR_init_117 : decode (m_cc M_R_init) 117 = .ok (.aload_n 0, 1) := by decide +kernel
theorem fR_init_118 : decode (m_cc M_R_init) 118 = .ok (.bipush 60, 2) := by decide +kernel
theorem fR_init_120 : decode (m_cc M_R_init) 120 = .ok (.newarray .int, 2) := by decide +kernel
theorem fR_init_122 : decode (m_cc M_R_init) 122 = .ok (.putfield 52, 3) := by decide +kernel
theorem fR_init_125 : decode (m_cc M_R_init) 125 = .ok (.aload_n 0, 1) := by decide +kernel
theorem fR_init_126 : decode (m_cc M_R_init) 126 = .ok (.bipush 60, 2) := by decide +kernel
theorem fR_init_128 : decode (m_cc M_R_init) 128 = .ok (.newarray .int, 2) := by decide +kernel
theorem fR_init_130 : decode (m_cc M_R_init) 130 = .ok (.putfield 55, 3) := by decide +kernel
theorem fR_init_133 : decode (m_cc M_R_init) 133 = .ok (.aload_n 0, 1) := by decide +kernel
theorem fR_init_134 : decode (m_cc M_R_init) 134 = .ok (.bipush 60, 2) := by decide +kernel
theorem fR_init_136 : decode (m_cc M_R_init) 136 = .ok (.newarray .int, 2) := by decide +kernel
theorem fR_init_138 : decode (m_cc M_R_init) 138 = .ok (.putfield 58, 3) := by decide +kernel
theorem fR_init_141 : decode (m_cc M_R_init) 141 = .ok (.aload_n 0, 1) := by decide +kernel
theorem fR_init_142 : decode (m_cc M_R_init) 142 = .ok (.bipush 60, 2) := by decide +kernel
theorem fR_init_144 : decode (m_cc M_R_init) 144 = .ok (.newarray .int, 2) := by decide +kernel
theorem fR_init_146 : decode (m_cc M_R_init) 146 = .ok (.putfield 61, 3) := by decide +kernel
theorem fR_init_149 : decode (m_cc M_R_init) 149 = .ok (.aload_n 0, 1) := by decide +kernel
theorem fR_init_150 : decode (m_cc M_R_init) 150 = .ok (.bipush 60, 2) := by decide +kernel
theorem fR_init_152 : decode (m_cc M_R_init) 152 = .ok (.newarray .boolean, 2) := by decide +kernel
theorem fR_init_154 : decode (m_cc M_R_init) 154 = .ok (.putfield 64, 3) := by decide +kernel
theorem fR_init_157 : decode (m_cc M_R_init) 157 = .ok (.aload_n 0, 1) := by decide +kernel
theorem fR_init_158 : decode (m_cc M_R_init) 158 = .ok (.bipush 60, 2) := by decide +kernel
theorem fR_init_160 : decode (m_cc M_R_init) 160 = .ok (.newarray .boolean, 2) := by decide +kernel
theorem fR_init_162 : decode (m_cc M_R_init) 162 = .ok (.putfield 68, 3) := by decide +kernel
theorem fR_init_165 : decode (m_cc M_R_init) 165 = .ok (.return_, 1) := by decide +kernel
theorem fR_thrown_0 : decode (m_cc M_R_thrown) 0 = .ok (.aload_n 0, 1) := by decide +kernel
theorem fR_thrown_1 : decode (m_cc M_R_thrown) 1 = .ok (.getfield 71, 3) := by decide +kernel
theorem fR_thrown_4 : decode (m_cc M_R_thrown) 4 = .ok (.ireturn, 1) := by decide +kernel
theorem fR_in_0 : decode (m_cc M_R_in) 0 = .ok (.iload_n 0, 1) := by decide +kernel
theorem fR_in_1 : decode (m_cc M_R_in) 1 = .ok (.iload_n 1, 1) := by decide +kernel
theorem fR_in_2 : decode (m_cc M_R_in) 2 = .ok (.if_icmp .lt 12, 3) := by decide +kernel
theorem fR_in_5 : decode (m_cc M_R_in) 5 = .ok (.iload_n 0, 1) := by decide +kernel
theorem fR_in_6 : decode (m_cc M_R_in) 6 = .ok (.iload_n 2, 1) := by decide +kernel
theorem fR_in_7 : decode (m_cc M_R_in) 7 = .ok (.if_icmp .gt 7, 3) := by decide +kernel
theorem fR_in_10 : decode (m_cc M_R_in) 10 = .ok (.iconst 1, 1) := by decide +kernel
theorem fR_in_11 : decode (m_cc M_R_in) 11 = .ok (.goto 4, 3) := by decide +kernel
theorem fR_in_14 : decode (m_cc M_R_in) 14 = .ok (.iconst 0, 1) := by decide +kernel
theorem fR_in_15 : decode (m_cc M_R_in) 15 = .ok (.ireturn, 1) := by decide +kernel
theorem fR_isOrder_0 : decode (m_cc M_R_isOrder) 0 = .ok (.iload_n 1, 1) := by decide +kernel
theorem fR_isOrder_1 : decode (m_cc M_R_isOrder) 1 = .ok (.iconst 0, 1) := by decide +kernel
theorem fR_isOrder_2 : decode (m_cc M_R_isOrder) 2 = .ok (.aload_n 0, 1) := by decide +kernel
theorem fR_isOrder_3 : decode (m_cc M_R_isOrder) 3 = .ok (.getfield 75, 3) := by decide +kernel
theorem fR_isOrder_6 : decode (m_cc M_R_isOrder) 6 = .ok (.iconst 1, 1) := by decide +kernel
theorem fR_isOrder_7 : decode (m_cc M_R_isOrder) 7 = .ok (.isub, 1) := by decide +kernel
theorem fR_isOrder_8 : decode (m_cc M_R_isOrder) 8 = .ok (.invokestatic 78, 3) := by decide +kernel
theorem fR_isOrder_11 : decode (m_cc M_R_isOrder) 11 = .ok (.ireturn, 1) := by decide +kernel
theorem fR_isLine_0 : decode (m_cc M_R_isLine) 0 = .ok (.iload_n 1, 1) := by decide +kernel
theorem fR_isLine_1 : decode (m_cc M_R_isLine) 1 = .ok (.iconst 0, 1) := by decide +kernel
theorem fR_isLine_2 : decode (m_cc M_R_isLine) 2 = .ok (.aload_n 0, 1) := by decide +kernel
theorem fR_isLine_3 : decode (m_cc M_R_isLine) 3 = .ok (.getfield 82, 3) := by decide +kernel
theorem fR_isLine_6 : decode (m_cc M_R_isLine) 6 = .ok (.iconst 1, 1) := by decide +kernel
theorem fR_isLine_7 : decode (m_cc M_R_isLine) 7 = .ok (.isub, 1) := by decide +kernel
theorem fR_isLine_8 : decode (m_cc M_R_isLine) 8 = .ok (.invokestatic 78, 3) := by decide +kernel
theorem fR_isLine_11 : decode (m_cc M_R_isLine) 11 = .ok (.ireturn, 1) := by decide +kernel
theorem fR_has_0 : decode (m_cc M_R_has) 0 = .ok (.aload_n 0, 1) := by decide +kernel
theorem fR_has_1 : decode (m_cc M_R_has) 1 = .ok (.getfield 49, 3) := by decide +kernel
theorem fR_has_4 : decode (m_cc M_R_has) 4 = .ok (.iload_n 1, 1) := by decide +kernel
theorem fR_has_5 : decode (m_cc M_R_has) 5 = .ok (.iaload, 1) := by decide +kernel
theorem fR_has_6 : decode (m_cc M_R_has) 6 = .ok (.iload_n 2, 1) := by decide +kernel
theorem fR_has_7 : decode (m_cc M_R_has) 7 = .ok (.iand, 1) := by decide +kernel
theorem fR_has_8 : decode (m_cc M_R_has) 8 = .ok (.ifCond .eq 7, 3) := by decide +kernel
theorem fR_has_11 : decode (m_cc M_R_has) 11 = .ok (.iconst 1, 1) := by decide +kernel
theorem fR_has_12 : decode (m_cc M_R_has) 12 = .ok (.goto 4, 3) := by decide +kernel
theorem fR_has_15 : decode (m_cc M_R_has) 15 = .ok (.iconst 0, 1) := by decide +kernel
theorem fR_has_16 : decode (m_cc M_R_has) 16 = .ok (.ireturn, 1) := by decide +kernel
theorem fR_newOrder_0 : decode (m_cc M_R_newOrder) 0 = .ok (.aload_n 0, 1) := by decide +kernel
theorem fR_newOrder_1 : decode (m_cc M_R_newOrder) 1 = .ok (.getfield 7, 3) := by decide +kernel
theorem fR_newOrder_4 : decode (m_cc M_R_newOrder) 4 = .ok (.aload_n 0, 1) := by decide +kernel
theorem fR_newOrder_5 : decode (m_cc M_R_newOrder) 5 = .ok (.getfield 75, 3) := by decide +kernel
theorem fR_newOrder_8 : decode (m_cc M_R_newOrder) 8 = .ok (.iload_n 1, 1) := by decide +kernel
theorem fR_newOrder_9 : decode (m_cc M_R_newOrder) 9 = .ok (.iastore, 1) := by decide +kernel
theorem fR_newOrder_10 : decode (m_cc M_R_newOrder) 10 = .ok (.aload_n 0, 1) := by decide +kernel
theorem fR_newOrder_11 : decode (m_cc M_R_newOrder) 11 = .ok (.getfield 13, 3) := by decide +kernel
theorem fR_newOrder_14 : decode (m_cc M_R_newOrder) 14 = .ok (.aload_n 0, 1) := by decide +kernel
theorem fR_newOrder_15 : decode (m_cc M_R_newOrder) 15 = .ok (.getfield 75, 3) := by decide +kernel
theorem fR_newOrder_18 : decode (m_cc M_R_newOrder) 18 = .ok (.iload_n 2, 1) := by decide +kernel
theorem fR_newOrder_19 : decode (m_cc M_R_newOrder) 19 = .ok (.iastore, 1) := by decide +kernel
theorem fR_newOrder_20 : decode (m_cc M_R_newOrder) 20 = .ok (.aload_n 0, 1) := by decide +kernel
theorem fR_newOrder_21 : decode (m_cc M_R_newOrder) 21 = .ok (.getfield 16, 3) := by decide +kernel
theorem fR_newOrder_24 : decode (m_cc M_R_newOrder) 24 = .ok (.aload_n 0, 1) := by decide +kernel
theorem fR_newOrder_25 : decode (m_cc M_R_newOrder) 25 = .ok (.getfield 75, 3) := by decide +kernel
theorem fR_newOrder_28 : decode (m_cc M_R_newOrder) 28 = .ok (.iload_n 3, 1) := by decide +kernel
theorem fR_newOrder_29 : decode (m_cc M_R_newOrder) 29 = .ok (.iastore, 1) := by decide +kernel
theorem fR_newOrder_30 : decode (m_cc M_R_newOrder) 30 = .ok (.aload_n 0, 1) := by decide +kernel
theorem fR_newOrder_31 : decode (m_cc M_R_newOrder) 31 = .ok (.getfield 19, 3) := by decide +kernel
theorem fR_newOrder_34 : decode (m_cc M_R_newOrder) 34 = .ok (.aload_n 0, 1) := by decide +kernel
theorem fR_newOrder_35 : decode (m_cc M_R_newOrder) 35 = .ok (.getfield 75, 3) := by decide +kernel
theorem fR_newOrder_38 : decode (m_cc M_R_newOrder) 38 = .ok (.iload 4, 2) := by decide +kernel
theorem fR_newOrder_40 : decode (m_cc M_R_newOrder) 40 = .ok (.iastore, 1) := by decide +kernel
theorem fR_newOrder_41 : decode (m_cc M_R_newOrder) 41 = .ok (.aload_n 0, 1) := by decide +kernel
theorem fR_newOrder_42 : decode (m_cc M_R_newOrder) 42 = .ok (.getfield 22, 3) := by decide +kernel
theorem fR_newOrder_45 : decode (m_cc M_R_newOrder) 45 = .ok (.aload_n 0, 1) := by decide +kernel
theorem fR_newOrder_46 : decode (m_cc M_R_newOrder) 46 = .ok (.getfield 75, 3) := by decide +kernel
theorem fR_newOrder_49 : decode (m_cc M_R_newOrder) 49 = .ok (.iconst 0, 1) := by decide +kernel
theorem fR_newOrder_50 : decode (m_cc M_R_newOrder) 50 = .ok (.iastore, 1) := by decide +kernel
theorem fR_newOrder_51 : decode (m_cc M_R_newOrder) 51 = .ok (.aload_n 0, 1) := by decide +kernel
theorem fR_newOrder_52 : decode (m_cc M_R_newOrder) 52 = .ok (.getfield 28, 3) := by decide +kernel
theorem fR_newOrder_55 : decode (m_cc M_R_newOrder) 55 = .ok (.aload_n 0, 1) := by decide +kernel
theorem fR_newOrder_56 : decode (m_cc M_R_newOrder) 56 = .ok (.getfield 75, 3) := by decide +kernel
theorem fR_newOrder_59 : decode (m_cc M_R_newOrder) 59 = .ok (.iconst 1, 1) := by decide +kernel
theorem fR_newOrder_60 : decode (m_cc M_R_newOrder) 60 = .ok (.iastore, 1) := by decide +kernel
theorem fR_newOrder_61 : decode (m_cc M_R_newOrder) 61 = .ok (.aload_n 0, 1) := by decide +kernel
theorem fR_newOrder_62 : decode (m_cc M_R_newOrder) 62 = .ok (.getfield 31, 3) := by decide +kernel
theorem fR_newOrder_65 : decode (m_cc M_R_newOrder) 65 = .ok (.aload_n 0, 1) := by decide +kernel
theorem fR_newOrder_66 : decode (m_cc M_R_newOrder) 66 = .ok (.getfield 75, 3) := by decide +kernel
theorem fR_newOrder_69 : decode (m_cc M_R_newOrder) 69 = .ok (.iconst (-1), 1) := by decide +kernel
theorem fR_newOrder_70 : decode (m_cc M_R_newOrder) 70 = .ok (.iastore, 1) := by decide +kernel
theorem fR_newOrder_71 : decode (m_cc M_R_newOrder) 71 = .ok (.aload_n 0, 1) := by decide +kernel
theorem fR_newOrder_72 : decode (m_cc M_R_newOrder) 72 = .ok (.dup, 1) := by decide +kernel
theorem fR_newOrder_73 : decode (m_cc M_R_newOrder) 73 = .ok (.getfield 75, 3) := by decide +kernel
theorem fR_newOrder_76 : decode (m_cc M_R_newOrder) 76 = .ok (.iconst 1, 1) := by decide +kernel
theorem fR_newOrder_77 : decode (m_cc M_R_newOrder) 77 = .ok (.iadd, 1) := by decide +kernel
theorem fR_newOrder_78 : decode (m_cc M_R_newOrder) 78 = .ok (.putfield 75, 3) := by decide +kernel
theorem fR_newOrder_81 : decode (m_cc M_R_newOrder) 81 = .ok (.aload_n 0, 1) := by decide +kernel
theorem fR_newOrder_82 : decode (m_cc M_R_newOrder) 82 = .ok (.getfield 75, 3) := by decide +kernel
theorem fR_newOrder_85 : decode (m_cc M_R_newOrder) 85 = .ok (.iconst 1, 1) := by decide +kernel
theorem fR_newOrder_86 : decode (m_cc M_R_newOrder) 86 = .ok (.isub, 1) := by decide +kernel
theorem fR_newOrder_87 : decode (m_cc M_R_newOrder) 87 = .ok (.ireturn, 1) := by decide +kernel
theorem fR_order_0 : decode (m_cc M_R_order) 0 = .ok (.aload_n 0, 1) := by decide +kernel
theorem fR_order_1 : decode (m_cc M_R_order) 1 = .ok (.iload_n 1, 1) := by decide +kernel
theorem fR_order_2 : decode (m_cc M_R_order) 2 = .ok (.iconst 0, 1) := by decide +kernel
theorem fR_order_3 : decode (m_cc M_R_order) 3 = .ok (.bipush 7, 2) := by decide +kernel
theorem fR_order_5 : decode (m_cc M_R_order) 5 = .ok (.invokestatic 78, 3) := by decide +kernel
theorem fR_order_8 : decode (m_cc M_R_order) 8 = .ok (.ifCond .eq 39, 3) := by decide +kernel
theorem fR_order_11 : decode (m_cc M_R_order) 11 = .ok (.iload_n 2, 1) := by decide +kernel
theorem fR_order_12 : decode (m_cc M_R_order) 12 = .ok (.iconst 1, 1) := by decide +kernel
theorem fR_order_13 : decode (m_cc M_R_order) 13 = .ok (.ldc 85, 2) := by decide +kernel
theorem fR_order_15 : decode (m_cc M_R_order) 15 = .ok (.invokestatic 78, 3) := by decide +kernel
theorem fR_order_18 : decode (m_cc M_R_order) 18 = .ok (.ifCond .eq 29, 3) := by decide +kernel
theorem fR_order_21 : decode (m_cc M_R_order) 21 = .ok (.iload_n 3, 1) := by decide +kernel
theorem fR_order_22 : decode (m_cc M_R_order) 22 = .ok (.iconst 1, 1) := by decide +kernel
theorem fR_order_23 : decode (m_cc M_R_order) 23 = .ok (.bipush 9, 2) := by decide +kernel
theorem fR_order_25 : decode (m_cc M_R_order) 25 = .ok (.invokestatic 78, 3) := by decide +kernel
theorem fR_order_28 : decode (m_cc M_R_order) 28 = .ok (.ifCond .eq 19, 3) := by decide +kernel
theorem fR_order_31 : decode (m_cc M_R_order) 31 = .ok (.iload 4, 2) := by decide +kernel
theorem fR_order_33 : decode (m_cc M_R_order) 33 = .ok (.iconst 0, 1) := by decide +kernel
theorem fR_order_34 : decode (m_cc M_R_order) 34 = .ok (.sipush 10000, 3) := by decide +kernel
theorem fR_order_37 : decode (m_cc M_R_order) 37 = .ok (.invokestatic 78, 3) := by decide +kernel
theorem fR_order_40 : decode (m_cc M_R_order) 40 = .ok (.ifCond .eq 7, 3) := by decide +kernel
theorem fR_order_43 : decode (m_cc M_R_order) 43 = .ok (.iconst 0, 1) := by decide +kernel
theorem fR_order_44 : decode (m_cc M_R_order) 44 = .ok (.goto 4, 3) := by decide +kernel
theorem fR_order_47 : decode (m_cc M_R_order) 47 = .ok (.iconst 1, 1) := by decide +kernel
theorem fR_order_48 : decode (m_cc M_R_order) 48 = .ok (.putfield 71, 3) := by decide +kernel
theorem fR_order_51 : decode (m_cc M_R_order) 51 = .ok (.aload_n 0, 1) := by decide +kernel
theorem fR_order_52 : decode (m_cc M_R_order) 52 = .ok (.getfield 71, 3) := by decide +kernel
theorem fR_order_55 : decode (m_cc M_R_order) 55 = .ok (.ifCond .le 5, 3) := by decide +kernel
theorem fR_order_58 : decode (m_cc M_R_order) 58 = .ok (.iconst 0, 1) := by decide +kernel
theorem fR_order_59 : decode (m_cc M_R_order) 59 = .ok (.ireturn, 1) := by decide +kernel
theorem fR_order_60 : decode (m_cc M_R_order) 60 = .ok (.iconst 0, 1) := by decide +kernel
theorem fR_order_61 : decode (m_cc M_R_order) 61 = .ok (.istore 5, 2) := by decide +kernel
theorem fR_order_63 : decode (m_cc M_R_order) 63 = .ok (.iload 5, 2) := by decide +kernel
theorem fR_order_65 : decode (m_cc M_R_order) 65 = .ok (.aload_n 0, 1) := by decide +kernel
theorem fR_order_66 : decode (m_cc M_R_order) 66 = .ok (.getfield 75, 3) := by decide +kernel
theorem fR_order_69 : decode (m_cc M_R_order) 69 = .ok (.if_icmp .ge 36, 3) := by decide +kernel
theorem fR_order_72 : decode (m_cc M_R_order) 72 = .ok (.aload_n 0, 1) := by decide +kernel
theorem fR_order_73 : decode (m_cc M_R_order) 73 = .ok (.getfield 7, 3) := by decide +kernel
theorem fR_order_76 : decode (m_cc M_R_order) 76 = .ok (.iload 5, 2) := by decide +kernel
theorem fR_order_78 : decode (m_cc M_R_order) 78 = .ok (.iaload, 1) := by decide +kernel
theorem fR_order_79 : decode (m_cc M_R_order) 79 = .ok (.iload_n 1, 1) := by decide +kernel
theorem fR_order_80 : decode (m_cc M_R_order) 80 = .ok (.if_icmp .ne 19, 3) := by decide +kernel
theorem fR_order_83 : decode (m_cc M_R_order) 83 = .ok (.aload_n 0, 1) := by decide +kernel
theorem fR_order_84 : decode (m_cc M_R_order) 84 = .ok (.getfield 13, 3) := by decide +kernel
theorem fR_order_87 : decode (m_cc M_R_order) 87 = .ok (.iload 5, 2) := by decide +kernel
theorem fR_order_89 : decode (m_cc M_R_order) 89 = .ok (.iaload, 1) := by decide +kernel
theorem fR_order_90 : decode (m_cc M_R_order) 90 = .ok (.iload_n 2, 1) := by decide +kernel
theorem fR_order_91 : decode (m_cc M_R_order) 91 = .ok (.if_icmp .ne 8, 3) := by decide +kernel
theorem fR_order_94 : decode (m_cc M_R_order) 94 = .ok (.iconst (-1), 1) := by decide +kernel
theorem fR_order_95 : decode (m_cc M_R_order) 95 = .ok (.iload 5, 2) := by decide +kernel
theorem fR_order_97 : decode (m_cc M_R_order) 97 = .ok (.isub, 1) := by decide +kernel
theorem fR_order_98 : decode (m_cc M_R_order) 98 = .ok (.ireturn, 1) := by decide +kernel
theorem fR_order_99 : decode (m_cc M_R_order) 99 = .ok (.iinc 5 1, 3) := by decide +kernel
theorem fR_order_102 : decode (m_cc M_R_order) 102 = .ok (.goto (-39), 3) := by decide +kernel
theorem fR_order_105 : decode (m_cc M_R_order) 105 = .ok (.aload_n 0, 1) := by decide +kernel
theorem fR_order_106 : decode (m_cc M_R_order) 106 = .ok (.aload_n 0, 1) := by decide +kernel
theorem fR_order_107 : decode (m_cc M_R_order) 107 = .ok (.getfield 75, 3) := by decide +kernel
theorem fR_order_110 : decode (m_cc M_R_order) 110 = .ok (.bipush 20, 2) := by decide +kernel
theorem fR_order_112 : decode (m_cc M_R_order) 112 = .ok (.if_icmp .ne 7, 3) := by decide +kernel
theorem fR_order_115 : decode (m_cc M_R_order) 115 = .ok (.iconst 2, 1) := by decide +kernel
theorem fR_order_116 : decode (m_cc M_R_order) 116 = .ok (.goto 4, 3) := by decide +kernel
theorem fR_order_119 : decode (m_cc M_R_order) 119 = .ok (.iconst 0, 1) := by decide +kernel
theorem fR_order_120 : decode (m_cc M_R_order) 120 = .ok (.putfield 71, 3) := by decide +kernel
theorem fR_order_123 : decode (m_cc M_R_order) 123 = .ok (.aload_n 0, 1) := by decide +kernel
theorem fR_order_124 : decode (m_cc M_R_order) 124 = .ok (.getfield 71, 3) := by decide +kernel
theorem fR_order_127 : decode (m_cc M_R_order) 127 = .ok (.ifCond .le 7, 3) := by decide +kernel
theorem fR_order_130 : decode (m_cc M_R_order) 130 = .ok (.iconst 0, 1) := by decide +kernel
theorem fR_order_131 : decode (m_cc M_R_order) 131 = .ok (.goto 12, 3) := by decide +kernel
theorem fR_order_134 : decode (m_cc M_R_order) 134 = .ok (.aload_n 0, 1) := by decide +kernel
theorem fR_order_135 : decode (m_cc M_R_order) 135 = .ok (.iload_n 1, 1) := by decide +kernel
theorem fR_order_136 : decode (m_cc M_R_order) 136 = .ok (.iload_n 2, 1) := by decide +kernel
theorem fR_order_137 : decode (m_cc M_R_order) 137 = .ok (.iload_n 3, 1) := by decide +kernel
theorem fR_order_138 : decode (m_cc M_R_order) 138 = .ok (.iload 4, 2) := by decide +kernel
theorem fR_order_140 : decode (m_cc M_R_order) 140 = .ok (.invokevirtual 86, 3) := by decide +kernel
theorem fR_order_143 : decode (m_cc M_R_order) 143 = .ok (.ireturn, 1) := by decide +kernel
theorem fR_hang_0 : decode (m_cc M_R_hang) 0 = .ok (.aload_n 0, 1) := by decide +kernel
theorem fR_hang_1 : decode (m_cc M_R_hang) 1 = .ok (.getfield 37, 3) := by decide +kernel
theorem fR_hang_4 : decode (m_cc M_R_hang) 4 = .ok (.bipush 8, 2) := by decide +kernel
theorem fR_hang_6 : decode (m_cc M_R_hang) 6 = .ok (.iload_n 1, 1) := by decide +kernel
theorem fR_hang_7 : decode (m_cc M_R_hang) 7 = .ok (.imul, 1) := by decide +kernel
theorem fR_hang_8 : decode (m_cc M_R_hang) 8 = .ok (.aload_n 0, 1) := by decide +kernel
theorem fR_hang_9 : decode (m_cc M_R_hang) 9 = .ok (.getfield 34, 3) := by decide +kernel
theorem fR_hang_12 : decode (m_cc M_R_hang) 12 = .ok (.iload_n 1, 1) := by decide +kernel
theorem fR_hang_13 : decode (m_cc M_R_hang) 13 = .ok (.iaload, 1) := by decide +kernel
theorem fR_hang_14 : decode (m_cc M_R_hang) 14 = .ok (.iadd, 1) := by decide +kernel
theorem fR_hang_15 : decode (m_cc M_R_hang) 15 = .ok (.iload_n 2, 1) := by decide +kernel
theorem fR_hang_16 : decode (m_cc M_R_hang) 16 = .ok (.iastore, 1) := by decide +kernel
theorem fR_hang_17 : decode (m_cc M_R_hang) 17 = .ok (.aload_n 0, 1) := by decide +kernel
theorem fR_hang_18 : decode (m_cc M_R_hang) 18 = .ok (.getfield 34, 3) := by decide +kernel
theorem fR_hang_21 : decode (m_cc M_R_hang) 21 = .ok (.iload_n 1, 1) := by decide +kernel
theorem fR_hang_22 : decode (m_cc M_R_hang) 22 = .ok (.dup2, 1) := by decide +kernel
theorem fR_hang_23 : decode (m_cc M_R_hang) 23 = .ok (.iaload, 1) := by decide +kernel
theorem fR_hang_24 : decode (m_cc M_R_hang) 24 = .ok (.iconst 1, 1) := by decide +kernel
theorem fR_hang_25 : decode (m_cc M_R_hang) 25 = .ok (.iadd, 1) := by decide +kernel
theorem fR_hang_26 : decode (m_cc M_R_hang) 26 = .ok (.iastore, 1) := by decide +kernel
theorem fR_hang_27 : decode (m_cc M_R_hang) 27 = .ok (.aload_n 0, 1) := by decide +kernel
theorem fR_hang_28 : decode (m_cc M_R_hang) 28 = .ok (.getfield 40, 3) := by decide +kernel
theorem fR_hang_31 : decode (m_cc M_R_hang) 31 = .ok (.iload_n 2, 1) := by decide +kernel
theorem fR_hang_32 : decode (m_cc M_R_hang) 32 = .ok (.iload_n 1, 1) := by decide +kernel
theorem fR_hang_33 : decode (m_cc M_R_hang) 33 = .ok (.iastore, 1) := by decide +kernel
theorem fR_hang_34 : decode (m_cc M_R_hang) 34 = .ok (.return_, 1) := by decide +kernel
theorem fR_newLine_0 : decode (m_cc M_R_newLine) 0 = .ok (.aload_n 0, 1) := by decide +kernel
theorem fR_newLine_1 : decode (m_cc M_R_newLine) 1 = .ok (.getfield 43, 3) := by decide +kernel
theorem fR_newLine_4 : decode (m_cc M_R_newLine) 4 = .ok (.aload_n 0, 1) := by decide +kernel
theorem fR_newLine_5 : decode (m_cc M_R_newLine) 5 = .ok (.getfield 82, 3) := by decide +kernel
theorem fR_newLine_8 : decode (m_cc M_R_newLine) 8 = .ok (.iload_n 2, 1) := by decide +kernel
theorem fR_newLine_9 : decode (m_cc M_R_newLine) 9 = .ok (.iastore, 1) := by decide +kernel
theorem fR_newLine_10 : decode (m_cc M_R_newLine) 10 = .ok (.aload_n 0, 1) := by decide +kernel
theorem fR_newLine_11 : decode (m_cc M_R_newLine) 11 = .ok (.getfield 46, 3) := by decide +kernel
theorem fR_newLine_14 : decode (m_cc M_R_newLine) 14 = .ok (.aload_n 0, 1) := by decide +kernel
theorem fR_newLine_15 : decode (m_cc M_R_newLine) 15 = .ok (.getfield 82, 3) := by decide +kernel
theorem fR_newLine_18 : decode (m_cc M_R_newLine) 18 = .ok (.iconst (-1), 1) := by decide +kernel
theorem fR_newLine_19 : decode (m_cc M_R_newLine) 19 = .ok (.iastore, 1) := by decide +kernel
theorem fR_newLine_20 : decode (m_cc M_R_newLine) 20 = .ok (.aload_n 0, 1) := by decide +kernel
theorem fR_newLine_21 : decode (m_cc M_R_newLine) 21 = .ok (.getfield 49, 3) := by decide +kernel
theorem fR_newLine_24 : decode (m_cc M_R_newLine) 24 = .ok (.aload_n 0, 1) := by decide +kernel
theorem fR_newLine_25 : decode (m_cc M_R_newLine) 25 = .ok (.getfield 82, 3) := by decide +kernel
theorem fR_newLine_28 : decode (m_cc M_R_newLine) 28 = .ok (.iload 4, 2) := by decide +kernel
theorem fR_newLine_30 : decode (m_cc M_R_newLine) 30 = .ok (.iastore, 1) := by decide +kernel
theorem fR_newLine_31 : decode (m_cc M_R_newLine) 31 = .ok (.aload_n 0, 1) := by decide +kernel
theorem fR_newLine_32 : decode (m_cc M_R_newLine) 32 = .ok (.getfield 52, 3) := by decide +kernel
theorem fR_newLine_35 : decode (m_cc M_R_newLine) 35 = .ok (.aload_n 0, 1) := by decide +kernel
theorem fR_newLine_36 : decode (m_cc M_R_newLine) 36 = .ok (.getfield 82, 3) := by decide +kernel
theorem fR_newLine_39 : decode (m_cc M_R_newLine) 39 = .ok (.iload_n 3, 1) := by decide +kernel
theorem fR_newLine_40 : decode (m_cc M_R_newLine) 40 = .ok (.iastore, 1) := by decide +kernel
theorem fR_newLine_41 : decode (m_cc M_R_newLine) 41 = .ok (.aload_n 0, 1) := by decide +kernel
theorem fR_newLine_42 : decode (m_cc M_R_newLine) 42 = .ok (.getfield 64, 3) := by decide +kernel
theorem fR_newLine_45 : decode (m_cc M_R_newLine) 45 = .ok (.aload_n 0, 1) := by decide +kernel
theorem fR_newLine_46 : decode (m_cc M_R_newLine) 46 = .ok (.getfield 82, 3) := by decide +kernel
theorem fR_newLine_49 : decode (m_cc M_R_newLine) 49 = .ok (.iconst 1, 1) := by decide +kernel
theorem fR_newLine_50 : decode (m_cc M_R_newLine) 50 = .ok (.bastore, 1) := by decide +kernel
theorem fR_newLine_51 : decode (m_cc M_R_newLine) 51 = .ok (.aload_n 0, 1) := by decide +kernel
theorem fR_newLine_52 : decode (m_cc M_R_newLine) 52 = .ok (.iload_n 1, 1) := by decide +kernel
theorem fR_newLine_53 : decode (m_cc M_R_newLine) 53 = .ok (.aload_n 0, 1) := by decide +kernel
theorem fR_newLine_54 : decode (m_cc M_R_newLine) 54 = .ok (.getfield 82, 3) := by decide +kernel
theorem fR_newLine_57 : decode (m_cc M_R_newLine) 57 = .ok (.invokevirtual 90, 3) := by decide +kernel
theorem fR_newLine_60 : decode (m_cc M_R_newLine) 60 = .ok (.aload_n 0, 1) := by decide +kernel
theorem fR_newLine_61 : decode (m_cc M_R_newLine) 61 = .ok (.getfield 28, 3) := by decide +kernel
theorem fR_newLine_64 : decode (m_cc M_R_newLine) 64 = .ok (.iload_n 1, 1) := by decide +kernel
theorem fR_newLine_65 : decode (m_cc M_R_newLine) 65 = .ok (.dup2, 1) := by decide +kernel
theorem fR_newLine_66 : decode (m_cc M_R_newLine) 66 = .ok (.iaload, 1) := by decide +kernel
theorem fR_newLine_67 : decode (m_cc M_R_newLine) 67 = .ok (.iconst 1, 1) := by decide +kernel
theorem fR_newLine_68 : decode (m_cc M_R_newLine) 68 = .ok (.iadd, 1) := by decide +kernel
theorem fR_newLine_69 : decode (m_cc M_R_newLine) 69 = .ok (.iastore, 1) := by decide +kernel
theorem fR_newLine_70 : decode (m_cc M_R_newLine) 70 = .ok (.aload_n 0, 1) := by decide +kernel
theorem fR_newLine_71 : decode (m_cc M_R_newLine) 71 = .ok (.dup, 1) := by decide +kernel
theorem fR_newLine_72 : decode (m_cc M_R_newLine) 72 = .ok (.getfield 82, 3) := by decide +kernel
theorem fR_newLine_75 : decode (m_cc M_R_newLine) 75 = .ok (.iconst 1, 1) := by decide +kernel
theorem fR_newLine_76 : decode (m_cc M_R_newLine) 76 = .ok (.iadd, 1) := by decide +kernel
theorem fR_newLine_77 : decode (m_cc M_R_newLine) 77 = .ok (.putfield 82, 3) := by decide +kernel
theorem fR_newLine_80 : decode (m_cc M_R_newLine) 80 = .ok (.aload_n 0, 1) := by decide +kernel
theorem fR_newLine_81 : decode (m_cc M_R_newLine) 81 = .ok (.getfield 82, 3) := by decide +kernel
theorem fR_newLine_84 : decode (m_cc M_R_newLine) 84 = .ok (.iconst 1, 1) := by decide +kernel
theorem fR_newLine_85 : decode (m_cc M_R_newLine) 85 = .ok (.isub, 1) := by decide +kernel
theorem fR_newLine_86 : decode (m_cc M_R_newLine) 86 = .ok (.ireturn, 1) := by decide +kernel
theorem fR_line_0 : decode (m_cc M_R_line) 0 = .ok (.aload_n 0, 1) := by decide +kernel
theorem fR_line_1 : decode (m_cc M_R_line) 1 = .ok (.aload_n 0, 1) := by decide +kernel
theorem fR_line_2 : decode (m_cc M_R_line) 2 = .ok (.iload_n 1, 1) := by decide +kernel
theorem fR_line_3 : decode (m_cc M_R_line) 3 = .ok (.invokevirtual 94, 3) := by decide +kernel
theorem fR_line_6 : decode (m_cc M_R_line) 6 = .ok (.ifCond .ne 7, 3) := by decide +kernel
theorem fR_line_9 : decode (m_cc M_R_line) 9 = .ok (.iconst 1, 1) := by decide +kernel
theorem fR_line_10 : decode (m_cc M_R_line) 10 = .ok (.goto 40, 3) := by decide +kernel
theorem fR_line_13 : decode (m_cc M_R_line) 13 = .ok (.iload_n 2, 1) := by decide +kernel
theorem fR_line_14 : decode (m_cc M_R_line) 14 = .ok (.iconst 0, 1) := by decide +kernel
theorem fR_line_15 : decode (m_cc M_R_line) 15 = .ok (.bipush 15, 2) := by decide +kernel
theorem fR_line_17 : decode (m_cc M_R_line) 17 = .ok (.invokestatic 78, 3) := by decide +kernel
theorem fR_line_20 : decode (m_cc M_R_line) 20 = .ok (.ifCond .eq 25, 3) := by decide +kernel
theorem fR_line_23 : decode (m_cc M_R_line) 23 = .ok (.iload_n 3, 1) := by decide +kernel
theorem fR_line_24 : decode (m_cc M_R_line) 24 = .ok (.iconst 1, 1) := by decide +kernel
theorem fR_line_25 : decode (m_cc M_R_line) 25 = .ok (.sipush 1000, 3) := by decide +kernel
theorem fR_line_28 : decode (m_cc M_R_line) 28 = .ok (.invokestatic 78, 3) := by decide +kernel
theorem fR_line_31 : decode (m_cc M_R_line) 31 = .ok (.ifCond .eq 14, 3) := by decide +kernel
theorem fR_line_34 : decode (m_cc M_R_line) 34 = .ok (.iload 4, 2) := by decide +kernel
theorem fR_line_36 : decode (m_cc M_R_line) 36 = .ok (.iconst 0, 1) := by decide +kernel
theorem fR_line_37 : decode (m_cc M_R_line) 37 = .ok (.bipush 7, 2) := by decide +kernel
theorem fR_line_39 : decode (m_cc M_R_line) 39 = .ok (.invokestatic 78, 3) := by decide +kernel
theorem fR_line_42 : decode (m_cc M_R_line) 42 = .ok (.ifCond .ne 7, 3) := by decide +kernel
theorem fR_line_45 : decode (m_cc M_R_line) 45 = .ok (.iconst 2, 1) := by decide +kernel
theorem fR_line_46 : decode (m_cc M_R_line) 46 = .ok (.goto 4, 3) := by decide +kernel
theorem fR_line_49 : decode (m_cc M_R_line) 49 = .ok (.iconst 0, 1) := by decide +kernel
theorem fR_line_50 : decode (m_cc M_R_line) 50 = .ok (.putfield 71, 3) := by decide +kernel
theorem fR_line_53 : decode (m_cc M_R_line) 53 = .ok (.aload_n 0, 1) := by decide +kernel
theorem fR_line_54 : decode (m_cc M_R_line) 54 = .ok (.getfield 71, 3) := by decide +kernel
theorem fR_line_57 : decode (m_cc M_R_line) 57 = .ok (.ifCond .ne 45, 3) := by decide +kernel
theorem fR_line_60 : decode (m_cc M_R_line) 60 = .ok (.aload_n 0, 1) := by decide +kernel
theorem fR_line_61 : decode (m_cc M_R_line) 61 = .ok (.aload_n 0, 1) := by decide +kernel
theorem fR_line_62 : decode (m_cc M_R_line) 62 = .ok (.getfield 22, 3) := by decide +kernel
theorem fR_line_65 : decode (m_cc M_R_line) 65 = .ok (.iload_n 1, 1) := by decide +kernel
theorem fR_line_66 : decode (m_cc M_R_line) 66 = .ok (.iaload, 1) := by decide +kernel
theorem fR_line_67 : decode (m_cc M_R_line) 67 = .ok (.ifCond .eq 7, 3) := by decide +kernel
theorem fR_line_70 : decode (m_cc M_R_line) 70 = .ok (.iconst 3, 1) := by decide +kernel
theorem fR_line_71 : decode (m_cc M_R_line) 71 = .ok (.goto 28, 3) := by decide +kernel
theorem fR_line_74 : decode (m_cc M_R_line) 74 = .ok (.aload_n 0, 1) := by decide +kernel
theorem fR_line_75 : decode (m_cc M_R_line) 75 = .ok (.getfield 82, 3) := by decide +kernel
theorem fR_line_78 : decode (m_cc M_R_line) 78 = .ok (.bipush 60, 2) := by decide +kernel
theorem fR_line_80 : decode (m_cc M_R_line) 80 = .ok (.if_icmp .eq 14, 3) := by decide +kernel
theorem fR_line_83 : decode (m_cc M_R_line) 83 = .ok (.aload_n 0, 1) := by decide +kernel
theorem fR_line_84 : decode (m_cc M_R_line) 84 = .ok (.getfield 34, 3) := by decide +kernel
theorem fR_line_87 : decode (m_cc M_R_line) 87 = .ok (.iload_n 1, 1) := by decide +kernel
theorem fR_line_88 : decode (m_cc M_R_line) 88 = .ok (.iaload, 1) := by decide +kernel
theorem fR_line_89 : decode (m_cc M_R_line) 89 = .ok (.bipush 8, 2) := by decide +kernel
theorem fR_line_91 : decode (m_cc M_R_line) 91 = .ok (.if_icmp .ne 7, 3) := by decide +kernel
theorem fR_line_94 : decode (m_cc M_R_line) 94 = .ok (.iconst 4, 1) := by decide +kernel
theorem fR_line_95 : decode (m_cc M_R_line) 95 = .ok (.goto 4, 3) := by decide +kernel
theorem fR_line_98 : decode (m_cc M_R_line) 98 = .ok (.iconst 0, 1) := by decide +kernel
theorem fR_line_99 : decode (m_cc M_R_line) 99 = .ok (.putfield 71, 3) := by decide +kernel
theorem fR_line_102 : decode (m_cc M_R_line) 102 = .ok (.aload_n 0, 1) := by decide +kernel
theorem fR_line_103 : decode (m_cc M_R_line) 103 = .ok (.getfield 71, 3) := by decide +kernel
theorem fR_line_106 : decode (m_cc M_R_line) 106 = .ok (.ifCond .le 7, 3) := by decide +kernel
theorem fR_line_109 : decode (m_cc M_R_line) 109 = .ok (.iconst 0, 1) := by decide +kernel
theorem fR_line_110 : decode (m_cc M_R_line) 110 = .ok (.goto 12, 3) := by decide +kernel
theorem fR_line_113 : decode (m_cc M_R_line) 113 = .ok (.aload_n 0, 1) := by decide +kernel
theorem fR_line_114 : decode (m_cc M_R_line) 114 = .ok (.iload_n 1, 1) := by decide +kernel
theorem fR_line_115 : decode (m_cc M_R_line) 115 = .ok (.iload_n 2, 1) := by decide +kernel
theorem fR_line_116 : decode (m_cc M_R_line) 116 = .ok (.iload_n 3, 1) := by decide +kernel
theorem fR_line_117 : decode (m_cc M_R_line) 117 = .ok (.iload 4, 2) := by decide +kernel
theorem fR_line_119 : decode (m_cc M_R_line) 119 = .ok (.invokevirtual 98, 3) := by decide +kernel
theorem fR_line_122 : decode (m_cc M_R_line) 122 = .ok (.ireturn, 1) := by decide +kernel
theorem fR_hold_0 : decode (m_cc M_R_hold) 0 = .ok (.aload_n 0, 1) := by decide +kernel
theorem fR_hold_1 : decode (m_cc M_R_hold) 1 = .ok (.aload_n 0, 1) := by decide +kernel
theorem fR_hold_2 : decode (m_cc M_R_hold) 2 = .ok (.iload_n 1, 1) := by decide +kernel
theorem fR_hold_3 : decode (m_cc M_R_hold) 3 = .ok (.invokevirtual 101, 3) := by decide +kernel
theorem fR_hold_6 : decode (m_cc M_R_hold) 6 = .ok (.ifCond .ne 7, 3) := by decide +kernel
theorem fR_hold_9 : decode (m_cc M_R_hold) 9 = .ok (.iconst 1, 1) := by decide +kernel
theorem fR_hold_10 : decode (m_cc M_R_hold) 10 = .ok (.goto 19, 3) := by decide +kernel
theorem fR_hold_13 : decode (m_cc M_R_hold) 13 = .ok (.iload_n 2, 1) := by decide +kernel
theorem fR_hold_14 : decode (m_cc M_R_hold) 14 = .ok (.iconst 1, 1) := by decide +kernel
theorem fR_hold_15 : decode (m_cc M_R_hold) 15 = .ok (.sipush 1000, 3) := by decide +kernel
theorem fR_hold_18 : decode (m_cc M_R_hold) 18 = .ok (.invokestatic 78, 3) := by decide +kernel
theorem fR_hold_21 : decode (m_cc M_R_hold) 21 = .ok (.ifCond .ne 7, 3) := by decide +kernel
theorem fR_hold_24 : decode (m_cc M_R_hold) 24 = .ok (.iconst 2, 1) := by decide +kernel
theorem fR_hold_25 : decode (m_cc M_R_hold) 25 = .ok (.goto 4, 3) := by decide +kernel
theorem fR_hold_28 : decode (m_cc M_R_hold) 28 = .ok (.iconst 0, 1) := by decide +kernel
theorem fR_hold_29 : decode (m_cc M_R_hold) 29 = .ok (.putfield 71, 3) := by decide +kernel
theorem fR_hold_32 : decode (m_cc M_R_hold) 32 = .ok (.aload_n 0, 1) := by decide +kernel
theorem fR_hold_33 : decode (m_cc M_R_hold) 33 = .ok (.getfield 71, 3) := by decide +kernel
theorem fR_hold_36 : decode (m_cc M_R_hold) 36 = .ok (.ifCond .ne 53, 3) := by decide +kernel
theorem fR_hold_39 : decode (m_cc M_R_hold) 39 = .ok (.aload_n 0, 1) := by decide +kernel
theorem fR_hold_40 : decode (m_cc M_R_hold) 40 = .ok (.aload_n 0, 1) := by decide +kernel
theorem fR_hold_41 : decode (m_cc M_R_hold) 41 = .ok (.getfield 22, 3) := by decide +kernel
theorem fR_hold_44 : decode (m_cc M_R_hold) 44 = .ok (.aload_n 0, 1) := by decide +kernel
theorem fR_hold_45 : decode (m_cc M_R_hold) 45 = .ok (.getfield 40, 3) := by decide +kernel
theorem fR_hold_48 : decode (m_cc M_R_hold) 48 = .ok (.iload_n 1, 1) := by decide +kernel
theorem fR_hold_49 : decode (m_cc M_R_hold) 49 = .ok (.iaload, 1) := by decide +kernel
theorem fR_hold_50 : decode (m_cc M_R_hold) 50 = .ok (.iaload, 1) := by decide +kernel
theorem fR_hold_51 : decode (m_cc M_R_hold) 51 = .ok (.iconst 1, 1) := by decide +kernel
theorem fR_hold_52 : decode (m_cc M_R_hold) 52 = .ok (.if_icmp .gt 29, 3) := by decide +kernel
theorem fR_hold_55 : decode (m_cc M_R_hold) 55 = .ok (.aload_n 0, 1) := by decide +kernel
theorem fR_hold_56 : decode (m_cc M_R_hold) 56 = .ok (.getfield 64, 3) := by decide +kernel
theorem fR_hold_59 : decode (m_cc M_R_hold) 59 = .ok (.iload_n 1, 1) := by decide +kernel
theorem fR_hold_60 : decode (m_cc M_R_hold) 60 = .ok (.baload, 1) := by decide +kernel
theorem fR_hold_61 : decode (m_cc M_R_hold) 61 = .ok (.ifCond .eq 20, 3) := by decide +kernel
theorem fR_hold_64 : decode (m_cc M_R_hold) 64 = .ok (.aload_n 0, 1) := by decide +kernel
theorem fR_hold_65 : decode (m_cc M_R_hold) 65 = .ok (.getfield 55, 3) := by decide +kernel
theorem fR_hold_68 : decode (m_cc M_R_hold) 68 = .ok (.iload_n 1, 1) := by decide +kernel
theorem fR_hold_69 : decode (m_cc M_R_hold) 69 = .ok (.iaload, 1) := by decide +kernel
theorem fR_hold_70 : decode (m_cc M_R_hold) 70 = .ok (.iload_n 2, 1) := by decide +kernel
theorem fR_hold_71 : decode (m_cc M_R_hold) 71 = .ok (.iadd, 1) := by decide +kernel
theorem fR_hold_72 : decode (m_cc M_R_hold) 72 = .ok (.aload_n 0, 1) := by decide +kernel
theorem fR_hold_73 : decode (m_cc M_R_hold) 73 = .ok (.getfield 52, 3) := by decide +kernel
theorem fR_hold_76 : decode (m_cc M_R_hold) 76 = .ok (.iload_n 1, 1) := by decide +kernel
theorem fR_hold_77 : decode (m_cc M_R_hold) 77 = .ok (.iaload, 1) := by decide +kernel
theorem fR_hold_78 : decode (m_cc M_R_hold) 78 = .ok (.if_icmp .le 7, 3) := by decide +kernel
theorem fR_hold_81 : decode (m_cc M_R_hold) 81 = .ok (.iconst 3, 1) := by decide +kernel
theorem fR_hold_82 : decode (m_cc M_R_hold) 82 = .ok (.goto 4, 3) := by decide +kernel
theorem fR_hold_85 : decode (m_cc M_R_hold) 85 = .ok (.iconst 0, 1) := by decide +kernel
theorem fR_hold_86 : decode (m_cc M_R_hold) 86 = .ok (.putfield 71, 3) := by decide +kernel
theorem fR_hold_89 : decode (m_cc M_R_hold) 89 = .ok (.aload_n 0, 1) := by decide +kernel
theorem fR_hold_90 : decode (m_cc M_R_hold) 90 = .ok (.getfield 71, 3) := by decide +kernel
theorem fR_hold_93 : decode (m_cc M_R_hold) 93 = .ok (.ifCond .le 5, 3) := by decide +kernel
theorem fR_hold_96 : decode (m_cc M_R_hold) 96 = .ok (.iconst 0, 1) := by decide +kernel
theorem fR_hold_97 : decode (m_cc M_R_hold) 97 = .ok (.ireturn, 1) := by decide +kernel
theorem fR_hold_98 : decode (m_cc M_R_hold) 98 = .ok (.aload_n 0, 1) := by decide +kernel
theorem fR_hold_99 : decode (m_cc M_R_hold) 99 = .ok (.getfield 55, 3) := by decide +kernel
theorem fR_hold_102 : decode (m_cc M_R_hold) 102 = .ok (.iload_n 1, 1) := by decide +kernel
theorem fR_hold_103 : decode (m_cc M_R_hold) 103 = .ok (.dup2, 1) := by decide +kernel
theorem fR_hold_104 : decode (m_cc M_R_hold) 104 = .ok (.iaload, 1) := by decide +kernel
theorem fR_hold_105 : decode (m_cc M_R_hold) 105 = .ok (.iload_n 2, 1) := by decide +kernel
theorem fR_hold_106 : decode (m_cc M_R_hold) 106 = .ok (.iadd, 1) := by decide +kernel
theorem fR_hold_107 : decode (m_cc M_R_hold) 107 = .ok (.iastore, 1) := by decide +kernel
theorem fR_hold_108 : decode (m_cc M_R_hold) 108 = .ok (.aload_n 0, 1) := by decide +kernel
theorem fR_hold_109 : decode (m_cc M_R_hold) 109 = .ok (.getfield 28, 3) := by decide +kernel
theorem fR_hold_112 : decode (m_cc M_R_hold) 112 = .ok (.aload_n 0, 1) := by decide +kernel
theorem fR_hold_113 : decode (m_cc M_R_hold) 113 = .ok (.getfield 40, 3) := by decide +kernel
theorem fR_hold_116 : decode (m_cc M_R_hold) 116 = .ok (.iload_n 1, 1) := by decide +kernel
theorem fR_hold_117 : decode (m_cc M_R_hold) 117 = .ok (.iaload, 1) := by decide +kernel
theorem fR_hold_118 : decode (m_cc M_R_hold) 118 = .ok (.dup2, 1) := by decide +kernel
theorem fR_hold_119 : decode (m_cc M_R_hold) 119 = .ok (.iaload, 1) := by decide +kernel
theorem fR_hold_120 : decode (m_cc M_R_hold) 120 = .ok (.iconst 1, 1) := by decide +kernel
theorem fR_hold_121 : decode (m_cc M_R_hold) 121 = .ok (.iadd, 1) := by decide +kernel
theorem fR_hold_122 : decode (m_cc M_R_hold) 122 = .ok (.iastore, 1) := by decide +kernel
theorem fR_hold_123 : decode (m_cc M_R_hold) 123 = .ok (.aload_n 0, 1) := by decide +kernel
theorem fR_hold_124 : decode (m_cc M_R_hold) 124 = .ok (.getfield 55, 3) := by decide +kernel
theorem fR_hold_127 : decode (m_cc M_R_hold) 127 = .ok (.iload_n 1, 1) := by decide +kernel
theorem fR_hold_128 : decode (m_cc M_R_hold) 128 = .ok (.iaload, 1) := by decide +kernel
theorem fR_hold_129 : decode (m_cc M_R_hold) 129 = .ok (.ireturn, 1) := by decide +kernel
theorem fR_pick_0 : decode (m_cc M_R_pick) 0 = .ok (.aload_n 0, 1) := by decide +kernel
theorem fR_pick_1 : decode (m_cc M_R_pick) 1 = .ok (.aload_n 0, 1) := by decide +kernel
theorem fR_pick_2 : decode (m_cc M_R_pick) 2 = .ok (.iload_n 1, 1) := by decide +kernel
theorem fR_pick_3 : decode (m_cc M_R_pick) 3 = .ok (.invokevirtual 101, 3) := by decide +kernel
theorem fR_pick_6 : decode (m_cc M_R_pick) 6 = .ok (.ifCond .ne 7, 3) := by decide +kernel
theorem fR_pick_9 : decode (m_cc M_R_pick) 9 = .ok (.iconst 1, 1) := by decide +kernel
theorem fR_pick_10 : decode (m_cc M_R_pick) 10 = .ok (.goto 19, 3) := by decide +kernel
theorem fR_pick_13 : decode (m_cc M_R_pick) 13 = .ok (.iload_n 2, 1) := by decide +kernel
theorem fR_pick_14 : decode (m_cc M_R_pick) 14 = .ok (.iconst 1, 1) := by decide +kernel
theorem fR_pick_15 : decode (m_cc M_R_pick) 15 = .ok (.sipush 1000, 3) := by decide +kernel
theorem fR_pick_18 : decode (m_cc M_R_pick) 18 = .ok (.invokestatic 78, 3) := by decide +kernel
theorem fR_pick_21 : decode (m_cc M_R_pick) 21 = .ok (.ifCond .ne 7, 3) := by decide +kernel
theorem fR_pick_24 : decode (m_cc M_R_pick) 24 = .ok (.iconst 2, 1) := by decide +kernel
theorem fR_pick_25 : decode (m_cc M_R_pick) 25 = .ok (.goto 4, 3) := by decide +kernel
theorem fR_pick_28 : decode (m_cc M_R_pick) 28 = .ok (.iconst 0, 1) := by decide +kernel
theorem fR_pick_29 : decode (m_cc M_R_pick) 29 = .ok (.putfield 71, 3) := by decide +kernel
theorem fR_pick_32 : decode (m_cc M_R_pick) 32 = .ok (.aload_n 0, 1) := by decide +kernel
theorem fR_pick_33 : decode (m_cc M_R_pick) 33 = .ok (.getfield 71, 3) := by decide +kernel
theorem fR_pick_36 : decode (m_cc M_R_pick) 36 = .ok (.ifCond .ne 58, 3) := by decide +kernel
theorem fR_pick_39 : decode (m_cc M_R_pick) 39 = .ok (.aload_n 0, 1) := by decide +kernel
theorem fR_pick_40 : decode (m_cc M_R_pick) 40 = .ok (.aload_n 0, 1) := by decide +kernel
theorem fR_pick_41 : decode (m_cc M_R_pick) 41 = .ok (.getfield 22, 3) := by decide +kernel
theorem fR_pick_44 : decode (m_cc M_R_pick) 44 = .ok (.aload_n 0, 1) := by decide +kernel
theorem fR_pick_45 : decode (m_cc M_R_pick) 45 = .ok (.getfield 40, 3) := by decide +kernel
theorem fR_pick_48 : decode (m_cc M_R_pick) 48 = .ok (.iload_n 1, 1) := by decide +kernel
theorem fR_pick_49 : decode (m_cc M_R_pick) 49 = .ok (.iaload, 1) := by decide +kernel
theorem fR_pick_50 : decode (m_cc M_R_pick) 50 = .ok (.iaload, 1) := by decide +kernel
theorem fR_pick_51 : decode (m_cc M_R_pick) 51 = .ok (.iconst 2, 1) := by decide +kernel
theorem fR_pick_52 : decode (m_cc M_R_pick) 52 = .ok (.if_icmp .ne 34, 3) := by decide +kernel
theorem fR_pick_55 : decode (m_cc M_R_pick) 55 = .ok (.aload_n 0, 1) := by decide +kernel
theorem fR_pick_56 : decode (m_cc M_R_pick) 56 = .ok (.getfield 25, 3) := by decide +kernel
theorem fR_pick_59 : decode (m_cc M_R_pick) 59 = .ok (.aload_n 0, 1) := by decide +kernel
theorem fR_pick_60 : decode (m_cc M_R_pick) 60 = .ok (.getfield 40, 3) := by decide +kernel
theorem fR_pick_63 : decode (m_cc M_R_pick) 63 = .ok (.iload_n 1, 1) := by decide +kernel
theorem fR_pick_64 : decode (m_cc M_R_pick) 64 = .ok (.iaload, 1) := by decide +kernel
theorem fR_pick_65 : decode (m_cc M_R_pick) 65 = .ok (.iaload, 1) := by decide +kernel
theorem fR_pick_66 : decode (m_cc M_R_pick) 66 = .ok (.ifCond .ne 20, 3) := by decide +kernel
theorem fR_pick_69 : decode (m_cc M_R_pick) 69 = .ok (.aload_n 0, 1) := by decide +kernel
theorem fR_pick_70 : decode (m_cc M_R_pick) 70 = .ok (.getfield 58, 3) := by decide +kernel
theorem fR_pick_73 : decode (m_cc M_R_pick) 73 = .ok (.iload_n 1, 1) := by decide +kernel
theorem fR_pick_74 : decode (m_cc M_R_pick) 74 = .ok (.iaload, 1) := by decide +kernel
theorem fR_pick_75 : decode (m_cc M_R_pick) 75 = .ok (.iload_n 2, 1) := by decide +kernel
theorem fR_pick_76 : decode (m_cc M_R_pick) 76 = .ok (.iadd, 1) := by decide +kernel
theorem fR_pick_77 : decode (m_cc M_R_pick) 77 = .ok (.aload_n 0, 1) := by decide +kernel
theorem fR_pick_78 : decode (m_cc M_R_pick) 78 = .ok (.getfield 55, 3) := by decide +kernel
theorem fR_pick_81 : decode (m_cc M_R_pick) 81 = .ok (.iload_n 1, 1) := by decide +kernel
theorem fR_pick_82 : decode (m_cc M_R_pick) 82 = .ok (.iaload, 1) := by decide +kernel
theorem fR_pick_83 : decode (m_cc M_R_pick) 83 = .ok (.if_icmp .le 7, 3) := by decide +kernel
theorem fR_pick_86 : decode (m_cc M_R_pick) 86 = .ok (.iconst 3, 1) := by decide +kernel
theorem fR_pick_87 : decode (m_cc M_R_pick) 87 = .ok (.goto 4, 3) := by decide +kernel
theorem fR_pick_90 : decode (m_cc M_R_pick) 90 = .ok (.iconst 0, 1) := by decide +kernel
theorem fR_pick_91 : decode (m_cc M_R_pick) 91 = .ok (.putfield 71, 3) := by decide +kernel
theorem fR_pick_94 : decode (m_cc M_R_pick) 94 = .ok (.aload_n 0, 1) := by decide +kernel
theorem fR_pick_95 : decode (m_cc M_R_pick) 95 = .ok (.getfield 71, 3) := by decide +kernel
theorem fR_pick_98 : decode (m_cc M_R_pick) 98 = .ok (.ifCond .le 5, 3) := by decide +kernel
theorem fR_pick_101 : decode (m_cc M_R_pick) 101 = .ok (.iconst 0, 1) := by decide +kernel
theorem fR_pick_102 : decode (m_cc M_R_pick) 102 = .ok (.ireturn, 1) := by decide +kernel
theorem fR_pick_103 : decode (m_cc M_R_pick) 103 = .ok (.aload_n 0, 1) := by decide +kernel
theorem fR_pick_104 : decode (m_cc M_R_pick) 104 = .ok (.getfield 58, 3) := by decide +kernel
theorem fR_pick_107 : decode (m_cc M_R_pick) 107 = .ok (.iload_n 1, 1) := by decide +kernel
theorem fR_pick_108 : decode (m_cc M_R_pick) 108 = .ok (.dup2, 1) := by decide +kernel
theorem fR_pick_109 : decode (m_cc M_R_pick) 109 = .ok (.iaload, 1) := by decide +kernel
theorem fR_pick_110 : decode (m_cc M_R_pick) 110 = .ok (.iload_n 2, 1) := by decide +kernel
theorem fR_pick_111 : decode (m_cc M_R_pick) 111 = .ok (.iadd, 1) := by decide +kernel
theorem fR_pick_112 : decode (m_cc M_R_pick) 112 = .ok (.iastore, 1) := by decide +kernel
theorem fR_pick_113 : decode (m_cc M_R_pick) 113 = .ok (.aload_n 0, 1) := by decide +kernel
theorem fR_pick_114 : decode (m_cc M_R_pick) 114 = .ok (.getfield 28, 3) := by decide +kernel
theorem fR_pick_117 : decode (m_cc M_R_pick) 117 = .ok (.aload_n 0, 1) := by decide +kernel
theorem fR_pick_118 : decode (m_cc M_R_pick) 118 = .ok (.getfield 40, 3) := by decide +kernel
theorem fR_pick_121 : decode (m_cc M_R_pick) 121 = .ok (.iload_n 1, 1) := by decide +kernel
theorem fR_pick_122 : decode (m_cc M_R_pick) 122 = .ok (.iaload, 1) := by decide +kernel
theorem fR_pick_123 : decode (m_cc M_R_pick) 123 = .ok (.dup2, 1) := by decide +kernel
theorem fR_pick_124 : decode (m_cc M_R_pick) 124 = .ok (.iaload, 1) := by decide +kernel
theorem fR_pick_125 : decode (m_cc M_R_pick) 125 = .ok (.iconst 1, 1) := by decide +kernel
theorem fR_pick_126 : decode (m_cc M_R_pick) 126 = .ok (.iadd, 1) := by decide +kernel
theorem fR_pick_127 : decode (m_cc M_R_pick) 127 = .ok (.iastore, 1) := by decide +kernel
theorem fR_pick_128 : decode (m_cc M_R_pick) 128 = .ok (.aload_n 0, 1) := by decide +kernel
theorem fR_pick_129 : decode (m_cc M_R_pick) 129 = .ok (.getfield 58, 3) := by decide +kernel
theorem fR_pick_132 : decode (m_cc M_R_pick) 132 = .ok (.iload_n 1, 1) := by decide +kernel
theorem fR_pick_133 : decode (m_cc M_R_pick) 133 = .ok (.iaload, 1) := by decide +kernel
theorem fR_pick_134 : decode (m_cc M_R_pick) 134 = .ok (.ireturn, 1) := by decide +kernel
theorem fR_lineAt_0 : decode (m_cc M_R_lineAt) 0 = .ok (.aload_n 0, 1) := by decide +kernel
theorem fR_lineAt_1 : decode (m_cc M_R_lineAt) 1 = .ok (.getfield 37, 3) := by decide +kernel
theorem fR_lineAt_4 : decode (m_cc M_R_lineAt) 4 = .ok (.bipush 8, 2) := by decide +kernel
theorem fR_lineAt_6 : decode (m_cc M_R_lineAt) 6 = .ok (.iload_n 1, 1) := by decide +kernel
theorem fR_lineAt_7 : decode (m_cc M_R_lineAt) 7 = .ok (.imul, 1) := by decide +kernel
theorem fR_lineAt_8 : decode (m_cc M_R_lineAt) 8 = .ok (.iload_n 2, 1) := by decide +kernel
theorem fR_lineAt_9 : decode (m_cc M_R_lineAt) 9 = .ok (.iadd, 1) := by decide +kernel
theorem fR_lineAt_10 : decode (m_cc M_R_lineAt) 10 = .ok (.iaload, 1) := by decide +kernel
theorem fR_lineAt_11 : decode (m_cc M_R_lineAt) 11 = .ok (.ireturn, 1) := by decide +kernel
theorem fR_liveLines_0 : decode (m_cc M_R_liveLines) 0 = .ok (.iconst 0, 1) := by decide +kernel
theorem fR_liveLines_1 : decode (m_cc M_R_liveLines) 1 = .ok (.istore_n 2, 1) := by decide +kernel
theorem fR_liveLines_2 : decode (m_cc M_R_liveLines) 2 = .ok (.iconst 0, 1) := by decide +kernel
theorem fR_liveLines_3 : decode (m_cc M_R_liveLines) 3 = .ok (.istore_n 3, 1) := by decide +kernel
theorem fR_liveLines_4 : decode (m_cc M_R_liveLines) 4 = .ok (.iload_n 3, 1) := by decide +kernel
theorem fR_liveLines_5 : decode (m_cc M_R_liveLines) 5 = .ok (.aload_n 0, 1) := by decide +kernel
theorem fR_liveLines_6 : decode (m_cc M_R_liveLines) 6 = .ok (.getfield 34, 3) := by decide +kernel
theorem fR_liveLines_9 : decode (m_cc M_R_liveLines) 9 = .ok (.iload_n 1, 1) := by decide +kernel
theorem fR_liveLines_10 : decode (m_cc M_R_liveLines) 10 = .ok (.iaload, 1) := by decide +kernel
theorem fR_liveLines_11 : decode (m_cc M_R_liveLines) 11 = .ok (.if_icmp .ge 31, 3) := by decide +kernel
theorem fR_liveLines_14 : decode (m_cc M_R_liveLines) 14 = .ok (.iload_n 2, 1) := by decide +kernel
theorem fR_liveLines_15 : decode (m_cc M_R_liveLines) 15 = .ok (.aload_n 0, 1) := by decide +kernel
theorem fR_liveLines_16 : decode (m_cc M_R_liveLines) 16 = .ok (.getfield 64, 3) := by decide +kernel
theorem fR_liveLines_19 : decode (m_cc M_R_liveLines) 19 = .ok (.aload_n 0, 1) := by decide +kernel
theorem fR_liveLines_20 : decode (m_cc M_R_liveLines) 20 = .ok (.iload_n 1, 1) := by decide +kernel
theorem fR_liveLines_21 : decode (m_cc M_R_liveLines) 21 = .ok (.iload_n 3, 1) := by decide +kernel
theorem fR_liveLines_22 : decode (m_cc M_R_liveLines) 22 = .ok (.invokevirtual 104, 3) := by decide +kernel
theorem fR_liveLines_25 : decode (m_cc M_R_liveLines) 25 = .ok (.baload, 1) := by decide +kernel
theorem fR_liveLines_26 : decode (m_cc M_R_liveLines) 26 = .ok (.ifCond .eq 7, 3) := by decide +kernel
theorem fR_liveLines_29 : decode (m_cc M_R_liveLines) 29 = .ok (.iconst 1, 1) := by decide +kernel
theorem fR_liveLines_30 : decode (m_cc M_R_liveLines) 30 = .ok (.goto 4, 3) := by decide +kernel
theorem fR_liveLines_33 : decode (m_cc M_R_liveLines) 33 = .ok (.iconst 0, 1) := by decide +kernel
theorem fR_liveLines_34 : decode (m_cc M_R_liveLines) 34 = .ok (.iadd, 1) := by decide +kernel
theorem fR_liveLines_35 : decode (m_cc M_R_liveLines) 35 = .ok (.istore_n 2, 1) := by decide +kernel
theorem fR_liveLines_36 : decode (m_cc M_R_liveLines) 36 = .ok (.iinc 3 1, 3) := by decide +kernel
theorem fR_liveLines_39 : decode (m_cc M_R_liveLines) 39 = .ok (.goto (-35), 3) := by decide +kernel
theorem fR_liveLines_42 : decode (m_cc M_R_liveLines) 42 = .ok (.iload_n 2, 1) := by decide +kernel
theorem fR_liveLines_43 : decode (m_cc M_R_liveLines) 43 = .ok (.ireturn, 1) := by decide +kernel
theorem fR_isReady_0 : decode (m_cc M_R_isReady) 0 = .ok (.aload_n 0, 1) := by decide +kernel
theorem fR_isReady_1 : decode (m_cc M_R_isReady) 1 = .ok (.getfield 55, 3) := by decide +kernel
theorem fR_isReady_4 : decode (m_cc M_R_isReady) 4 = .ok (.iload_n 1, 1) := by decide +kernel
theorem fR_isReady_5 : decode (m_cc M_R_isReady) 5 = .ok (.iaload, 1) := by decide +kernel
theorem fR_isReady_6 : decode (m_cc M_R_isReady) 6 = .ok (.aload_n 0, 1) := by decide +kernel
theorem fR_isReady_7 : decode (m_cc M_R_isReady) 7 = .ok (.getfield 52, 3) := by decide +kernel
theorem fR_isReady_10 : decode (m_cc M_R_isReady) 10 = .ok (.iload_n 1, 1) := by decide +kernel
theorem fR_isReady_11 : decode (m_cc M_R_isReady) 11 = .ok (.iaload, 1) := by decide +kernel
theorem fR_isReady_12 : decode (m_cc M_R_isReady) 12 = .ok (.if_icmp .eq 30, 3) := by decide +kernel
theorem fR_isReady_15 : decode (m_cc M_R_isReady) 15 = .ok (.aload_n 0, 1) := by decide +kernel
theorem fR_isReady_16 : decode (m_cc M_R_isReady) 16 = .ok (.iload_n 1, 1) := by decide +kernel
theorem fR_isReady_17 : decode (m_cc M_R_isReady) 17 = .ok (.iconst 1, 1) := by decide +kernel
theorem fR_isReady_18 : decode (m_cc M_R_isReady) 18 = .ok (.invokevirtual 108, 3) := by decide +kernel
theorem fR_isReady_21 : decode (m_cc M_R_isReady) 21 = .ok (.ifCond .eq 12, 3) := by decide +kernel
theorem fR_isReady_24 : decode (m_cc M_R_isReady) 24 = .ok (.aload_n 0, 1) := by decide +kernel
theorem fR_isReady_25 : decode (m_cc M_R_isReady) 25 = .ok (.getfield 55, 3) := by decide +kernel
theorem fR_isReady_28 : decode (m_cc M_R_isReady) 28 = .ok (.iload_n 1, 1) := by decide +kernel
theorem fR_isReady_29 : decode (m_cc M_R_isReady) 29 = .ok (.iaload, 1) := by decide +kernel
theorem fR_isReady_30 : decode (m_cc M_R_isReady) 30 = .ok (.ifCond .gt 12, 3) := by decide +kernel
theorem fR_isReady_33 : decode (m_cc M_R_isReady) 33 = .ok (.aload_n 0, 1) := by decide +kernel
theorem fR_isReady_34 : decode (m_cc M_R_isReady) 34 = .ok (.iload_n 1, 1) := by decide +kernel
theorem fR_isReady_35 : decode (m_cc M_R_isReady) 35 = .ok (.iconst 4, 1) := by decide +kernel
theorem fR_isReady_36 : decode (m_cc M_R_isReady) 36 = .ok (.invokevirtual 108, 3) := by decide +kernel
theorem fR_isReady_39 : decode (m_cc M_R_isReady) 39 = .ok (.ifCond .eq 7, 3) := by decide +kernel
theorem fR_isReady_42 : decode (m_cc M_R_isReady) 42 = .ok (.iconst 1, 1) := by decide +kernel
theorem fR_isReady_43 : decode (m_cc M_R_isReady) 43 = .ok (.goto 4, 3) := by decide +kernel
theorem fR_isReady_46 : decode (m_cc M_R_isReady) 46 = .ok (.iconst 0, 1) := by decide +kernel
theorem fR_isReady_47 : decode (m_cc M_R_isReady) 47 = .ok (.ireturn, 1) := by decide +kernel
theorem fR_shortOf_0 : decode (m_cc M_R_shortOf) 0 = .ok (.aload_n 0, 1) := by decide +kernel
theorem fR_shortOf_1 : decode (m_cc M_R_shortOf) 1 = .ok (.getfield 64, 3) := by decide +kernel
theorem fR_shortOf_4 : decode (m_cc M_R_shortOf) 4 = .ok (.iload_n 1, 1) := by decide +kernel
theorem fR_shortOf_5 : decode (m_cc M_R_shortOf) 5 = .ok (.baload, 1) := by decide +kernel
theorem fR_shortOf_6 : decode (m_cc M_R_shortOf) 6 = .ok (.ifCond .eq 19, 3) := by decide +kernel
theorem fR_shortOf_9 : decode (m_cc M_R_shortOf) 9 = .ok (.aload_n 0, 1) := by decide +kernel
theorem fR_shortOf_10 : decode (m_cc M_R_shortOf) 10 = .ok (.getfield 52, 3) := by decide +kernel
theorem fR_shortOf_13 : decode (m_cc M_R_shortOf) 13 = .ok (.iload_n 1, 1) := by decide +kernel
theorem fR_shortOf_14 : decode (m_cc M_R_shortOf) 14 = .ok (.iaload, 1) := by decide +kernel
theorem fR_shortOf_15 : decode (m_cc M_R_shortOf) 15 = .ok (.aload_n 0, 1) := by decide +kernel
theorem fR_shortOf_16 : decode (m_cc M_R_shortOf) 16 = .ok (.getfield 61, 3) := by decide +kernel
theorem fR_shortOf_19 : decode (m_cc M_R_shortOf) 19 = .ok (.iload_n 1, 1) := by decide +kernel
theorem fR_shortOf_20 : decode (m_cc M_R_shortOf) 20 = .ok (.iaload, 1) := by decide +kernel
theorem fR_shortOf_21 : decode (m_cc M_R_shortOf) 21 = .ok (.isub, 1) := by decide +kernel
theorem fR_shortOf_22 : decode (m_cc M_R_shortOf) 22 = .ok (.goto 4, 3) := by decide +kernel
theorem fR_shortOf_25 : decode (m_cc M_R_shortOf) 25 = .ok (.iconst 0, 1) := by decide +kernel
theorem fR_shortOf_26 : decode (m_cc M_R_shortOf) 26 = .ok (.ireturn, 1) := by decide +kernel
theorem fR_mayGoOn_0 : decode (m_cc M_R_mayGoOn) 0 = .ok (.aload_n 0, 1) := by decide +kernel
theorem fR_mayGoOn_1 : decode (m_cc M_R_mayGoOn) 1 = .ok (.getfield 25, 3) := by decide +kernel
theorem fR_mayGoOn_4 : decode (m_cc M_R_mayGoOn) 4 = .ok (.iload_n 1, 1) := by decide +kernel
theorem fR_mayGoOn_5 : decode (m_cc M_R_mayGoOn) 5 = .ok (.iaload, 1) := by decide +kernel
theorem fR_mayGoOn_6 : decode (m_cc M_R_mayGoOn) 6 = .ok (.ifCond .ne 7, 3) := by decide +kernel
theorem fR_mayGoOn_9 : decode (m_cc M_R_mayGoOn) 9 = .ok (.iconst 1, 1) := by decide +kernel
theorem fR_mayGoOn_10 : decode (m_cc M_R_mayGoOn) 10 = .ok (.goto 4, 3) := by decide +kernel
theorem fR_mayGoOn_13 : decode (m_cc M_R_mayGoOn) 13 = .ok (.iconst 0, 1) := by decide +kernel
theorem fR_mayGoOn_14 : decode (m_cc M_R_mayGoOn) 14 = .ok (.istore_n 2, 1) := by decide +kernel
theorem fR_mayGoOn_15 : decode (m_cc M_R_mayGoOn) 15 = .ok (.aload_n 0, 1) := by decide +kernel
theorem fR_mayGoOn_16 : decode (m_cc M_R_mayGoOn) 16 = .ok (.getfield 22, 3) := by decide +kernel
theorem fR_mayGoOn_19 : decode (m_cc M_R_mayGoOn) 19 = .ok (.iload_n 1, 1) := by decide +kernel
theorem fR_mayGoOn_20 : decode (m_cc M_R_mayGoOn) 20 = .ok (.iaload, 1) := by decide +kernel
theorem fR_mayGoOn_21 : decode (m_cc M_R_mayGoOn) 21 = .ok (.ifCond .ne 21, 3) := by decide +kernel
theorem fR_mayGoOn_24 : decode (m_cc M_R_mayGoOn) 24 = .ok (.iload_n 2, 1) := by decide +kernel
theorem fR_mayGoOn_25 : decode (m_cc M_R_mayGoOn) 25 = .ok (.ifCond .eq 15, 3) := by decide +kernel
theorem fR_mayGoOn_28 : decode (m_cc M_R_mayGoOn) 28 = .ok (.aload_n 0, 1) := by decide +kernel
theorem fR_mayGoOn_29 : decode (m_cc M_R_mayGoOn) 29 = .ok (.iload_n 1, 1) := by decide +kernel
theorem fR_mayGoOn_30 : decode (m_cc M_R_mayGoOn) 30 = .ok (.invokevirtual 112, 3) := by decide +kernel
theorem fR_mayGoOn_33 : decode (m_cc M_R_mayGoOn) 33 = .ok (.ifCond .le 7, 3) := by decide +kernel
theorem fR_mayGoOn_36 : decode (m_cc M_R_mayGoOn) 36 = .ok (.iconst 1, 1) := by decide +kernel
theorem fR_mayGoOn_37 : decode (m_cc M_R_mayGoOn) 37 = .ok (.goto 4, 3) := by decide +kernel
theorem fR_mayGoOn_40 : decode (m_cc M_R_mayGoOn) 40 = .ok (.iconst 0, 1) := by decide +kernel
theorem fR_mayGoOn_41 : decode (m_cc M_R_mayGoOn) 41 = .ok (.istore_n 2, 1) := by decide +kernel
theorem fR_mayGoOn_42 : decode (m_cc M_R_mayGoOn) 42 = .ok (.iconst 0, 1) := by decide +kernel
theorem fR_mayGoOn_43 : decode (m_cc M_R_mayGoOn) 43 = .ok (.istore_n 3, 1) := by decide +kernel
theorem fR_mayGoOn_44 : decode (m_cc M_R_mayGoOn) 44 = .ok (.iload_n 3, 1) := by decide +kernel
theorem fR_mayGoOn_45 : decode (m_cc M_R_mayGoOn) 45 = .ok (.aload_n 0, 1) := by decide +kernel
theorem fR_mayGoOn_46 : decode (m_cc M_R_mayGoOn) 46 = .ok (.getfield 34, 3) := by decide +kernel
theorem fR_mayGoOn_49 : decode (m_cc M_R_mayGoOn) 49 = .ok (.iload_n 1, 1) := by decide +kernel
theorem fR_mayGoOn_50 : decode (m_cc M_R_mayGoOn) 50 = .ok (.iaload, 1) := by decide +kernel
theorem fR_mayGoOn_51 : decode (m_cc M_R_mayGoOn) 51 = .ok (.if_icmp .ge 144, 3) := by decide +kernel
theorem fR_mayGoOn_54 : decode (m_cc M_R_mayGoOn) 54 = .ok (.aload_n 0, 1) := by decide +kernel
theorem fR_mayGoOn_55 : decode (m_cc M_R_mayGoOn) 55 = .ok (.iload_n 1, 1) := by decide +kernel
theorem fR_mayGoOn_56 : decode (m_cc M_R_mayGoOn) 56 = .ok (.iload_n 3, 1) := by decide +kernel
theorem fR_mayGoOn_57 : decode (m_cc M_R_mayGoOn) 57 = .ok (.invokevirtual 104, 3) := by decide +kernel
theorem fR_mayGoOn_60 : decode (m_cc M_R_mayGoOn) 60 = .ok (.istore 4, 2) := by decide +kernel
theorem fR_mayGoOn_62 : decode (m_cc M_R_mayGoOn) 62 = .ok (.aload_n 0, 1) := by decide +kernel
theorem fR_mayGoOn_63 : decode (m_cc M_R_mayGoOn) 63 = .ok (.getfield 64, 3) := by decide +kernel
theorem fR_mayGoOn_66 : decode (m_cc M_R_mayGoOn) 66 = .ok (.iload 4, 2) := by decide +kernel
theorem fR_mayGoOn_68 : decode (m_cc M_R_mayGoOn) 68 = .ok (.baload, 1) := by decide +kernel
theorem fR_mayGoOn_69 : decode (m_cc M_R_mayGoOn) 69 = .ok (.ifCond .ne 6, 3) := by decide +kernel
theorem fR_mayGoOn_72 : decode (m_cc M_R_mayGoOn) 72 = .ok (.goto 117, 3) := by decide +kernel
theorem fR_mayGoOn_75 : decode (m_cc M_R_mayGoOn) 75 = .ok (.aload_n 0, 1) := by decide +kernel
theorem fR_mayGoOn_76 : decode (m_cc M_R_mayGoOn) 76 = .ok (.getfield 22, 3) := by decide +kernel
theorem fR_mayGoOn_79 : decode (m_cc M_R_mayGoOn) 79 = .ok (.iload_n 1, 1) := by decide +kernel
theorem fR_mayGoOn_80 : decode (m_cc M_R_mayGoOn) 80 = .ok (.iaload, 1) := by decide +kernel
theorem fR_mayGoOn_81 : decode (m_cc M_R_mayGoOn) 81 = .ok (.ifCond .ne 22, 3) := by decide +kernel
theorem fR_mayGoOn_84 : decode (m_cc M_R_mayGoOn) 84 = .ok (.iload_n 2, 1) := by decide +kernel
theorem fR_mayGoOn_85 : decode (m_cc M_R_mayGoOn) 85 = .ok (.ifCond .eq 16, 3) := by decide +kernel
theorem fR_mayGoOn_88 : decode (m_cc M_R_mayGoOn) 88 = .ok (.aload_n 0, 1) := by decide +kernel
theorem fR_mayGoOn_89 : decode (m_cc M_R_mayGoOn) 89 = .ok (.iload 4, 2) := by decide +kernel
theorem fR_mayGoOn_91 : decode (m_cc M_R_mayGoOn) 91 = .ok (.invokevirtual 116, 3) := by decide +kernel
theorem fR_mayGoOn_94 : decode (m_cc M_R_mayGoOn) 94 = .ok (.ifCond .eq 7, 3) := by decide +kernel
theorem fR_mayGoOn_97 : decode (m_cc M_R_mayGoOn) 97 = .ok (.iconst 1, 1) := by decide +kernel
theorem fR_mayGoOn_98 : decode (m_cc M_R_mayGoOn) 98 = .ok (.goto 4, 3) := by decide +kernel
theorem fR_mayGoOn_101 : decode (m_cc M_R_mayGoOn) 101 = .ok (.iconst 0, 1) := by decide +kernel
theorem fR_mayGoOn_102 : decode (m_cc M_R_mayGoOn) 102 = .ok (.istore_n 2, 1) := by decide +kernel
theorem fR_mayGoOn_103 : decode (m_cc M_R_mayGoOn) 103 = .ok (.aload_n 0, 1) := by decide +kernel
theorem fR_mayGoOn_104 : decode (m_cc M_R_mayGoOn) 104 = .ok (.getfield 22, 3) := by decide +kernel
theorem fR_mayGoOn_107 : decode (m_cc M_R_mayGoOn) 107 = .ok (.iload_n 1, 1) := by decide +kernel
theorem fR_mayGoOn_108 : decode (m_cc M_R_mayGoOn) 108 = .ok (.iaload, 1) := by decide +kernel
theorem fR_mayGoOn_109 : decode (m_cc M_R_mayGoOn) 109 = .ok (.iconst 2, 1) := by decide +kernel
theorem fR_mayGoOn_110 : decode (m_cc M_R_mayGoOn) 110 = .ok (.if_icmp .ne 30, 3) := by decide +kernel
theorem fR_mayGoOn_113 : decode (m_cc M_R_mayGoOn) 113 = .ok (.iload_n 2, 1) := by decide +kernel
theorem fR_mayGoOn_114 : decode (m_cc M_R_mayGoOn) 114 = .ok (.ifCond .eq 24, 3) := by decide +kernel
theorem fR_mayGoOn_117 : decode (m_cc M_R_mayGoOn) 117 = .ok (.aload_n 0, 1) := by decide +kernel
theorem fR_mayGoOn_118 : decode (m_cc M_R_mayGoOn) 118 = .ok (.getfield 58, 3) := by decide +kernel
theorem fR_mayGoOn_121 : decode (m_cc M_R_mayGoOn) 121 = .ok (.iload 4, 2) := by decide +kernel
theorem fR_mayGoOn_123 : decode (m_cc M_R_mayGoOn) 123 = .ok (.iaload, 1) := by decide +kernel
theorem fR_mayGoOn_124 : decode (m_cc M_R_mayGoOn) 124 = .ok (.aload_n 0, 1) := by decide +kernel
theorem fR_mayGoOn_125 : decode (m_cc M_R_mayGoOn) 125 = .ok (.getfield 55, 3) := by decide +kernel
theorem fR_mayGoOn_128 : decode (m_cc M_R_mayGoOn) 128 = .ok (.iload 4, 2) := by decide +kernel
theorem fR_mayGoOn_130 : decode (m_cc M_R_mayGoOn) 130 = .ok (.iaload, 1) := by decide +kernel
theorem fR_mayGoOn_131 : decode (m_cc M_R_mayGoOn) 131 = .ok (.if_icmp .ne 7, 3) := by decide +kernel
theorem fR_mayGoOn_134 : decode (m_cc M_R_mayGoOn) 134 = .ok (.iconst 1, 1) := by decide +kernel
theorem fR_mayGoOn_135 : decode (m_cc M_R_mayGoOn) 135 = .ok (.goto 4, 3) := by decide +kernel
theorem fR_mayGoOn_138 : decode (m_cc M_R_mayGoOn) 138 = .ok (.iconst 0, 1) := by decide +kernel
theorem fR_mayGoOn_139 : decode (m_cc M_R_mayGoOn) 139 = .ok (.istore_n 2, 1) := by decide +kernel
theorem fR_mayGoOn_140 : decode (m_cc M_R_mayGoOn) 140 = .ok (.aload_n 0, 1) := by decide +kernel
theorem fR_mayGoOn_141 : decode (m_cc M_R_mayGoOn) 141 = .ok (.getfield 22, 3) := by decide +kernel
theorem fR_mayGoOn_144 : decode (m_cc M_R_mayGoOn) 144 = .ok (.iload_n 1, 1) := by decide +kernel
theorem fR_mayGoOn_145 : decode (m_cc M_R_mayGoOn) 145 = .ok (.iaload, 1) := by decide +kernel
theorem fR_mayGoOn_146 : decode (m_cc M_R_mayGoOn) 146 = .ok (.iconst 4, 1) := by decide +kernel
theorem fR_mayGoOn_147 : decode (m_cc M_R_mayGoOn) 147 = .ok (.if_icmp .ne 42, 3) := by decide +kernel
theorem fR_mayGoOn_150 : decode (m_cc M_R_mayGoOn) 150 = .ok (.iload_n 2, 1) := by decide +kernel
theorem fR_mayGoOn_151 : decode (m_cc M_R_mayGoOn) 151 = .ok (.ifCond .eq 36, 3) := by decide +kernel
theorem fR_mayGoOn_154 : decode (m_cc M_R_mayGoOn) 154 = .ok (.aload_n 0, 1) := by decide +kernel
theorem fR_mayGoOn_155 : decode (m_cc M_R_mayGoOn) 155 = .ok (.iload 4, 2) := by decide +kernel
theorem fR_mayGoOn_157 : decode (m_cc M_R_mayGoOn) 157 = .ok (.iconst 4, 1) := by decide +kernel
theorem fR_mayGoOn_158 : decode (m_cc M_R_mayGoOn) 158 = .ok (.invokevirtual 108, 3) := by decide +kernel
theorem fR_mayGoOn_161 : decode (m_cc M_R_mayGoOn) 161 = .ok (.ifCond .eq 22, 3) := by decide +kernel
theorem fR_mayGoOn_164 : decode (m_cc M_R_mayGoOn) 164 = .ok (.aload_n 0, 1) := by decide +kernel
theorem fR_mayGoOn_165 : decode (m_cc M_R_mayGoOn) 165 = .ok (.iload 4, 2) := by decide +kernel
theorem fR_mayGoOn_167 : decode (m_cc M_R_mayGoOn) 167 = .ok (.invokevirtual 119, 3) := by decide +kernel
theorem fR_mayGoOn_170 : decode (m_cc M_R_mayGoOn) 170 = .ok (.ifCond .le 13, 3) := by decide +kernel
theorem fR_mayGoOn_173 : decode (m_cc M_R_mayGoOn) 173 = .ok (.aload_n 0, 1) := by decide +kernel
theorem fR_mayGoOn_174 : decode (m_cc M_R_mayGoOn) 174 = .ok (.getfield 68, 3) := by decide +kernel
theorem fR_mayGoOn_177 : decode (m_cc M_R_mayGoOn) 177 = .ok (.iload 4, 2) := by decide +kernel
theorem fR_mayGoOn_179 : decode (m_cc M_R_mayGoOn) 179 = .ok (.baload, 1) := by decide +kernel
theorem fR_mayGoOn_180 : decode (m_cc M_R_mayGoOn) 180 = .ok (.ifCond .eq 7, 3) := by decide +kernel
theorem fR_mayGoOn_183 : decode (m_cc M_R_mayGoOn) 183 = .ok (.iconst 1, 1) := by decide +kernel
theorem fR_mayGoOn_184 : decode (m_cc M_R_mayGoOn) 184 = .ok (.goto 4, 3) := by decide +kernel
theorem fR_mayGoOn_187 : decode (m_cc M_R_mayGoOn) 187 = .ok (.iconst 0, 1) := by decide +kernel
theorem fR_mayGoOn_188 : decode (m_cc M_R_mayGoOn) 188 = .ok (.istore_n 2, 1) := by decide +kernel
theorem fR_mayGoOn_189 : decode (m_cc M_R_mayGoOn) 189 = .ok (.iinc 3 1, 3) := by decide +kernel
theorem fR_mayGoOn_192 : decode (m_cc M_R_mayGoOn) 192 = .ok (.goto (-148), 3) := by decide +kernel
theorem fR_mayGoOn_195 : decode (m_cc M_R_mayGoOn) 195 = .ok (.iload_n 2, 1) := by decide +kernel
theorem fR_mayGoOn_196 : decode (m_cc M_R_mayGoOn) 196 = .ok (.ireturn, 1) := by decide +kernel
theorem fR_goOn_0 : decode (m_cc M_R_goOn) 0 = .ok (.aload_n 0, 1) := by decide +kernel
theorem fR_goOn_1 : decode (m_cc M_R_goOn) 1 = .ok (.aload_n 0, 1) := by decide +kernel
theorem fR_goOn_2 : decode (m_cc M_R_goOn) 2 = .ok (.iload_n 1, 1) := by decide +kernel
theorem fR_goOn_3 : decode (m_cc M_R_goOn) 3 = .ok (.invokevirtual 94, 3) := by decide +kernel
theorem fR_goOn_6 : decode (m_cc M_R_goOn) 6 = .ok (.ifCond .ne 7, 3) := by decide +kernel
theorem fR_goOn_9 : decode (m_cc M_R_goOn) 9 = .ok (.iconst 1, 1) := by decide +kernel
theorem fR_goOn_10 : decode (m_cc M_R_goOn) 10 = .ok (.goto 4, 3) := by decide +kernel
theorem fR_goOn_13 : decode (m_cc M_R_goOn) 13 = .ok (.iconst 0, 1) := by decide +kernel
theorem fR_goOn_14 : decode (m_cc M_R_goOn) 14 = .ok (.putfield 71, 3) := by decide +kernel
theorem fR_goOn_17 : decode (m_cc M_R_goOn) 17 = .ok (.aload_n 0, 1) := by decide +kernel
theorem fR_goOn_18 : decode (m_cc M_R_goOn) 18 = .ok (.getfield 71, 3) := by decide +kernel
theorem fR_goOn_21 : decode (m_cc M_R_goOn) 21 = .ok (.ifCond .ne 22, 3) := by decide +kernel
theorem fR_goOn_24 : decode (m_cc M_R_goOn) 24 = .ok (.aload_n 0, 1) := by decide +kernel
theorem fR_goOn_25 : decode (m_cc M_R_goOn) 25 = .ok (.aload_n 0, 1) := by decide +kernel
theorem fR_goOn_26 : decode (m_cc M_R_goOn) 26 = .ok (.getfield 22, 3) := by decide +kernel
theorem fR_goOn_29 : decode (m_cc M_R_goOn) 29 = .ok (.iload_n 1, 1) := by decide +kernel
theorem fR_goOn_30 : decode (m_cc M_R_goOn) 30 = .ok (.iaload, 1) := by decide +kernel
theorem fR_goOn_31 : decode (m_cc M_R_goOn) 31 = .ok (.iconst 5, 1) := by decide +kernel
theorem fR_goOn_32 : decode (m_cc M_R_goOn) 32 = .ok (.if_icmp .lt 7, 3) := by decide +kernel
theorem fR_goOn_35 : decode (m_cc M_R_goOn) 35 = .ok (.iconst 2, 1) := by decide +kernel
theorem fR_goOn_36 : decode (m_cc M_R_goOn) 36 = .ok (.goto 4, 3) := by decide +kernel
theorem fR_goOn_39 : decode (m_cc M_R_goOn) 39 = .ok (.iconst 0, 1) := by decide +kernel
theorem fR_goOn_40 : decode (m_cc M_R_goOn) 40 = .ok (.putfield 71, 3) := by decide +kernel
theorem fR_goOn_43 : decode (m_cc M_R_goOn) 43 = .ok (.aload_n 0, 1) := by decide +kernel
theorem fR_goOn_44 : decode (m_cc M_R_goOn) 44 = .ok (.getfield 71, 3) := by decide +kernel
theorem fR_goOn_47 : decode (m_cc M_R_goOn) 47 = .ok (.ifCond .le 5, 3) := by decide +kernel
theorem fR_goOn_50 : decode (m_cc M_R_goOn) 50 = .ok (.iconst 0, 1) := by decide +kernel
theorem fR_goOn_51 : decode (m_cc M_R_goOn) 51 = .ok (.ireturn, 1) := by decide +kernel
theorem fR_goOn_52 : decode (m_cc M_R_goOn) 52 = .ok (.aload_n 0, 1) := by decide +kernel
theorem fR_goOn_53 : decode (m_cc M_R_goOn) 53 = .ok (.iload_n 1, 1) := by decide +kernel
theorem fR_goOn_54 : decode (m_cc M_R_goOn) 54 = .ok (.invokevirtual 122, 3) := by decide +kernel
theorem fR_goOn_57 : decode (m_cc M_R_goOn) 57 = .ok (.ifCond .ne 5, 3) := by decide +kernel
theorem fR_goOn_60 : decode (m_cc M_R_goOn) 60 = .ok (.iconst (-1), 1) := by decide +kernel
theorem fR_goOn_61 : decode (m_cc M_R_goOn) 61 = .ok (.ireturn, 1) := by decide +kernel
theorem fR_goOn_62 : decode (m_cc M_R_goOn) 62 = .ok (.aload_n 0, 1) := by decide +kernel
theorem fR_goOn_63 : decode (m_cc M_R_goOn) 63 = .ok (.getfield 22, 3) := by decide +kernel
theorem fR_goOn_66 : decode (m_cc M_R_goOn) 66 = .ok (.iload_n 1, 1) := by decide +kernel
theorem fR_goOn_67 : decode (m_cc M_R_goOn) 67 = .ok (.dup2, 1) := by decide +kernel
theorem fR_goOn_68 : decode (m_cc M_R_goOn) 68 = .ok (.iaload, 1) := by decide +kernel
theorem fR_goOn_69 : decode (m_cc M_R_goOn) 69 = .ok (.iconst 1, 1) := by decide +kernel
theorem fR_goOn_70 : decode (m_cc M_R_goOn) 70 = .ok (.iadd, 1) := by decide +kernel
theorem fR_goOn_71 : decode (m_cc M_R_goOn) 71 = .ok (.iastore, 1) := by decide +kernel
theorem fR_goOn_72 : decode (m_cc M_R_goOn) 72 = .ok (.aload_n 0, 1) := by decide +kernel
theorem fR_goOn_73 : decode (m_cc M_R_goOn) 73 = .ok (.getfield 28, 3) := by decide +kernel
theorem fR_goOn_76 : decode (m_cc M_R_goOn) 76 = .ok (.iload_n 1, 1) := by decide +kernel
theorem fR_goOn_77 : decode (m_cc M_R_goOn) 77 = .ok (.dup2, 1) := by decide +kernel
theorem fR_goOn_78 : decode (m_cc M_R_goOn) 78 = .ok (.iaload, 1) := by decide +kernel
theorem fR_goOn_79 : decode (m_cc M_R_goOn) 79 = .ok (.iconst 1, 1) := by decide +kernel
theorem fR_goOn_80 : decode (m_cc M_R_goOn) 80 = .ok (.iadd, 1) := by decide +kernel
theorem fR_goOn_81 : decode (m_cc M_R_goOn) 81 = .ok (.iastore, 1) := by decide +kernel
theorem fR_goOn_82 : decode (m_cc M_R_goOn) 82 = .ok (.iconst 0, 1) := by decide +kernel
theorem fR_goOn_83 : decode (m_cc M_R_goOn) 83 = .ok (.istore_n 2, 1) := by decide +kernel
theorem fR_goOn_84 : decode (m_cc M_R_goOn) 84 = .ok (.iload_n 2, 1) := by decide +kernel
theorem fR_goOn_85 : decode (m_cc M_R_goOn) 85 = .ok (.aload_n 0, 1) := by decide +kernel
theorem fR_goOn_86 : decode (m_cc M_R_goOn) 86 = .ok (.getfield 34, 3) := by decide +kernel
theorem fR_goOn_89 : decode (m_cc M_R_goOn) 89 = .ok (.iload_n 1, 1) := by decide +kernel
theorem fR_goOn_90 : decode (m_cc M_R_goOn) 90 = .ok (.iaload, 1) := by decide +kernel
theorem fR_goOn_91 : decode (m_cc M_R_goOn) 91 = .ok (.if_icmp .ge 41, 3) := by decide +kernel
theorem fR_goOn_94 : decode (m_cc M_R_goOn) 94 = .ok (.aload_n 0, 1) := by decide +kernel
theorem fR_goOn_95 : decode (m_cc M_R_goOn) 95 = .ok (.getfield 22, 3) := by decide +kernel
theorem fR_goOn_98 : decode (m_cc M_R_goOn) 98 = .ok (.iload_n 1, 1) := by decide +kernel
theorem fR_goOn_99 : decode (m_cc M_R_goOn) 99 = .ok (.iaload, 1) := by decide +kernel
theorem fR_goOn_100 : decode (m_cc M_R_goOn) 100 = .ok (.iconst 4, 1) := by decide +kernel
theorem fR_goOn_101 : decode (m_cc M_R_goOn) 101 = .ok (.if_icmp .ne 31, 3) := by decide +kernel
theorem fR_goOn_104 : decode (m_cc M_R_goOn) 104 = .ok (.aload_n 0, 1) := by decide +kernel
theorem fR_goOn_105 : decode (m_cc M_R_goOn) 105 = .ok (.getfield 61, 3) := by decide +kernel
theorem fR_goOn_108 : decode (m_cc M_R_goOn) 108 = .ok (.aload_n 0, 1) := by decide +kernel
theorem fR_goOn_109 : decode (m_cc M_R_goOn) 109 = .ok (.iload_n 1, 1) := by decide +kernel
theorem fR_goOn_110 : decode (m_cc M_R_goOn) 110 = .ok (.iload_n 2, 1) := by decide +kernel
theorem fR_goOn_111 : decode (m_cc M_R_goOn) 111 = .ok (.invokevirtual 104, 3) := by decide +kernel
theorem fR_goOn_114 : decode (m_cc M_R_goOn) 114 = .ok (.aload_n 0, 1) := by decide +kernel
theorem fR_goOn_115 : decode (m_cc M_R_goOn) 115 = .ok (.getfield 58, 3) := by decide +kernel
theorem fR_goOn_118 : decode (m_cc M_R_goOn) 118 = .ok (.aload_n 0, 1) := by decide +kernel
theorem fR_goOn_119 : decode (m_cc M_R_goOn) 119 = .ok (.iload_n 1, 1) := by decide +kernel
theorem fR_goOn_120 : decode (m_cc M_R_goOn) 120 = .ok (.iload_n 2, 1) := by decide +kernel
theorem fR_goOn_121 : decode (m_cc M_R_goOn) 121 = .ok (.invokevirtual 104, 3) := by decide +kernel
theorem fR_goOn_124 : decode (m_cc M_R_goOn) 124 = .ok (.iaload, 1) := by decide +kernel
theorem fR_goOn_125 : decode (m_cc M_R_goOn) 125 = .ok (.iastore, 1) := by decide +kernel
theorem fR_goOn_126 : decode (m_cc M_R_goOn) 126 = .ok (.iinc 2 1, 3) := by decide +kernel
theorem fR_goOn_129 : decode (m_cc M_R_goOn) 129 = .ok (.goto (-45), 3) := by decide +kernel
theorem fR_goOn_132 : decode (m_cc M_R_goOn) 132 = .ok (.aload_n 0, 1) := by decide +kernel
theorem fR_goOn_133 : decode (m_cc M_R_goOn) 133 = .ok (.getfield 22, 3) := by decide +kernel
theorem fR_goOn_136 : decode (m_cc M_R_goOn) 136 = .ok (.iload_n 1, 1) := by decide +kernel
theorem fR_goOn_137 : decode (m_cc M_R_goOn) 137 = .ok (.iaload, 1) := by decide +kernel
theorem fR_goOn_138 : decode (m_cc M_R_goOn) 138 = .ok (.ireturn, 1) := by decide +kernel
theorem fR_change_0 : decode (m_cc M_R_change) 0 = .ok (.iload_n 2, 1) := by decide +kernel
theorem fR_change_1 : decode (m_cc M_R_change) 1 = .ok (.ifCond .ne 14, 3) := by decide +kernel
theorem fR_change_4 : decode (m_cc M_R_change) 4 = .ok (.iload_n 3, 1) := by decide +kernel
theorem fR_change_5 : decode (m_cc M_R_change) 5 = .ok (.iconst 1, 1) := by decide +kernel
theorem fR_change_6 : decode (m_cc M_R_change) 6 = .ok (.sipush 1000, 3) := by decide +kernel
theorem fR_change_9 : decode (m_cc M_R_change) 9 = .ok (.invokestatic 78, 3) := by decide +kernel
theorem fR_change_12 : decode (m_cc M_R_change) 12 = .ok (.goto 38, 3) := by decide +kernel
theorem fR_change_15 : decode (m_cc M_R_change) 15 = .ok (.iload_n 2, 1) := by decide +kernel
theorem fR_change_16 : decode (m_cc M_R_change) 16 = .ok (.iconst 1, 1) := by decide +kernel
theorem fR_change_17 : decode (m_cc M_R_change) 17 = .ok (.if_icmp .ne 13, 3) := by decide +kernel
theorem fR_change_20 : decode (m_cc M_R_change) 20 = .ok (.iload_n 3, 1) := by decide +kernel
theorem fR_change_21 : decode (m_cc M_R_change) 21 = .ok (.iconst 0, 1) := by decide +kernel
theorem fR_change_22 : decode (m_cc M_R_change) 22 = .ok (.bipush 15, 2) := by decide +kernel
theorem fR_change_24 : decode (m_cc M_R_change) 24 = .ok (.invokestatic 78, 3) := by decide +kernel
theorem fR_change_27 : decode (m_cc M_R_change) 27 = .ok (.goto 23, 3) := by decide +kernel
theorem fR_change_30 : decode (m_cc M_R_change) 30 = .ok (.iload_n 2, 1) := by decide +kernel
theorem fR_change_31 : decode (m_cc M_R_change) 31 = .ok (.iconst 2, 1) := by decide +kernel
theorem fR_change_32 : decode (m_cc M_R_change) 32 = .ok (.if_icmp .ne 17, 3) := by decide +kernel
theorem fR_change_35 : decode (m_cc M_R_change) 35 = .ok (.iload_n 3, 1) := by decide +kernel
theorem fR_change_36 : decode (m_cc M_R_change) 36 = .ok (.iconst 0, 1) := by decide +kernel
theorem fR_change_37 : decode (m_cc M_R_change) 37 = .ok (.bipush 7, 2) := by decide +kernel
theorem fR_change_39 : decode (m_cc M_R_change) 39 = .ok (.invokestatic 78, 3) := by decide +kernel
theorem fR_change_42 : decode (m_cc M_R_change) 42 = .ok (.ifCond .eq 7, 3) := by decide +kernel
theorem fR_change_45 : decode (m_cc M_R_change) 45 = .ok (.iconst 1, 1) := by decide +kernel
theorem fR_change_46 : decode (m_cc M_R_change) 46 = .ok (.goto 4, 3) := by decide +kernel
theorem fR_change_49 : decode (m_cc M_R_change) 49 = .ok (.iconst 0, 1) := by decide +kernel
theorem fR_change_50 : decode (m_cc M_R_change) 50 = .ok (.istore 4, 2) := by decide +kernel
theorem fR_change_52 : decode (m_cc M_R_change) 52 = .ok (.aload_n 0, 1) := by decide +kernel
theorem fR_change_53 : decode (m_cc M_R_change) 53 = .ok (.aload_n 0, 1) := by decide +kernel
theorem fR_change_54 : decode (m_cc M_R_change) 54 = .ok (.iload_n 1, 1) := by decide +kernel
theorem fR_change_55 : decode (m_cc M_R_change) 55 = .ok (.invokevirtual 101, 3) := by decide +kernel
theorem fR_change_58 : decode (m_cc M_R_change) 58 = .ok (.ifCond .ne 7, 3) := by decide +kernel
theorem fR_change_61 : decode (m_cc M_R_change) 61 = .ok (.iconst 1, 1) := by decide +kernel
theorem fR_change_62 : decode (m_cc M_R_change) 62 = .ok (.goto 13, 3) := by decide +kernel
theorem fR_change_65 : decode (m_cc M_R_change) 65 = .ok (.iload 4, 2) := by decide +kernel
theorem fR_change_67 : decode (m_cc M_R_change) 67 = .ok (.ifCond .ne 7, 3) := by decide +kernel
theorem fR_change_70 : decode (m_cc M_R_change) 70 = .ok (.iconst 2, 1) := by decide +kernel
theorem fR_change_71 : decode (m_cc M_R_change) 71 = .ok (.goto 4, 3) := by decide +kernel
theorem fR_change_74 : decode (m_cc M_R_change) 74 = .ok (.iconst 0, 1) := by decide +kernel
theorem fR_change_75 : decode (m_cc M_R_change) 75 = .ok (.putfield 71, 3) := by decide +kernel
theorem fR_change_78 : decode (m_cc M_R_change) 78 = .ok (.aload_n 0, 1) := by decide +kernel
theorem fR_change_79 : decode (m_cc M_R_change) 79 = .ok (.getfield 71, 3) := by decide +kernel
theorem fR_change_82 : decode (m_cc M_R_change) 82 = .ok (.ifCond .ne 21, 3) := by decide +kernel
theorem fR_change_85 : decode (m_cc M_R_change) 85 = .ok (.aload_n 0, 1) := by decide +kernel
theorem fR_change_86 : decode (m_cc M_R_change) 86 = .ok (.aload_n 0, 1) := by decide +kernel
theorem fR_change_87 : decode (m_cc M_R_change) 87 = .ok (.getfield 64, 3) := by decide +kernel
theorem fR_change_90 : decode (m_cc M_R_change) 90 = .ok (.iload_n 1, 1) := by decide +kernel
theorem fR_change_91 : decode (m_cc M_R_change) 91 = .ok (.baload, 1) := by decide +kernel
theorem fR_change_92 : decode (m_cc M_R_change) 92 = .ok (.ifCond .ne 7, 3) := by decide +kernel
theorem fR_change_95 : decode (m_cc M_R_change) 95 = .ok (.iconst 3, 1) := by decide +kernel
theorem fR_change_96 : decode (m_cc M_R_change) 96 = .ok (.goto 4, 3) := by decide +kernel
theorem fR_change_99 : decode (m_cc M_R_change) 99 = .ok (.iconst 0, 1) := by decide +kernel
theorem fR_change_100 : decode (m_cc M_R_change) 100 = .ok (.putfield 71, 3) := by decide +kernel
theorem fR_change_103 : decode (m_cc M_R_change) 103 = .ok (.aload_n 0, 1) := by decide +kernel
theorem fR_change_104 : decode (m_cc M_R_change) 104 = .ok (.getfield 71, 3) := by decide +kernel
theorem fR_change_107 : decode (m_cc M_R_change) 107 = .ok (.ifCond .le 5, 3) := by decide +kernel
theorem fR_change_110 : decode (m_cc M_R_change) 110 = .ok (.iconst 0, 1) := by decide +kernel
theorem fR_change_111 : decode (m_cc M_R_change) 111 = .ok (.ireturn, 1) := by decide +kernel
theorem fR_change_112 : decode (m_cc M_R_change) 112 = .ok (.aload_n 0, 1) := by decide +kernel
theorem fR_change_113 : decode (m_cc M_R_change) 113 = .ok (.getfield 40, 3) := by decide +kernel
theorem fR_change_116 : decode (m_cc M_R_change) 116 = .ok (.iload_n 1, 1) := by decide +kernel
theorem fR_change_117 : decode (m_cc M_R_change) 117 = .ok (.iaload, 1) := by decide +kernel
theorem fR_change_118 : decode (m_cc M_R_change) 118 = .ok (.istore 5, 2) := by decide +kernel
theorem fR_change_120 : decode (m_cc M_R_change) 120 = .ok (.aload_n 0, 1) := by decide +kernel
theorem fR_change_121 : decode (m_cc M_R_change) 121 = .ok (.getfield 22, 3) := by decide +kernel
theorem fR_change_124 : decode (m_cc M_R_change) 124 = .ok (.iload 5, 2) := by decide +kernel
theorem fR_change_126 : decode (m_cc M_R_change) 126 = .ok (.iaload, 1) := by decide +kernel
theorem fR_change_127 : decode (m_cc M_R_change) 127 = .ok (.iload_n 2, 1) := by decide +kernel
theorem fR_change_128 : decode (m_cc M_R_change) 128 = .ok (.iconst 2, 1) := by decide +kernel
theorem fR_change_129 : decode (m_cc M_R_change) 129 = .ok (.if_icmp .ne 7, 3) := by decide +kernel
theorem fR_change_132 : decode (m_cc M_R_change) 132 = .ok (.iconst 1, 1) := by decide +kernel
theorem fR_change_133 : decode (m_cc M_R_change) 133 = .ok (.goto 4, 3) := by decide +kernel
theorem fR_change_136 : decode (m_cc M_R_change) 136 = .ok (.iconst 0, 1) := by decide +kernel
theorem fR_change_137 : decode (m_cc M_R_change) 137 = .ok (.if_icmp .le 5, 3) := by decide +kernel
theorem fR_change_140 : decode (m_cc M_R_change) 140 = .ok (.iconst 0, 1) := by decide +kernel
theorem fR_change_141 : decode (m_cc M_R_change) 141 = .ok (.ireturn, 1) := by decide +kernel
theorem fR_change_142 : decode (m_cc M_R_change) 142 = .ok (.aload_n 0, 1) := by decide +kernel
theorem fR_change_143 : decode (m_cc M_R_change) 143 = .ok (.iload_n 2, 1) := by decide +kernel
theorem fR_change_144 : decode (m_cc M_R_change) 144 = .ok (.iconst 1, 1) := by decide +kernel
theorem fR_change_145 : decode (m_cc M_R_change) 145 = .ok (.if_icmp .ne 26, 3) := by decide +kernel
theorem fR_change_148 : decode (m_cc M_R_change) 148 = .ok (.aload_n 0, 1) := by decide +kernel
theorem fR_change_149 : decode (m_cc M_R_change) 149 = .ok (.iload_n 1, 1) := by decide +kernel
theorem fR_change_150 : decode (m_cc M_R_change) 150 = .ok (.iconst 2, 1) := by decide +kernel
theorem fR_change_151 : decode (m_cc M_R_change) 151 = .ok (.invokevirtual 108, 3) := by decide +kernel
theorem fR_change_154 : decode (m_cc M_R_change) 154 = .ok (.ifCond .eq 13, 3) := by decide +kernel
theorem fR_change_157 : decode (m_cc M_R_change) 157 = .ok (.aload_n 0, 1) := by decide +kernel
theorem fR_change_158 : decode (m_cc M_R_change) 158 = .ok (.getfield 43, 3) := by decide +kernel
theorem fR_change_161 : decode (m_cc M_R_change) 161 = .ok (.iload_n 1, 1) := by decide +kernel
theorem fR_change_162 : decode (m_cc M_R_change) 162 = .ok (.iaload, 1) := by decide +kernel
theorem fR_change_163 : decode (m_cc M_R_change) 163 = .ok (.iload_n 3, 1) := by decide +kernel
theorem fR_change_164 : decode (m_cc M_R_change) 164 = .ok (.if_icmp .ne 7, 3) := by decide +kernel
theorem fR_change_167 : decode (m_cc M_R_change) 167 = .ok (.iconst 3, 1) := by decide +kernel
theorem fR_change_168 : decode (m_cc M_R_change) 168 = .ok (.goto 4, 3) := by decide +kernel
theorem fR_change_171 : decode (m_cc M_R_change) 171 = .ok (.iconst 0, 1) := by decide +kernel
theorem fR_change_172 : decode (m_cc M_R_change) 172 = .ok (.putfield 71, 3) := by decide +kernel
theorem fR_change_175 : decode (m_cc M_R_change) 175 = .ok (.aload_n 0, 1) := by decide +kernel
theorem fR_change_176 : decode (m_cc M_R_change) 176 = .ok (.getfield 71, 3) := by decide +kernel
theorem fR_change_179 : decode (m_cc M_R_change) 179 = .ok (.ifCond .le 5, 3) := by decide +kernel
theorem fR_change_182 : decode (m_cc M_R_change) 182 = .ok (.iconst 0, 1) := by decide +kernel
theorem fR_change_183 : decode (m_cc M_R_change) 183 = .ok (.ireturn, 1) := by decide +kernel
theorem fR_change_184 : decode (m_cc M_R_change) 184 = .ok (.iload_n 2, 1) := by decide +kernel
theorem fR_change_185 : decode (m_cc M_R_change) 185 = .ok (.ifCond .ne 39, 3) := by decide +kernel
theorem fR_change_188 : decode (m_cc M_R_change) 188 = .ok (.aload_n 0, 1) := by decide +kernel
theorem fR_change_189 : decode (m_cc M_R_change) 189 = .ok (.getfield 52, 3) := by decide +kernel
theorem fR_change_192 : decode (m_cc M_R_change) 192 = .ok (.iload_n 1, 1) := by decide +kernel
theorem fR_change_193 : decode (m_cc M_R_change) 193 = .ok (.iload_n 3, 1) := by decide +kernel
theorem fR_change_194 : decode (m_cc M_R_change) 194 = .ok (.iastore, 1) := by decide +kernel
theorem fR_change_195 : decode (m_cc M_R_change) 195 = .ok (.aload_n 0, 1) := by decide +kernel
theorem fR_change_196 : decode (m_cc M_R_change) 196 = .ok (.getfield 55, 3) := by decide +kernel
theorem fR_change_199 : decode (m_cc M_R_change) 199 = .ok (.iload_n 1, 1) := by decide +kernel
theorem fR_change_200 : decode (m_cc M_R_change) 200 = .ok (.aload_n 0, 1) := by decide +kernel
theorem fR_change_201 : decode (m_cc M_R_change) 201 = .ok (.getfield 55, 3) := by decide +kernel
theorem fR_change_204 : decode (m_cc M_R_change) 204 = .ok (.iload_n 1, 1) := by decide +kernel
theorem fR_change_205 : decode (m_cc M_R_change) 205 = .ok (.iaload, 1) := by decide +kernel
theorem fR_change_206 : decode (m_cc M_R_change) 206 = .ok (.iload_n 3, 1) := by decide +kernel
theorem fR_change_207 : decode (m_cc M_R_change) 207 = .ok (.if_icmp .ge 12, 3) := by decide +kernel
theorem fR_change_210 : decode (m_cc M_R_change) 210 = .ok (.aload_n 0, 1) := by decide +kernel
theorem fR_change_211 : decode (m_cc M_R_change) 211 = .ok (.getfield 55, 3) := by decide +kernel
theorem fR_change_214 : decode (m_cc M_R_change) 214 = .ok (.iload_n 1, 1) := by decide +kernel
theorem fR_change_215 : decode (m_cc M_R_change) 215 = .ok (.iaload, 1) := by decide +kernel
theorem fR_change_216 : decode (m_cc M_R_change) 216 = .ok (.goto 4, 3) := by decide +kernel
theorem fR_change_219 : decode (m_cc M_R_change) 219 = .ok (.iload_n 3, 1) := by decide +kernel
theorem fR_change_220 : decode (m_cc M_R_change) 220 = .ok (.iastore, 1) := by decide +kernel
theorem fR_change_221 : decode (m_cc M_R_change) 221 = .ok (.goto 25, 3) := by decide +kernel
theorem fR_change_224 : decode (m_cc M_R_change) 224 = .ok (.iload_n 2, 1) := by decide +kernel
theorem fR_change_225 : decode (m_cc M_R_change) 225 = .ok (.iconst 1, 1) := by decide +kernel
theorem fR_change_226 : decode (m_cc M_R_change) 226 = .ok (.if_icmp .ne 13, 3) := by decide +kernel
theorem fR_change_229 : decode (m_cc M_R_change) 229 = .ok (.aload_n 0, 1) := by decide +kernel
theorem fR_change_230 : decode (m_cc M_R_change) 230 = .ok (.getfield 46, 3) := by decide +kernel
theorem fR_change_233 : decode (m_cc M_R_change) 233 = .ok (.iload_n 1, 1) := by decide +kernel
theorem fR_change_234 : decode (m_cc M_R_change) 234 = .ok (.iload_n 3, 1) := by decide +kernel
theorem fR_change_235 : decode (m_cc M_R_change) 235 = .ok (.iastore, 1) := by decide +kernel
theorem fR_change_236 : decode (m_cc M_R_change) 236 = .ok (.goto 10, 3) := by decide +kernel
theorem fR_change_239 : decode (m_cc M_R_change) 239 = .ok (.aload_n 0, 1) := by decide +kernel
theorem fR_change_240 : decode (m_cc M_R_change) 240 = .ok (.getfield 49, 3) := by decide +kernel
theorem fR_change_243 : decode (m_cc M_R_change) 243 = .ok (.iload_n 1, 1) := by decide +kernel
theorem fR_change_244 : decode (m_cc M_R_change) 244 = .ok (.iload_n 3, 1) := by decide +kernel
theorem fR_change_245 : decode (m_cc M_R_change) 245 = .ok (.iastore, 1) := by decide +kernel
theorem fR_change_246 : decode (m_cc M_R_change) 246 = .ok (.aload_n 0, 1) := by decide +kernel
theorem fR_change_247 : decode (m_cc M_R_change) 247 = .ok (.getfield 28, 3) := by decide +kernel
theorem fR_change_250 : decode (m_cc M_R_change) 250 = .ok (.iload 5, 2) := by decide +kernel
theorem fR_change_252 : decode (m_cc M_R_change) 252 = .ok (.dup2, 1) := by decide +kernel
theorem fR_change_253 : decode (m_cc M_R_change) 253 = .ok (.iaload, 1) := by decide +kernel
theorem fR_change_254 : decode (m_cc M_R_change) 254 = .ok (.iconst 1, 1) := by decide +kernel
theorem fR_change_255 : decode (m_cc M_R_change) 255 = .ok (.iadd, 1) := by decide +kernel
theorem fR_change_256 : decode (m_cc M_R_change) 256 = .ok (.iastore, 1) := by decide +kernel
theorem fR_change_257 : decode (m_cc M_R_change) 257 = .ok (.iconst 1, 1) := by decide +kernel
theorem fR_change_258 : decode (m_cc M_R_change) 258 = .ok (.ireturn, 1) := by decide +kernel
theorem fR_move_0 : decode (m_cc M_R_move) 0 = .ok (.aload_n 0, 1) := by decide +kernel
theorem fR_move_1 : decode (m_cc M_R_move) 1 = .ok (.aload_n 0, 1) := by decide +kernel
theorem fR_move_2 : decode (m_cc M_R_move) 2 = .ok (.iload_n 1, 1) := by decide +kernel
theorem fR_move_3 : decode (m_cc M_R_move) 3 = .ok (.invokevirtual 94, 3) := by decide +kernel
theorem fR_move_6 : decode (m_cc M_R_move) 6 = .ok (.ifCond .ne 7, 3) := by decide +kernel
theorem fR_move_9 : decode (m_cc M_R_move) 9 = .ok (.iconst 1, 1) := by decide +kernel
theorem fR_move_10 : decode (m_cc M_R_move) 10 = .ok (.goto 19, 3) := by decide +kernel
theorem fR_move_13 : decode (m_cc M_R_move) 13 = .ok (.iload_n 2, 1) := by decide +kernel
theorem fR_move_14 : decode (m_cc M_R_move) 14 = .ok (.iconst 0, 1) := by decide +kernel
theorem fR_move_15 : decode (m_cc M_R_move) 15 = .ok (.sipush 10000, 3) := by decide +kernel
theorem fR_move_18 : decode (m_cc M_R_move) 18 = .ok (.invokestatic 78, 3) := by decide +kernel
theorem fR_move_21 : decode (m_cc M_R_move) 21 = .ok (.ifCond .ne 7, 3) := by decide +kernel
theorem fR_move_24 : decode (m_cc M_R_move) 24 = .ok (.iconst 2, 1) := by decide +kernel
theorem fR_move_25 : decode (m_cc M_R_move) 25 = .ok (.goto 4, 3) := by decide +kernel
theorem fR_move_28 : decode (m_cc M_R_move) 28 = .ok (.iconst 0, 1) := by decide +kernel
theorem fR_move_29 : decode (m_cc M_R_move) 29 = .ok (.putfield 71, 3) := by decide +kernel
theorem fR_move_32 : decode (m_cc M_R_move) 32 = .ok (.aload_n 0, 1) := by decide +kernel
theorem fR_move_33 : decode (m_cc M_R_move) 33 = .ok (.getfield 71, 3) := by decide +kernel
theorem fR_move_36 : decode (m_cc M_R_move) 36 = .ok (.ifCond .gt 13, 3) := by decide +kernel
theorem fR_move_39 : decode (m_cc M_R_move) 39 = .ok (.aload_n 0, 1) := by decide +kernel
theorem fR_move_40 : decode (m_cc M_R_move) 40 = .ok (.getfield 22, 3) := by decide +kernel
theorem fR_move_43 : decode (m_cc M_R_move) 43 = .ok (.iload_n 1, 1) := by decide +kernel
theorem fR_move_44 : decode (m_cc M_R_move) 44 = .ok (.iaload, 1) := by decide +kernel
theorem fR_move_45 : decode (m_cc M_R_move) 45 = .ok (.iconst 4, 1) := by decide +kernel
theorem fR_move_46 : decode (m_cc M_R_move) 46 = .ok (.if_icmp .lt 5, 3) := by decide +kernel
theorem fR_move_49 : decode (m_cc M_R_move) 49 = .ok (.iconst 0, 1) := by decide +kernel
theorem fR_move_50 : decode (m_cc M_R_move) 50 = .ok (.ireturn, 1) := by decide +kernel
theorem fR_move_51 : decode (m_cc M_R_move) 51 = .ok (.aload_n 0, 1) := by decide +kernel
theorem fR_move_52 : decode (m_cc M_R_move) 52 = .ok (.getfield 19, 3) := by decide +kernel
theorem fR_move_55 : decode (m_cc M_R_move) 55 = .ok (.iload_n 1, 1) := by decide +kernel
theorem fR_move_56 : decode (m_cc M_R_move) 56 = .ok (.iload_n 2, 1) := by decide +kernel
theorem fR_move_57 : decode (m_cc M_R_move) 57 = .ok (.iastore, 1) := by decide +kernel
theorem fR_move_58 : decode (m_cc M_R_move) 58 = .ok (.aload_n 0, 1) := by decide +kernel
theorem fR_move_59 : decode (m_cc M_R_move) 59 = .ok (.getfield 28, 3) := by decide +kernel
theorem fR_move_62 : decode (m_cc M_R_move) 62 = .ok (.iload_n 1, 1) := by decide +kernel
theorem fR_move_63 : decode (m_cc M_R_move) 63 = .ok (.dup2, 1) := by decide +kernel
theorem fR_move_64 : decode (m_cc M_R_move) 64 = .ok (.iaload, 1) := by decide +kernel
theorem fR_move_65 : decode (m_cc M_R_move) 65 = .ok (.iconst 1, 1) := by decide +kernel
theorem fR_move_66 : decode (m_cc M_R_move) 66 = .ok (.iadd, 1) := by decide +kernel
theorem fR_move_67 : decode (m_cc M_R_move) 67 = .ok (.iastore, 1) := by decide +kernel
theorem fR_move_68 : decode (m_cc M_R_move) 68 = .ok (.iconst 1, 1) := by decide +kernel
theorem fR_move_69 : decode (m_cc M_R_move) 69 = .ok (.ireturn, 1) := by decide +kernel
theorem fR_cancel_0 : decode (m_cc M_R_cancel) 0 = .ok (.aload_n 0, 1) := by decide +kernel
theorem fR_cancel_1 : decode (m_cc M_R_cancel) 1 = .ok (.aload_n 0, 1) := by decide +kernel
theorem fR_cancel_2 : decode (m_cc M_R_cancel) 2 = .ok (.iload_n 1, 1) := by decide +kernel
theorem fR_cancel_3 : decode (m_cc M_R_cancel) 3 = .ok (.invokevirtual 101, 3) := by decide +kernel
theorem fR_cancel_6 : decode (m_cc M_R_cancel) 6 = .ok (.ifCond .ne 7, 3) := by decide +kernel
theorem fR_cancel_9 : decode (m_cc M_R_cancel) 9 = .ok (.iconst 1, 1) := by decide +kernel
theorem fR_cancel_10 : decode (m_cc M_R_cancel) 10 = .ok (.goto 4, 3) := by decide +kernel
theorem fR_cancel_13 : decode (m_cc M_R_cancel) 13 = .ok (.iconst 0, 1) := by decide +kernel
theorem fR_cancel_14 : decode (m_cc M_R_cancel) 14 = .ok (.putfield 71, 3) := by decide +kernel
theorem fR_cancel_17 : decode (m_cc M_R_cancel) 17 = .ok (.aload_n 0, 1) := by decide +kernel
theorem fR_cancel_18 : decode (m_cc M_R_cancel) 18 = .ok (.getfield 71, 3) := by decide +kernel
theorem fR_cancel_21 : decode (m_cc M_R_cancel) 21 = .ok (.ifCond .ne 36, 3) := by decide +kernel
theorem fR_cancel_24 : decode (m_cc M_R_cancel) 24 = .ok (.aload_n 0, 1) := by decide +kernel
theorem fR_cancel_25 : decode (m_cc M_R_cancel) 25 = .ok (.aload_n 0, 1) := by decide +kernel
theorem fR_cancel_26 : decode (m_cc M_R_cancel) 26 = .ok (.getfield 64, 3) := by decide +kernel
theorem fR_cancel_29 : decode (m_cc M_R_cancel) 29 = .ok (.iload_n 1, 1) := by decide +kernel
theorem fR_cancel_30 : decode (m_cc M_R_cancel) 30 = .ok (.baload, 1) := by decide +kernel
theorem fR_cancel_31 : decode (m_cc M_R_cancel) 31 = .ok (.ifCond .eq 18, 3) := by decide +kernel
theorem fR_cancel_34 : decode (m_cc M_R_cancel) 34 = .ok (.aload_n 0, 1) := by decide +kernel
theorem fR_cancel_35 : decode (m_cc M_R_cancel) 35 = .ok (.getfield 22, 3) := by decide +kernel
theorem fR_cancel_38 : decode (m_cc M_R_cancel) 38 = .ok (.aload_n 0, 1) := by decide +kernel
theorem fR_cancel_39 : decode (m_cc M_R_cancel) 39 = .ok (.getfield 40, 3) := by decide +kernel
theorem fR_cancel_42 : decode (m_cc M_R_cancel) 42 = .ok (.iload_n 1, 1) := by decide +kernel
theorem fR_cancel_43 : decode (m_cc M_R_cancel) 43 = .ok (.iaload, 1) := by decide +kernel
theorem fR_cancel_44 : decode (m_cc M_R_cancel) 44 = .ok (.iaload, 1) := by decide +kernel
theorem fR_cancel_45 : decode (m_cc M_R_cancel) 45 = .ok (.iconst 2, 1) := by decide +kernel
theorem fR_cancel_46 : decode (m_cc M_R_cancel) 46 = .ok (.if_icmp .le 7, 3) := by decide +kernel
theorem fR_cancel_49 : decode (m_cc M_R_cancel) 49 = .ok (.iconst 2, 1) := by decide +kernel
theorem fR_cancel_50 : decode (m_cc M_R_cancel) 50 = .ok (.goto 4, 3) := by decide +kernel
theorem fR_cancel_53 : decode (m_cc M_R_cancel) 53 = .ok (.iconst 0, 1) := by decide +kernel
theorem fR_cancel_54 : decode (m_cc M_R_cancel) 54 = .ok (.putfield 71, 3) := by decide +kernel
theorem fR_cancel_57 : decode (m_cc M_R_cancel) 57 = .ok (.aload_n 0, 1) := by decide +kernel
theorem fR_cancel_58 : decode (m_cc M_R_cancel) 58 = .ok (.getfield 71, 3) := by decide +kernel
theorem fR_cancel_61 : decode (m_cc M_R_cancel) 61 = .ok (.ifCond .le 5, 3) := by decide +kernel
theorem fR_cancel_64 : decode (m_cc M_R_cancel) 64 = .ok (.iconst 0, 1) := by decide +kernel
theorem fR_cancel_65 : decode (m_cc M_R_cancel) 65 = .ok (.ireturn, 1) := by decide +kernel
theorem fR_cancel_66 : decode (m_cc M_R_cancel) 66 = .ok (.aload_n 0, 1) := by decide +kernel
theorem fR_cancel_67 : decode (m_cc M_R_cancel) 67 = .ok (.getfield 55, 3) := by decide +kernel
theorem fR_cancel_70 : decode (m_cc M_R_cancel) 70 = .ok (.iload_n 1, 1) := by decide +kernel
theorem fR_cancel_71 : decode (m_cc M_R_cancel) 71 = .ok (.iaload, 1) := by decide +kernel
theorem fR_cancel_72 : decode (m_cc M_R_cancel) 72 = .ok (.istore_n 2, 1) := by decide +kernel
theorem fR_cancel_73 : decode (m_cc M_R_cancel) 73 = .ok (.aload_n 0, 1) := by decide +kernel
theorem fR_cancel_74 : decode (m_cc M_R_cancel) 74 = .ok (.getfield 64, 3) := by decide +kernel
theorem fR_cancel_77 : decode (m_cc M_R_cancel) 77 = .ok (.iload_n 1, 1) := by decide +kernel
theorem fR_cancel_78 : decode (m_cc M_R_cancel) 78 = .ok (.iconst 0, 1) := by decide +kernel
theorem fR_cancel_79 : decode (m_cc M_R_cancel) 79 = .ok (.bastore, 1) := by decide +kernel
theorem fR_cancel_80 : decode (m_cc M_R_cancel) 80 = .ok (.aload_n 0, 1) := by decide +kernel
theorem fR_cancel_81 : decode (m_cc M_R_cancel) 81 = .ok (.getfield 52, 3) := by decide +kernel
theorem fR_cancel_84 : decode (m_cc M_R_cancel) 84 = .ok (.iload_n 1, 1) := by decide +kernel
theorem fR_cancel_85 : decode (m_cc M_R_cancel) 85 = .ok (.iconst 0, 1) := by decide +kernel
theorem fR_cancel_86 : decode (m_cc M_R_cancel) 86 = .ok (.iastore, 1) := by decide +kernel
theorem fR_cancel_87 : decode (m_cc M_R_cancel) 87 = .ok (.aload_n 0, 1) := by decide +kernel
theorem fR_cancel_88 : decode (m_cc M_R_cancel) 88 = .ok (.getfield 55, 3) := by decide +kernel
theorem fR_cancel_91 : decode (m_cc M_R_cancel) 91 = .ok (.iload_n 1, 1) := by decide +kernel
theorem fR_cancel_92 : decode (m_cc M_R_cancel) 92 = .ok (.iconst 0, 1) := by decide +kernel
theorem fR_cancel_93 : decode (m_cc M_R_cancel) 93 = .ok (.iastore, 1) := by decide +kernel
theorem fR_cancel_94 : decode (m_cc M_R_cancel) 94 = .ok (.aload_n 0, 1) := by decide +kernel
theorem fR_cancel_95 : decode (m_cc M_R_cancel) 95 = .ok (.getfield 58, 3) := by decide +kernel
theorem fR_cancel_98 : decode (m_cc M_R_cancel) 98 = .ok (.iload_n 1, 1) := by decide +kernel
theorem fR_cancel_99 : decode (m_cc M_R_cancel) 99 = .ok (.iconst 0, 1) := by decide +kernel
theorem fR_cancel_100 : decode (m_cc M_R_cancel) 100 = .ok (.iastore, 1) := by decide +kernel
theorem fR_cancel_101 : decode (m_cc M_R_cancel) 101 = .ok (.aload_n 0, 1) := by decide +kernel
theorem fR_cancel_102 : decode (m_cc M_R_cancel) 102 = .ok (.getfield 28, 3) := by decide +kernel
theorem fR_cancel_105 : decode (m_cc M_R_cancel) 105 = .ok (.aload_n 0, 1) := by decide +kernel
theorem fR_cancel_106 : decode (m_cc M_R_cancel) 106 = .ok (.getfield 40, 3) := by decide +kernel
theorem fR_cancel_109 : decode (m_cc M_R_cancel) 109 = .ok (.iload_n 1, 1) := by decide +kernel
theorem fR_cancel_110 : decode (m_cc M_R_cancel) 110 = .ok (.iaload, 1) := by decide +kernel
theorem fR_cancel_111 : decode (m_cc M_R_cancel) 111 = .ok (.dup2, 1) := by decide +kernel
theorem fR_cancel_112 : decode (m_cc M_R_cancel) 112 = .ok (.iaload, 1) := by decide +kernel
theorem fR_cancel_113 : decode (m_cc M_R_cancel) 113 = .ok (.iconst 1, 1) := by decide +kernel
theorem fR_cancel_114 : decode (m_cc M_R_cancel) 114 = .ok (.iadd, 1) := by decide +kernel
theorem fR_cancel_115 : decode (m_cc M_R_cancel) 115 = .ok (.iastore, 1) := by decide +kernel
theorem fR_cancel_116 : decode (m_cc M_R_cancel) 116 = .ok (.aload_n 0, 1) := by decide +kernel
theorem fR_cancel_117 : decode (m_cc M_R_cancel) 117 = .ok (.aload_n 0, 1) := by decide +kernel
theorem fR_cancel_118 : decode (m_cc M_R_cancel) 118 = .ok (.getfield 40, 3) := by decide +kernel
theorem fR_cancel_121 : decode (m_cc M_R_cancel) 121 = .ok (.iload_n 1, 1) := by decide +kernel
theorem fR_cancel_122 : decode (m_cc M_R_cancel) 122 = .ok (.iaload, 1) := by decide +kernel
theorem fR_cancel_123 : decode (m_cc M_R_cancel) 123 = .ok (.invokevirtual 112, 3) := by decide +kernel
theorem fR_cancel_126 : decode (m_cc M_R_cancel) 126 = .ok (.ifCond .ne 16, 3) := by decide +kernel
theorem fR_cancel_129 : decode (m_cc M_R_cancel) 129 = .ok (.aload_n 0, 1) := by decide +kernel
theorem fR_cancel_130 : decode (m_cc M_R_cancel) 130 = .ok (.getfield 22, 3) := by decide +kernel
theorem fR_cancel_133 : decode (m_cc M_R_cancel) 133 = .ok (.aload_n 0, 1) := by decide +kernel
theorem fR_cancel_134 : decode (m_cc M_R_cancel) 134 = .ok (.getfield 40, 3) := by decide +kernel
theorem fR_cancel_137 : decode (m_cc M_R_cancel) 137 = .ok (.iload_n 1, 1) := by decide +kernel
theorem fR_cancel_138 : decode (m_cc M_R_cancel) 138 = .ok (.iaload, 1) := by decide +kernel
theorem fR_cancel_139 : decode (m_cc M_R_cancel) 139 = .ok (.bipush 6, 2) := by decide +kernel
theorem fR_cancel_141 : decode (m_cc M_R_cancel) 141 = .ok (.iastore, 1) := by decide +kernel
theorem fR_cancel_142 : decode (m_cc M_R_cancel) 142 = .ok (.iload_n 2, 1) := by decide +kernel
theorem fR_cancel_143 : decode (m_cc M_R_cancel) 143 = .ok (.ireturn, 1) := by decide +kernel
theorem fR_join_0 : decode (m_cc M_R_join) 0 = .ok (.aload_n 0, 1) := by decide +kernel
theorem fR_join_1 : decode (m_cc M_R_join) 1 = .ok (.aload_n 0, 1) := by decide +kernel
theorem fR_join_2 : decode (m_cc M_R_join) 2 = .ok (.iload_n 1, 1) := by decide +kernel
theorem fR_join_3 : decode (m_cc M_R_join) 3 = .ok (.invokevirtual 94, 3) := by decide +kernel
theorem fR_join_6 : decode (m_cc M_R_join) 6 = .ok (.ifCond .eq 11, 3) := by decide +kernel
theorem fR_join_9 : decode (m_cc M_R_join) 9 = .ok (.aload_n 0, 1) := by decide +kernel
theorem fR_join_10 : decode (m_cc M_R_join) 10 = .ok (.iload_n 2, 1) := by decide +kernel
theorem fR_join_11 : decode (m_cc M_R_join) 11 = .ok (.invokevirtual 94, 3) := by decide +kernel
theorem fR_join_14 : decode (m_cc M_R_join) 14 = .ok (.ifCond .ne 7, 3) := by decide +kernel
theorem fR_join_17 : decode (m_cc M_R_join) 17 = .ok (.iconst 1, 1) := by decide +kernel
theorem fR_join_18 : decode (m_cc M_R_join) 18 = .ok (.goto 4, 3) := by decide +kernel
theorem fR_join_21 : decode (m_cc M_R_join) 21 = .ok (.iconst 0, 1) := by decide +kernel
theorem fR_join_22 : decode (m_cc M_R_join) 22 = .ok (.putfield 71, 3) := by decide +kernel
theorem fR_join_25 : decode (m_cc M_R_join) 25 = .ok (.aload_n 0, 1) := by decide +kernel
theorem fR_join_26 : decode (m_cc M_R_join) 26 = .ok (.getfield 71, 3) := by decide +kernel
theorem fR_join_29 : decode (m_cc M_R_join) 29 = .ok (.ifCond .ne 64, 3) := by decide +kernel
theorem fR_join_32 : decode (m_cc M_R_join) 32 = .ok (.iload_n 1, 1) := by decide +kernel
theorem fR_join_33 : decode (m_cc M_R_join) 33 = .ok (.iload_n 2, 1) := by decide +kernel
theorem fR_join_34 : decode (m_cc M_R_join) 34 = .ok (.if_icmp .eq 54, 3) := by decide +kernel
theorem fR_join_37 : decode (m_cc M_R_join) 37 = .ok (.aload_n 0, 1) := by decide +kernel
theorem fR_join_38 : decode (m_cc M_R_join) 38 = .ok (.getfield 22, 3) := by decide +kernel
theorem fR_join_41 : decode (m_cc M_R_join) 41 = .ok (.iload_n 1, 1) := by decide +kernel
theorem fR_join_42 : decode (m_cc M_R_join) 42 = .ok (.iaload, 1) := by decide +kernel
theorem fR_join_43 : decode (m_cc M_R_join) 43 = .ok (.ifCond .ne 45, 3) := by decide +kernel
theorem fR_join_46 : decode (m_cc M_R_join) 46 = .ok (.aload_n 0, 1) := by decide +kernel
theorem fR_join_47 : decode (m_cc M_R_join) 47 = .ok (.getfield 22, 3) := by decide +kernel
theorem fR_join_50 : decode (m_cc M_R_join) 50 = .ok (.iload_n 2, 1) := by decide +kernel
theorem fR_join_51 : decode (m_cc M_R_join) 51 = .ok (.iaload, 1) := by decide +kernel
theorem fR_join_52 : decode (m_cc M_R_join) 52 = .ok (.ifCond .ne 36, 3) := by decide +kernel
theorem fR_join_55 : decode (m_cc M_R_join) 55 = .ok (.aload_n 0, 1) := by decide +kernel
theorem fR_join_56 : decode (m_cc M_R_join) 56 = .ok (.getfield 7, 3) := by decide +kernel
theorem fR_join_59 : decode (m_cc M_R_join) 59 = .ok (.iload_n 1, 1) := by decide +kernel
theorem fR_join_60 : decode (m_cc M_R_join) 60 = .ok (.iaload, 1) := by decide +kernel
theorem fR_join_61 : decode (m_cc M_R_join) 61 = .ok (.aload_n 0, 1) := by decide +kernel
theorem fR_join_62 : decode (m_cc M_R_join) 62 = .ok (.getfield 7, 3) := by decide +kernel
theorem fR_join_65 : decode (m_cc M_R_join) 65 = .ok (.iload_n 2, 1) := by decide +kernel
theorem fR_join_66 : decode (m_cc M_R_join) 66 = .ok (.iaload, 1) := by decide +kernel
theorem fR_join_67 : decode (m_cc M_R_join) 67 = .ok (.if_icmp .ne 21, 3) := by decide +kernel
theorem fR_join_70 : decode (m_cc M_R_join) 70 = .ok (.aload_n 0, 1) := by decide +kernel
theorem fR_join_71 : decode (m_cc M_R_join) 71 = .ok (.getfield 25, 3) := by decide +kernel
theorem fR_join_74 : decode (m_cc M_R_join) 74 = .ok (.iload_n 1, 1) := by decide +kernel
theorem fR_join_75 : decode (m_cc M_R_join) 75 = .ok (.iaload, 1) := by decide +kernel
theorem fR_join_76 : decode (m_cc M_R_join) 76 = .ok (.ifCond .ne 12, 3) := by decide +kernel
theorem fR_join_79 : decode (m_cc M_R_join) 79 = .ok (.aload_n 0, 1) := by decide +kernel
theorem fR_join_80 : decode (m_cc M_R_join) 80 = .ok (.getfield 25, 3) := by decide +kernel
theorem fR_join_83 : decode (m_cc M_R_join) 83 = .ok (.iload_n 2, 1) := by decide +kernel
theorem fR_join_84 : decode (m_cc M_R_join) 84 = .ok (.iaload, 1) := by decide +kernel
theorem fR_join_85 : decode (m_cc M_R_join) 85 = .ok (.ifCond .eq 8, 3) := by decide +kernel
theorem fR_join_88 : decode (m_cc M_R_join) 88 = .ok (.aload_n 0, 1) := by decide +kernel
theorem fR_join_89 : decode (m_cc M_R_join) 89 = .ok (.iconst 2, 1) := by decide +kernel
theorem fR_join_90 : decode (m_cc M_R_join) 90 = .ok (.putfield 71, 3) := by decide +kernel
theorem fR_join_93 : decode (m_cc M_R_join) 93 = .ok (.aload_n 0, 1) := by decide +kernel
theorem fR_join_94 : decode (m_cc M_R_join) 94 = .ok (.getfield 71, 3) := by decide +kernel
theorem fR_join_97 : decode (m_cc M_R_join) 97 = .ok (.ifCond .ne 26, 3) := by decide +kernel
theorem fR_join_100 : decode (m_cc M_R_join) 100 = .ok (.aload_n 0, 1) := by decide +kernel
theorem fR_join_101 : decode (m_cc M_R_join) 101 = .ok (.getfield 34, 3) := by decide +kernel
theorem fR_join_104 : decode (m_cc M_R_join) 104 = .ok (.iload_n 1, 1) := by decide +kernel
theorem fR_join_105 : decode (m_cc M_R_join) 105 = .ok (.iaload, 1) := by decide +kernel
theorem fR_join_106 : decode (m_cc M_R_join) 106 = .ok (.aload_n 0, 1) := by decide +kernel
theorem fR_join_107 : decode (m_cc M_R_join) 107 = .ok (.getfield 34, 3) := by decide +kernel
theorem fR_join_110 : decode (m_cc M_R_join) 110 = .ok (.iload_n 2, 1) := by decide +kernel
theorem fR_join_111 : decode (m_cc M_R_join) 111 = .ok (.iaload, 1) := by decide +kernel
theorem fR_join_112 : decode (m_cc M_R_join) 112 = .ok (.iadd, 1) := by decide +kernel
theorem fR_join_113 : decode (m_cc M_R_join) 113 = .ok (.bipush 8, 2) := by decide +kernel
theorem fR_join_115 : decode (m_cc M_R_join) 115 = .ok (.if_icmp .le 8, 3) := by decide +kernel
theorem fR_join_118 : decode (m_cc M_R_join) 118 = .ok (.aload_n 0, 1) := by decide +kernel
theorem fR_join_119 : decode (m_cc M_R_join) 119 = .ok (.iconst 3, 1) := by decide +kernel
theorem fR_join_120 : decode (m_cc M_R_join) 120 = .ok (.putfield 71, 3) := by decide +kernel
theorem fR_join_123 : decode (m_cc M_R_join) 123 = .ok (.aload_n 0, 1) := by decide +kernel
theorem fR_join_124 : decode (m_cc M_R_join) 124 = .ok (.getfield 71, 3) := by decide +kernel
theorem fR_join_127 : decode (m_cc M_R_join) 127 = .ok (.ifCond .le 4, 3) := by decide +kernel
theorem fR_join_130 : decode (m_cc M_R_join) 130 = .ok (.return_, 1) := by decide +kernel
theorem fR_join_131 : decode (m_cc M_R_join) 131 = .ok (.iconst 0, 1) := by decide +kernel
theorem fR_join_132 : decode (m_cc M_R_join) 132 = .ok (.istore_n 3, 1) := by decide +kernel
theorem fR_join_133 : decode (m_cc M_R_join) 133 = .ok (.iload_n 3, 1) := by decide +kernel
theorem fR_join_134 : decode (m_cc M_R_join) 134 = .ok (.aload_n 0, 1) := by decide +kernel
theorem fR_join_135 : decode (m_cc M_R_join) 135 = .ok (.getfield 34, 3) := by decide +kernel
theorem fR_join_138 : decode (m_cc M_R_join) 138 = .ok (.iload_n 2, 1) := by decide +kernel
theorem fR_join_139 : decode (m_cc M_R_join) 139 = .ok (.iaload, 1) := by decide +kernel
theorem fR_join_140 : decode (m_cc M_R_join) 140 = .ok (.if_icmp .ge 20, 3) := by decide +kernel
theorem fR_join_143 : decode (m_cc M_R_join) 143 = .ok (.aload_n 0, 1) := by decide +kernel
theorem fR_join_144 : decode (m_cc M_R_join) 144 = .ok (.iload_n 1, 1) := by decide +kernel
theorem fR_join_145 : decode (m_cc M_R_join) 145 = .ok (.aload_n 0, 1) := by decide +kernel
theorem fR_join_146 : decode (m_cc M_R_join) 146 = .ok (.iload_n 2, 1) := by decide +kernel
theorem fR_join_147 : decode (m_cc M_R_join) 147 = .ok (.iload_n 3, 1) := by decide +kernel
theorem fR_join_148 : decode (m_cc M_R_join) 148 = .ok (.invokevirtual 104, 3) := by decide +kernel
theorem fR_join_151 : decode (m_cc M_R_join) 151 = .ok (.invokevirtual 90, 3) := by decide +kernel
theorem fR_join_154 : decode (m_cc M_R_join) 154 = .ok (.iinc 3 1, 3) := by decide +kernel
theorem fR_join_157 : decode (m_cc M_R_join) 157 = .ok (.goto (-24), 3) := by decide +kernel
theorem fR_join_160 : decode (m_cc M_R_join) 160 = .ok (.aload_n 0, 1) := by decide +kernel
theorem fR_join_161 : decode (m_cc M_R_join) 161 = .ok (.getfield 34, 3) := by decide +kernel
theorem fR_join_164 : decode (m_cc M_R_join) 164 = .ok (.iload_n 2, 1) := by decide +kernel
theorem fR_join_165 : decode (m_cc M_R_join) 165 = .ok (.iconst 0, 1) := by decide +kernel
theorem fR_join_166 : decode (m_cc M_R_join) 166 = .ok (.iastore, 1) := by decide +kernel
theorem fR_join_167 : decode (m_cc M_R_join) 167 = .ok (.aload_n 0, 1) := by decide +kernel
theorem fR_join_168 : decode (m_cc M_R_join) 168 = .ok (.getfield 22, 3) := by decide +kernel
theorem fR_join_171 : decode (m_cc M_R_join) 171 = .ok (.iload_n 2, 1) := by decide +kernel
theorem fR_join_172 : decode (m_cc M_R_join) 172 = .ok (.bipush 7, 2) := by decide +kernel
theorem fR_join_174 : decode (m_cc M_R_join) 174 = .ok (.iastore, 1) := by decide +kernel
theorem fR_join_175 : decode (m_cc M_R_join) 175 = .ok (.aload_n 0, 1) := by decide +kernel
theorem fR_join_176 : decode (m_cc M_R_join) 176 = .ok (.getfield 31, 3) := by decide +kernel
theorem fR_join_179 : decode (m_cc M_R_join) 179 = .ok (.iload_n 2, 1) := by decide +kernel
theorem fR_join_180 : decode (m_cc M_R_join) 180 = .ok (.iload_n 1, 1) := by decide +kernel
theorem fR_join_181 : decode (m_cc M_R_join) 181 = .ok (.iastore, 1) := by decide +kernel
theorem fR_join_182 : decode (m_cc M_R_join) 182 = .ok (.aload_n 0, 1) := by decide +kernel
theorem fR_join_183 : decode (m_cc M_R_join) 183 = .ok (.getfield 28, 3) := by decide +kernel
theorem fR_join_186 : decode (m_cc M_R_join) 186 = .ok (.iload_n 1, 1) := by decide +kernel
theorem fR_join_187 : decode (m_cc M_R_join) 187 = .ok (.dup2, 1) := by decide +kernel
theorem fR_join_188 : decode (m_cc M_R_join) 188 = .ok (.iaload, 1) := by decide +kernel
theorem fR_join_189 : decode (m_cc M_R_join) 189 = .ok (.iconst 1, 1) := by decide +kernel
theorem fR_join_190 : decode (m_cc M_R_join) 190 = .ok (.iadd, 1) := by decide +kernel
theorem fR_join_191 : decode (m_cc M_R_join) 191 = .ok (.iastore, 1) := by decide +kernel
theorem fR_join_192 : decode (m_cc M_R_join) 192 = .ok (.aload_n 0, 1) := by decide +kernel
theorem fR_join_193 : decode (m_cc M_R_join) 193 = .ok (.getfield 28, 3) := by decide +kernel
theorem fR_join_196 : decode (m_cc M_R_join) 196 = .ok (.iload_n 2, 1) := by decide +kernel
theorem fR_join_197 : decode (m_cc M_R_join) 197 = .ok (.dup2, 1) := by decide +kernel
theorem fR_join_198 : decode (m_cc M_R_join) 198 = .ok (.iaload, 1) := by decide +kernel
theorem fR_join_199 : decode (m_cc M_R_join) 199 = .ok (.iconst 1, 1) := by decide +kernel
theorem fR_join_200 : decode (m_cc M_R_join) 200 = .ok (.iadd, 1) := by decide +kernel
theorem fR_join_201 : decode (m_cc M_R_join) 201 = .ok (.iastore, 1) := by decide +kernel
theorem fR_join_202 : decode (m_cc M_R_join) 202 = .ok (.return_, 1) := by decide +kernel
theorem fR_bits_0 : decode (m_cc M_R_bits) 0 = .ok (.iconst 0, 1) := by decide +kernel
theorem fR_bits_1 : decode (m_cc M_R_bits) 1 = .ok (.istore_n 1, 1) := by decide +kernel
theorem fR_bits_2 : decode (m_cc M_R_bits) 2 = .ok (.iconst 0, 1) := by decide +kernel
theorem fR_bits_3 : decode (m_cc M_R_bits) 3 = .ok (.istore_n 2, 1) := by decide +kernel
theorem fR_bits_4 : decode (m_cc M_R_bits) 4 = .ok (.iload_n 2, 1) := by decide +kernel
theorem fR_bits_5 : decode (m_cc M_R_bits) 5 = .ok (.bipush 8, 2) := by decide +kernel
theorem fR_bits_7 : decode (m_cc M_R_bits) 7 = .ok (.if_icmp .ge 17, 3) := by decide +kernel
theorem fR_bits_10 : decode (m_cc M_R_bits) 10 = .ok (.iload_n 1, 1) := by decide +kernel
theorem fR_bits_11 : decode (m_cc M_R_bits) 11 = .ok (.iload_n 0, 1) := by decide +kernel
theorem fR_bits_12 : decode (m_cc M_R_bits) 12 = .ok (.iload_n 2, 1) := by decide +kernel
theorem fR_bits_13 : decode (m_cc M_R_bits) 13 = .ok (.ishr, 1) := by decide +kernel
theorem fR_bits_14 : decode (m_cc M_R_bits) 14 = .ok (.iconst 1, 1) := by decide +kernel
theorem fR_bits_15 : decode (m_cc M_R_bits) 15 = .ok (.iand, 1) := by decide +kernel
theorem fR_bits_16 : decode (m_cc M_R_bits) 16 = .ok (.iadd, 1) := by decide +kernel
theorem fR_bits_17 : decode (m_cc M_R_bits) 17 = .ok (.istore_n 1, 1) := by decide +kernel
theorem fR_bits_18 : decode (m_cc M_R_bits) 18 = .ok (.iinc 2 1, 3) := by decide +kernel
theorem fR_bits_21 : decode (m_cc M_R_bits) 21 = .ok (.goto (-17), 3) := by decide +kernel
theorem fR_bits_24 : decode (m_cc M_R_bits) 24 = .ok (.iload_n 1, 1) := by decide +kernel
theorem fR_bits_25 : decode (m_cc M_R_bits) 25 = .ok (.ireturn, 1) := by decide +kernel
theorem fR_block_0 : decode (m_cc M_R_block) 0 = .ok (.aload_n 0, 1) := by decide +kernel
theorem fR_block_1 : decode (m_cc M_R_block) 1 = .ok (.aload_n 0, 1) := by decide +kernel
theorem fR_block_2 : decode (m_cc M_R_block) 2 = .ok (.iload_n 1, 1) := by decide +kernel
theorem fR_block_3 : decode (m_cc M_R_block) 3 = .ok (.invokevirtual 94, 3) := by decide +kernel
theorem fR_block_6 : decode (m_cc M_R_block) 6 = .ok (.ifCond .ne 7, 3) := by decide +kernel
theorem fR_block_9 : decode (m_cc M_R_block) 9 = .ok (.iconst 1, 1) := by decide +kernel
theorem fR_block_10 : decode (m_cc M_R_block) 10 = .ok (.goto 18, 3) := by decide +kernel
theorem fR_block_13 : decode (m_cc M_R_block) 13 = .ok (.iload_n 2, 1) := by decide +kernel
theorem fR_block_14 : decode (m_cc M_R_block) 14 = .ok (.iconst 0, 1) := by decide +kernel
theorem fR_block_15 : decode (m_cc M_R_block) 15 = .ok (.bipush 7, 2) := by decide +kernel
theorem fR_block_17 : decode (m_cc M_R_block) 17 = .ok (.invokestatic 78, 3) := by decide +kernel
theorem fR_block_20 : decode (m_cc M_R_block) 20 = .ok (.ifCond .ne 7, 3) := by decide +kernel
theorem fR_block_23 : decode (m_cc M_R_block) 23 = .ok (.iconst 2, 1) := by decide +kernel
theorem fR_block_24 : decode (m_cc M_R_block) 24 = .ok (.goto 4, 3) := by decide +kernel
theorem fR_block_27 : decode (m_cc M_R_block) 27 = .ok (.iconst 0, 1) := by decide +kernel
theorem fR_block_28 : decode (m_cc M_R_block) 28 = .ok (.putfield 71, 3) := by decide +kernel
theorem fR_block_31 : decode (m_cc M_R_block) 31 = .ok (.aload_n 0, 1) := by decide +kernel
theorem fR_block_32 : decode (m_cc M_R_block) 32 = .ok (.getfield 71, 3) := by decide +kernel
theorem fR_block_35 : decode (m_cc M_R_block) 35 = .ok (.ifCond .ne 44, 3) := by decide +kernel
theorem fR_block_38 : decode (m_cc M_R_block) 38 = .ok (.aload_n 0, 1) := by decide +kernel
theorem fR_block_39 : decode (m_cc M_R_block) 39 = .ok (.aload_n 0, 1) := by decide +kernel
theorem fR_block_40 : decode (m_cc M_R_block) 40 = .ok (.getfield 22, 3) := by decide +kernel
theorem fR_block_43 : decode (m_cc M_R_block) 43 = .ok (.iload_n 1, 1) := by decide +kernel
theorem fR_block_44 : decode (m_cc M_R_block) 44 = .ok (.iaload, 1) := by decide +kernel
theorem fR_block_45 : decode (m_cc M_R_block) 45 = .ok (.iconst 4, 1) := by decide +kernel
theorem fR_block_46 : decode (m_cc M_R_block) 46 = .ok (.if_icmp .ge 25, 3) := by decide +kernel
theorem fR_block_49 : decode (m_cc M_R_block) 49 = .ok (.aload_n 0, 1) := by decide +kernel
theorem fR_block_50 : decode (m_cc M_R_block) 50 = .ok (.getfield 25, 3) := by decide +kernel
theorem fR_block_53 : decode (m_cc M_R_block) 53 = .ok (.iload_n 1, 1) := by decide +kernel
theorem fR_block_54 : decode (m_cc M_R_block) 54 = .ok (.iaload, 1) := by decide +kernel
theorem fR_block_55 : decode (m_cc M_R_block) 55 = .ok (.iload_n 2, 1) := by decide +kernel
theorem fR_block_56 : decode (m_cc M_R_block) 56 = .ok (.ishr, 1) := by decide +kernel
theorem fR_block_57 : decode (m_cc M_R_block) 57 = .ok (.iconst 1, 1) := by decide +kernel
theorem fR_block_58 : decode (m_cc M_R_block) 58 = .ok (.iand, 1) := by decide +kernel
theorem fR_block_59 : decode (m_cc M_R_block) 59 = .ok (.iload_n 3, 1) := by decide +kernel
theorem fR_block_60 : decode (m_cc M_R_block) 60 = .ok (.ifCond .eq 7, 3) := by decide +kernel
theorem fR_block_63 : decode (m_cc M_R_block) 63 = .ok (.iconst 1, 1) := by decide +kernel
theorem fR_block_64 : decode (m_cc M_R_block) 64 = .ok (.goto 4, 3) := by decide +kernel
theorem fR_block_67 : decode (m_cc M_R_block) 67 = .ok (.iconst 0, 1) := by decide +kernel
theorem fR_block_68 : decode (m_cc M_R_block) 68 = .ok (.if_icmp .ne 7, 3) := by decide +kernel
theorem fR_block_71 : decode (m_cc M_R_block) 71 = .ok (.iconst 3, 1) := by decide +kernel
theorem fR_block_72 : decode (m_cc M_R_block) 72 = .ok (.goto 4, 3) := by decide +kernel
theorem fR_block_75 : decode (m_cc M_R_block) 75 = .ok (.iconst 0, 1) := by decide +kernel
theorem fR_block_76 : decode (m_cc M_R_block) 76 = .ok (.putfield 71, 3) := by decide +kernel
theorem fR_block_79 : decode (m_cc M_R_block) 79 = .ok (.aload_n 0, 1) := by decide +kernel
theorem fR_block_80 : decode (m_cc M_R_block) 80 = .ok (.getfield 71, 3) := by decide +kernel
theorem fR_block_83 : decode (m_cc M_R_block) 83 = .ok (.ifCond .le 5, 3) := by decide +kernel
theorem fR_block_86 : decode (m_cc M_R_block) 86 = .ok (.iconst 0, 1) := by decide +kernel
theorem fR_block_87 : decode (m_cc M_R_block) 87 = .ok (.ireturn, 1) := by decide +kernel
theorem fR_block_88 : decode (m_cc M_R_block) 88 = .ok (.aload_n 0, 1) := by decide +kernel
theorem fR_block_89 : decode (m_cc M_R_block) 89 = .ok (.getfield 25, 3) := by decide +kernel
theorem fR_block_92 : decode (m_cc M_R_block) 92 = .ok (.iload_n 1, 1) := by decide +kernel
theorem fR_block_93 : decode (m_cc M_R_block) 93 = .ok (.dup2, 1) := by decide +kernel
theorem fR_block_94 : decode (m_cc M_R_block) 94 = .ok (.iaload, 1) := by decide +kernel
theorem fR_block_95 : decode (m_cc M_R_block) 95 = .ok (.iconst 1, 1) := by decide +kernel
theorem fR_block_96 : decode (m_cc M_R_block) 96 = .ok (.iload_n 2, 1) := by decide +kernel
theorem fR_block_97 : decode (m_cc M_R_block) 97 = .ok (.ishl, 1) := by decide +kernel
theorem fR_block_98 : decode (m_cc M_R_block) 98 = .ok (.ixor, 1) := by decide +kernel
theorem fR_block_99 : decode (m_cc M_R_block) 99 = .ok (.iastore, 1) := by decide +kernel
theorem fR_block_100 : decode (m_cc M_R_block) 100 = .ok (.aload_n 0, 1) := by decide +kernel
theorem fR_block_101 : decode (m_cc M_R_block) 101 = .ok (.getfield 28, 3) := by decide +kernel
theorem fR_block_104 : decode (m_cc M_R_block) 104 = .ok (.iload_n 1, 1) := by decide +kernel
theorem fR_block_105 : decode (m_cc M_R_block) 105 = .ok (.dup2, 1) := by decide +kernel
theorem fR_block_106 : decode (m_cc M_R_block) 106 = .ok (.iaload, 1) := by decide +kernel
theorem fR_block_107 : decode (m_cc M_R_block) 107 = .ok (.iconst 1, 1) := by decide +kernel
theorem fR_block_108 : decode (m_cc M_R_block) 108 = .ok (.iadd, 1) := by decide +kernel
theorem fR_block_109 : decode (m_cc M_R_block) 109 = .ok (.iastore, 1) := by decide +kernel
theorem fR_block_110 : decode (m_cc M_R_block) 110 = .ok (.aload_n 0, 1) := by decide +kernel
theorem fR_block_111 : decode (m_cc M_R_block) 111 = .ok (.getfield 25, 3) := by decide +kernel
theorem fR_block_114 : decode (m_cc M_R_block) 114 = .ok (.iload_n 1, 1) := by decide +kernel
theorem fR_block_115 : decode (m_cc M_R_block) 115 = .ok (.iaload, 1) := by decide +kernel
theorem fR_block_116 : decode (m_cc M_R_block) 116 = .ok (.invokestatic 125, 3) := by decide +kernel
theorem fR_block_119 : decode (m_cc M_R_block) 119 = .ok (.ireturn, 1) := by decide +kernel
theorem fR_backorder_0 : decode (m_cc M_R_backorder) 0 = .ok (.aload_n 0, 1) := by decide +kernel
theorem fR_backorder_1 : decode (m_cc M_R_backorder) 1 = .ok (.aload_n 0, 1) := by decide +kernel
theorem fR_backorder_2 : decode (m_cc M_R_backorder) 2 = .ok (.iload_n 1, 1) := by decide +kernel
theorem fR_backorder_3 : decode (m_cc M_R_backorder) 3 = .ok (.invokevirtual 101, 3) := by decide +kernel
theorem fR_backorder_6 : decode (m_cc M_R_backorder) 6 = .ok (.ifCond .ne 7, 3) := by decide +kernel
theorem fR_backorder_9 : decode (m_cc M_R_backorder) 9 = .ok (.iconst 1, 1) := by decide +kernel
theorem fR_backorder_10 : decode (m_cc M_R_backorder) 10 = .ok (.goto 4, 3) := by decide +kernel
theorem fR_backorder_13 : decode (m_cc M_R_backorder) 13 = .ok (.iconst 0, 1) := by decide +kernel
theorem fR_backorder_14 : decode (m_cc M_R_backorder) 14 = .ok (.putfield 71, 3) := by decide +kernel
theorem fR_backorder_17 : decode (m_cc M_R_backorder) 17 = .ok (.aload_n 0, 1) := by decide +kernel
theorem fR_backorder_18 : decode (m_cc M_R_backorder) 18 = .ok (.getfield 71, 3) := by decide +kernel
theorem fR_backorder_21 : decode (m_cc M_R_backorder) 21 = .ok (.ifCond .ne 62, 3) := by decide +kernel
theorem fR_backorder_24 : decode (m_cc M_R_backorder) 24 = .ok (.aload_n 0, 1) := by decide +kernel
theorem fR_backorder_25 : decode (m_cc M_R_backorder) 25 = .ok (.aload_n 0, 1) := by decide +kernel
theorem fR_backorder_26 : decode (m_cc M_R_backorder) 26 = .ok (.getfield 22, 3) := by decide +kernel
theorem fR_backorder_29 : decode (m_cc M_R_backorder) 29 = .ok (.aload_n 0, 1) := by decide +kernel
theorem fR_backorder_30 : decode (m_cc M_R_backorder) 30 = .ok (.getfield 40, 3) := by decide +kernel
theorem fR_backorder_33 : decode (m_cc M_R_backorder) 33 = .ok (.iload_n 1, 1) := by decide +kernel
theorem fR_backorder_34 : decode (m_cc M_R_backorder) 34 = .ok (.iaload, 1) := by decide +kernel
theorem fR_backorder_35 : decode (m_cc M_R_backorder) 35 = .ok (.iaload, 1) := by decide +kernel
theorem fR_backorder_36 : decode (m_cc M_R_backorder) 36 = .ok (.iconst 4, 1) := by decide +kernel
theorem fR_backorder_37 : decode (m_cc M_R_backorder) 37 = .ok (.if_icmp .ne 38, 3) := by decide +kernel
theorem fR_backorder_40 : decode (m_cc M_R_backorder) 40 = .ok (.aload_n 0, 1) := by decide +kernel
theorem fR_backorder_41 : decode (m_cc M_R_backorder) 41 = .ok (.getfield 64, 3) := by decide +kernel
theorem fR_backorder_44 : decode (m_cc M_R_backorder) 44 = .ok (.iload_n 1, 1) := by decide +kernel
theorem fR_backorder_45 : decode (m_cc M_R_backorder) 45 = .ok (.baload, 1) := by decide +kernel
theorem fR_backorder_46 : decode (m_cc M_R_backorder) 46 = .ok (.ifCond .eq 29, 3) := by decide +kernel
theorem fR_backorder_49 : decode (m_cc M_R_backorder) 49 = .ok (.aload_n 0, 1) := by decide +kernel
theorem fR_backorder_50 : decode (m_cc M_R_backorder) 50 = .ok (.iload_n 1, 1) := by decide +kernel
theorem fR_backorder_51 : decode (m_cc M_R_backorder) 51 = .ok (.iconst 4, 1) := by decide +kernel
theorem fR_backorder_52 : decode (m_cc M_R_backorder) 52 = .ok (.invokevirtual 108, 3) := by decide +kernel
theorem fR_backorder_55 : decode (m_cc M_R_backorder) 55 = .ok (.ifCond .eq 20, 3) := by decide +kernel
theorem fR_backorder_58 : decode (m_cc M_R_backorder) 58 = .ok (.aload_n 0, 1) := by decide +kernel
theorem fR_backorder_59 : decode (m_cc M_R_backorder) 59 = .ok (.iload_n 1, 1) := by decide +kernel
theorem fR_backorder_60 : decode (m_cc M_R_backorder) 60 = .ok (.invokevirtual 119, 3) := by decide +kernel
theorem fR_backorder_63 : decode (m_cc M_R_backorder) 63 = .ok (.ifCond .eq 12, 3) := by decide +kernel
theorem fR_backorder_66 : decode (m_cc M_R_backorder) 66 = .ok (.aload_n 0, 1) := by decide +kernel
theorem fR_backorder_67 : decode (m_cc M_R_backorder) 67 = .ok (.getfield 68, 3) := by decide +kernel
theorem fR_backorder_70 : decode (m_cc M_R_backorder) 70 = .ok (.iload_n 1, 1) := by decide +kernel
theorem fR_backorder_71 : decode (m_cc M_R_backorder) 71 = .ok (.baload, 1) := by decide +kernel
theorem fR_backorder_72 : decode (m_cc M_R_backorder) 72 = .ok (.ifCond .eq 7, 3) := by decide +kernel
theorem fR_backorder_75 : decode (m_cc M_R_backorder) 75 = .ok (.iconst 2, 1) := by decide +kernel
theorem fR_backorder_76 : decode (m_cc M_R_backorder) 76 = .ok (.goto 4, 3) := by decide +kernel
theorem fR_backorder_79 : decode (m_cc M_R_backorder) 79 = .ok (.iconst 0, 1) := by decide +kernel
theorem fR_backorder_80 : decode (m_cc M_R_backorder) 80 = .ok (.putfield 71, 3) := by decide +kernel
theorem fR_backorder_83 : decode (m_cc M_R_backorder) 83 = .ok (.aload_n 0, 1) := by decide +kernel
theorem fR_backorder_84 : decode (m_cc M_R_backorder) 84 = .ok (.getfield 71, 3) := by decide +kernel
theorem fR_backorder_87 : decode (m_cc M_R_backorder) 87 = .ok (.ifCond .ne 30, 3) := by decide +kernel
theorem fR_backorder_90 : decode (m_cc M_R_backorder) 90 = .ok (.aload_n 0, 1) := by decide +kernel
theorem fR_backorder_91 : decode (m_cc M_R_backorder) 91 = .ok (.aload_n 0, 1) := by decide +kernel
theorem fR_backorder_92 : decode (m_cc M_R_backorder) 92 = .ok (.getfield 75, 3) := by decide +kernel
theorem fR_backorder_95 : decode (m_cc M_R_backorder) 95 = .ok (.bipush 20, 2) := by decide +kernel
theorem fR_backorder_97 : decode (m_cc M_R_backorder) 97 = .ok (.if_icmp .eq 12, 3) := by decide +kernel
theorem fR_backorder_100 : decode (m_cc M_R_backorder) 100 = .ok (.aload_n 0, 1) := by decide +kernel
theorem fR_backorder_101 : decode (m_cc M_R_backorder) 101 = .ok (.getfield 82, 3) := by decide +kernel
theorem fR_backorder_104 : decode (m_cc M_R_backorder) 104 = .ok (.bipush 60, 2) := by decide +kernel
theorem fR_backorder_106 : decode (m_cc M_R_backorder) 106 = .ok (.if_icmp .ne 7, 3) := by decide +kernel
theorem fR_backorder_109 : decode (m_cc M_R_backorder) 109 = .ok (.iconst 3, 1) := by decide +kernel
theorem fR_backorder_110 : decode (m_cc M_R_backorder) 110 = .ok (.goto 4, 3) := by decide +kernel
theorem fR_backorder_113 : decode (m_cc M_R_backorder) 113 = .ok (.iconst 0, 1) := by decide +kernel
theorem fR_backorder_114 : decode (m_cc M_R_backorder) 114 = .ok (.putfield 71, 3) := by decide +kernel
theorem fR_backorder_117 : decode (m_cc M_R_backorder) 117 = .ok (.aload_n 0, 1) := by decide +kernel
theorem fR_backorder_118 : decode (m_cc M_R_backorder) 118 = .ok (.getfield 71, 3) := by decide +kernel
theorem fR_backorder_121 : decode (m_cc M_R_backorder) 121 = .ok (.ifCond .le 5, 3) := by decide +kernel
theorem fR_backorder_124 : decode (m_cc M_R_backorder) 124 = .ok (.iconst 0, 1) := by decide +kernel
theorem fR_backorder_125 : decode (m_cc M_R_backorder) 125 = .ok (.ireturn, 1) := by decide +kernel
theorem fR_backorder_126 : decode (m_cc M_R_backorder) 126 = .ok (.aload_n 0, 1) := by decide +kernel
theorem fR_backorder_127 : decode (m_cc M_R_backorder) 127 = .ok (.getfield 40, 3) := by decide +kernel
theorem fR_backorder_130 : decode (m_cc M_R_backorder) 130 = .ok (.iload_n 1, 1) := by decide +kernel
theorem fR_backorder_131 : decode (m_cc M_R_backorder) 131 = .ok (.iaload, 1) := by decide +kernel
theorem fR_backorder_132 : decode (m_cc M_R_backorder) 132 = .ok (.istore_n 2, 1) := by decide +kernel
theorem fR_backorder_133 : decode (m_cc M_R_backorder) 133 = .ok (.aload_n 0, 1) := by decide +kernel
theorem fR_backorder_134 : decode (m_cc M_R_backorder) 134 = .ok (.getfield 68, 3) := by decide +kernel
theorem fR_backorder_137 : decode (m_cc M_R_backorder) 137 = .ok (.iload_n 1, 1) := by decide +kernel
theorem fR_backorder_138 : decode (m_cc M_R_backorder) 138 = .ok (.iconst 1, 1) := by decide +kernel
theorem fR_backorder_139 : decode (m_cc M_R_backorder) 139 = .ok (.bastore, 1) := by decide +kernel
theorem fR_backorder_140 : decode (m_cc M_R_backorder) 140 = .ok (.aload_n 0, 1) := by decide +kernel
theorem fR_backorder_141 : decode (m_cc M_R_backorder) 141 = .ok (.aload_n 0, 1) := by decide +kernel
theorem fR_backorder_142 : decode (m_cc M_R_backorder) 142 = .ok (.aload_n 0, 1) := by decide +kernel
theorem fR_backorder_143 : decode (m_cc M_R_backorder) 143 = .ok (.getfield 7, 3) := by decide +kernel
theorem fR_backorder_146 : decode (m_cc M_R_backorder) 146 = .ok (.iload_n 2, 1) := by decide +kernel
theorem fR_backorder_147 : decode (m_cc M_R_backorder) 147 = .ok (.iaload, 1) := by decide +kernel
theorem fR_backorder_148 : decode (m_cc M_R_backorder) 148 = .ok (.iconst 0, 1) := by decide +kernel
theorem fR_backorder_149 : decode (m_cc M_R_backorder) 149 = .ok (.aload_n 0, 1) := by decide +kernel
theorem fR_backorder_150 : decode (m_cc M_R_backorder) 150 = .ok (.getfield 16, 3) := by decide +kernel
theorem fR_backorder_153 : decode (m_cc M_R_backorder) 153 = .ok (.iload_n 2, 1) := by decide +kernel
theorem fR_backorder_154 : decode (m_cc M_R_backorder) 154 = .ok (.iaload, 1) := by decide +kernel
theorem fR_backorder_155 : decode (m_cc M_R_backorder) 155 = .ok (.aload_n 0, 1) := by decide +kernel
theorem fR_backorder_156 : decode (m_cc M_R_backorder) 156 = .ok (.getfield 19, 3) := by decide +kernel
theorem fR_backorder_159 : decode (m_cc M_R_backorder) 159 = .ok (.iload_n 2, 1) := by decide +kernel
theorem fR_backorder_160 : decode (m_cc M_R_backorder) 160 = .ok (.iaload, 1) := by decide +kernel
theorem fR_backorder_161 : decode (m_cc M_R_backorder) 161 = .ok (.invokevirtual 86, 3) := by decide +kernel
theorem fR_backorder_164 : decode (m_cc M_R_backorder) 164 = .ok (.aload_n 0, 1) := by decide +kernel
theorem fR_backorder_165 : decode (m_cc M_R_backorder) 165 = .ok (.getfield 43, 3) := by decide +kernel
theorem fR_backorder_168 : decode (m_cc M_R_backorder) 168 = .ok (.iload_n 1, 1) := by decide +kernel
theorem fR_backorder_169 : decode (m_cc M_R_backorder) 169 = .ok (.iaload, 1) := by decide +kernel
theorem fR_backorder_170 : decode (m_cc M_R_backorder) 170 = .ok (.aload_n 0, 1) := by decide +kernel
theorem fR_backorder_171 : decode (m_cc M_R_backorder) 171 = .ok (.iload_n 1, 1) := by decide +kernel
theorem fR_backorder_172 : decode (m_cc M_R_backorder) 172 = .ok (.invokevirtual 119, 3) := by decide +kernel
theorem fR_backorder_175 : decode (m_cc M_R_backorder) 175 = .ok (.aload_n 0, 1) := by decide +kernel
theorem fR_backorder_176 : decode (m_cc M_R_backorder) 176 = .ok (.getfield 49, 3) := by decide +kernel
theorem fR_backorder_179 : decode (m_cc M_R_backorder) 179 = .ok (.iload_n 1, 1) := by decide +kernel
theorem fR_backorder_180 : decode (m_cc M_R_backorder) 180 = .ok (.iaload, 1) := by decide +kernel
theorem fR_backorder_181 : decode (m_cc M_R_backorder) 181 = .ok (.invokevirtual 98, 3) := by decide +kernel
theorem fR_backorder_184 : decode (m_cc M_R_backorder) 184 = .ok (.ireturn, 1) := by decide +kernel
theorem fR_isBefore_0 : decode (m_cc M_R_isBefore) 0 = .ok (.aload_n 0, 1) := by decide +kernel
theorem fR_isBefore_1 : decode (m_cc M_R_isBefore) 1 = .ok (.getfield 16, 3) := by decide +kernel
theorem fR_isBefore_4 : decode (m_cc M_R_isBefore) 4 = .ok (.iload_n 1, 1) := by decide +kernel
theorem fR_isBefore_5 : decode (m_cc M_R_isBefore) 5 = .ok (.iaload, 1) := by decide +kernel
theorem fR_isBefore_6 : decode (m_cc M_R_isBefore) 6 = .ok (.aload_n 0, 1) := by decide +kernel
theorem fR_isBefore_7 : decode (m_cc M_R_isBefore) 7 = .ok (.getfield 16, 3) := by decide +kernel
theorem fR_isBefore_10 : decode (m_cc M_R_isBefore) 10 = .ok (.iload_n 2, 1) := by decide +kernel
theorem fR_isBefore_11 : decode (m_cc M_R_isBefore) 11 = .ok (.iaload, 1) := by decide +kernel
theorem fR_isBefore_12 : decode (m_cc M_R_isBefore) 12 = .ok (.if_icmp .eq 24, 3) := by decide +kernel
theorem fR_isBefore_15 : decode (m_cc M_R_isBefore) 15 = .ok (.aload_n 0, 1) := by decide +kernel
theorem fR_isBefore_16 : decode (m_cc M_R_isBefore) 16 = .ok (.getfield 16, 3) := by decide +kernel
theorem fR_isBefore_19 : decode (m_cc M_R_isBefore) 19 = .ok (.iload_n 1, 1) := by decide +kernel
theorem fR_isBefore_20 : decode (m_cc M_R_isBefore) 20 = .ok (.iaload, 1) := by decide +kernel
theorem fR_isBefore_21 : decode (m_cc M_R_isBefore) 21 = .ok (.aload_n 0, 1) := by decide +kernel
theorem fR_isBefore_22 : decode (m_cc M_R_isBefore) 22 = .ok (.getfield 16, 3) := by decide +kernel
theorem fR_isBefore_25 : decode (m_cc M_R_isBefore) 25 = .ok (.iload_n 2, 1) := by decide +kernel
theorem fR_isBefore_26 : decode (m_cc M_R_isBefore) 26 = .ok (.iaload, 1) := by decide +kernel
theorem fR_isBefore_27 : decode (m_cc M_R_isBefore) 27 = .ok (.if_icmp .ge 7, 3) := by decide +kernel
theorem fR_isBefore_30 : decode (m_cc M_R_isBefore) 30 = .ok (.iconst 1, 1) := by decide +kernel
theorem fR_isBefore_31 : decode (m_cc M_R_isBefore) 31 = .ok (.goto 4, 3) := by decide +kernel
theorem fR_isBefore_34 : decode (m_cc M_R_isBefore) 34 = .ok (.iconst 0, 1) := by decide +kernel
theorem fR_isBefore_35 : decode (m_cc M_R_isBefore) 35 = .ok (.ireturn, 1) := by decide +kernel
theorem fR_isBefore_36 : decode (m_cc M_R_isBefore) 36 = .ok (.aload_n 0, 1) := by decide +kernel
theorem fR_isBefore_37 : decode (m_cc M_R_isBefore) 37 = .ok (.getfield 19, 3) := by decide +kernel
theorem fR_isBefore_40 : decode (m_cc M_R_isBefore) 40 = .ok (.iload_n 1, 1) := by decide +kernel
theorem fR_isBefore_41 : decode (m_cc M_R_isBefore) 41 = .ok (.iaload, 1) := by decide +kernel
theorem fR_isBefore_42 : decode (m_cc M_R_isBefore) 42 = .ok (.aload_n 0, 1) := by decide +kernel
theorem fR_isBefore_43 : decode (m_cc M_R_isBefore) 43 = .ok (.getfield 19, 3) := by decide +kernel
theorem fR_isBefore_46 : decode (m_cc M_R_isBefore) 46 = .ok (.iload_n 2, 1) := by decide +kernel
theorem fR_isBefore_47 : decode (m_cc M_R_isBefore) 47 = .ok (.iaload, 1) := by decide +kernel
theorem fR_isBefore_48 : decode (m_cc M_R_isBefore) 48 = .ok (.if_icmp .eq 26, 3) := by decide +kernel
theorem fR_isBefore_51 : decode (m_cc M_R_isBefore) 51 = .ok (.aload_n 0, 1) := by decide +kernel
theorem fR_isBefore_52 : decode (m_cc M_R_isBefore) 52 = .ok (.getfield 19, 3) := by decide +kernel
theorem fR_isBefore_55 : decode (m_cc M_R_isBefore) 55 = .ok (.iload_n 1, 1) := by decide +kernel
theorem fR_isBefore_56 : decode (m_cc M_R_isBefore) 56 = .ok (.iaload, 1) := by decide +kernel
theorem fR_isBefore_57 : decode (m_cc M_R_isBefore) 57 = .ok (.aload_n 0, 1) := by decide +kernel
theorem fR_isBefore_58 : decode (m_cc M_R_isBefore) 58 = .ok (.getfield 19, 3) := by decide +kernel
theorem fR_isBefore_61 : decode (m_cc M_R_isBefore) 61 = .ok (.iload_n 2, 1) := by decide +kernel
theorem fR_isBefore_62 : decode (m_cc M_R_isBefore) 62 = .ok (.iaload, 1) := by decide +kernel
theorem fR_isBefore_63 : decode (m_cc M_R_isBefore) 63 = .ok (.if_icmp .ge 7, 3) := by decide +kernel
theorem fR_isBefore_66 : decode (m_cc M_R_isBefore) 66 = .ok (.iconst 1, 1) := by decide +kernel
theorem fR_isBefore_67 : decode (m_cc M_R_isBefore) 67 = .ok (.goto 17, 3) := by decide +kernel
theorem fR_isBefore_70 : decode (m_cc M_R_isBefore) 70 = .ok (.iconst 0, 1) := by decide +kernel
theorem fR_isBefore_71 : decode (m_cc M_R_isBefore) 71 = .ok (.goto 13, 3) := by decide +kernel
theorem fR_isBefore_74 : decode (m_cc M_R_isBefore) 74 = .ok (.iload_n 1, 1) := by decide +kernel
theorem fR_isBefore_75 : decode (m_cc M_R_isBefore) 75 = .ok (.iload_n 2, 1) := by decide +kernel
theorem fR_isBefore_76 : decode (m_cc M_R_isBefore) 76 = .ok (.if_icmp .ge 7, 3) := by decide +kernel
theorem fR_isBefore_79 : decode (m_cc M_R_isBefore) 79 = .ok (.iconst 1, 1) := by decide +kernel
theorem fR_isBefore_80 : decode (m_cc M_R_isBefore) 80 = .ok (.goto 4, 3) := by decide +kernel
theorem fR_isBefore_83 : decode (m_cc M_R_isBefore) 83 = .ok (.iconst 0, 1) := by decide +kernel
theorem fR_isBefore_84 : decode (m_cc M_R_isBefore) 84 = .ok (.ireturn, 1) := by decide +kernel
theorem fR_isWaiting_0 : decode (m_cc M_R_isWaiting) 0 = .ok (.aload_n 0, 1) := by decide +kernel
theorem fR_isWaiting_1 : decode (m_cc M_R_isWaiting) 1 = .ok (.getfield 22, 3) := by decide +kernel
theorem fR_isWaiting_4 : decode (m_cc M_R_isWaiting) 4 = .ok (.iload_n 1, 1) := by decide +kernel
theorem fR_isWaiting_5 : decode (m_cc M_R_isWaiting) 5 = .ok (.iaload, 1) := by decide +kernel
theorem fR_isWaiting_6 : decode (m_cc M_R_isWaiting) 6 = .ok (.iconst 1, 1) := by decide +kernel
theorem fR_isWaiting_7 : decode (m_cc M_R_isWaiting) 7 = .ok (.if_icmp .gt 16, 3) := by decide +kernel
theorem fR_isWaiting_10 : decode (m_cc M_R_isWaiting) 10 = .ok (.aload_n 0, 1) := by decide +kernel
theorem fR_isWaiting_11 : decode (m_cc M_R_isWaiting) 11 = .ok (.getfield 25, 3) := by decide +kernel
theorem fR_isWaiting_14 : decode (m_cc M_R_isWaiting) 14 = .ok (.iload_n 1, 1) := by decide +kernel
theorem fR_isWaiting_15 : decode (m_cc M_R_isWaiting) 15 = .ok (.iaload, 1) := by decide +kernel
theorem fR_isWaiting_16 : decode (m_cc M_R_isWaiting) 16 = .ok (.ifCond .ne 7, 3) := by decide +kernel
theorem fR_isWaiting_19 : decode (m_cc M_R_isWaiting) 19 = .ok (.iconst 1, 1) := by decide +kernel
theorem fR_isWaiting_20 : decode (m_cc M_R_isWaiting) 20 = .ok (.goto 4, 3) := by decide +kernel
theorem fR_isWaiting_23 : decode (m_cc M_R_isWaiting) 23 = .ok (.iconst 0, 1) := by decide +kernel
theorem fR_isWaiting_24 : decode (m_cc M_R_isWaiting) 24 = .ok (.ireturn, 1) := by decide +kernel
theorem fR_ready_0 : decode (m_cc M_R_ready) 0 = .ok (.aload_n 0, 1) := by decide +kernel
theorem fR_ready_1 : decode (m_cc M_R_ready) 1 = .ok (.iload_n 1, 1) := by decide +kernel
theorem fR_ready_2 : decode (m_cc M_R_ready) 2 = .ok (.ifCond .ge 7, 3) := by decide +kernel
theorem fR_ready_5 : decode (m_cc M_R_ready) 5 = .ok (.iconst 1, 1) := by decide +kernel
theorem fR_ready_6 : decode (m_cc M_R_ready) 6 = .ok (.goto 4, 3) := by decide +kernel
theorem fR_ready_9 : decode (m_cc M_R_ready) 9 = .ok (.iconst 0, 1) := by decide +kernel
theorem fR_ready_10 : decode (m_cc M_R_ready) 10 = .ok (.putfield 71, 3) := by decide +kernel
theorem fR_ready_13 : decode (m_cc M_R_ready) 13 = .ok (.iconst 0, 1) := by decide +kernel
theorem fR_ready_14 : decode (m_cc M_R_ready) 14 = .ok (.istore_n 2, 1) := by decide +kernel
theorem fR_ready_15 : decode (m_cc M_R_ready) 15 = .ok (.iload_n 2, 1) := by decide +kernel
theorem fR_ready_16 : decode (m_cc M_R_ready) 16 = .ok (.aload_n 0, 1) := by decide +kernel
theorem fR_ready_17 : decode (m_cc M_R_ready) 17 = .ok (.getfield 75, 3) := by decide +kernel
theorem fR_ready_20 : decode (m_cc M_R_ready) 20 = .ok (.if_icmp .ge 81, 3) := by decide +kernel
theorem fR_ready_23 : decode (m_cc M_R_ready) 23 = .ok (.aload_n 0, 1) := by decide +kernel
theorem fR_ready_24 : decode (m_cc M_R_ready) 24 = .ok (.getfield 71, 3) := by decide +kernel
theorem fR_ready_27 : decode (m_cc M_R_ready) 27 = .ok (.ifCond .ne 74, 3) := by decide +kernel
theorem fR_ready_30 : decode (m_cc M_R_ready) 30 = .ok (.aload_n 0, 1) := by decide +kernel
theorem fR_ready_31 : decode (m_cc M_R_ready) 31 = .ok (.iload_n 2, 1) := by decide +kernel
theorem fR_ready_32 : decode (m_cc M_R_ready) 32 = .ok (.invokevirtual 128, 3) := by decide +kernel
theorem fR_ready_35 : decode (m_cc M_R_ready) 35 = .ok (.ifCond .ne 6, 3) := by decide +kernel
theorem fR_ready_38 : decode (m_cc M_R_ready) 38 = .ok (.goto 57, 3) := by decide +kernel
theorem fR_ready_41 : decode (m_cc M_R_ready) 41 = .ok (.iconst 0, 1) := by decide +kernel
theorem fR_ready_42 : decode (m_cc M_R_ready) 42 = .ok (.istore_n 3, 1) := by decide +kernel
theorem fR_ready_43 : decode (m_cc M_R_ready) 43 = .ok (.iconst 0, 1) := by decide +kernel
theorem fR_ready_44 : decode (m_cc M_R_ready) 44 = .ok (.istore 4, 2) := by decide +kernel
theorem fR_ready_46 : decode (m_cc M_R_ready) 46 = .ok (.iload 4, 2) := by decide +kernel
theorem fR_ready_48 : decode (m_cc M_R_ready) 48 = .ok (.aload_n 0, 1) := by decide +kernel
theorem fR_ready_49 : decode (m_cc M_R_ready) 49 = .ok (.getfield 75, 3) := by decide +kernel
theorem fR_ready_52 : decode (m_cc M_R_ready) 52 = .ok (.if_icmp .ge 36, 3) := by decide +kernel
theorem fR_ready_55 : decode (m_cc M_R_ready) 55 = .ok (.iload_n 3, 1) := by decide +kernel
theorem fR_ready_56 : decode (m_cc M_R_ready) 56 = .ok (.aload_n 0, 1) := by decide +kernel
theorem fR_ready_57 : decode (m_cc M_R_ready) 57 = .ok (.iload 4, 2) := by decide +kernel
theorem fR_ready_59 : decode (m_cc M_R_ready) 59 = .ok (.invokevirtual 128, 3) := by decide +kernel
theorem fR_ready_62 : decode (m_cc M_R_ready) 62 = .ok (.ifCond .eq 17, 3) := by decide +kernel
theorem fR_ready_65 : decode (m_cc M_R_ready) 65 = .ok (.aload_n 0, 1) := by decide +kernel
theorem fR_ready_66 : decode (m_cc M_R_ready) 66 = .ok (.iload 4, 2) := by decide +kernel
theorem fR_ready_68 : decode (m_cc M_R_ready) 68 = .ok (.iload_n 2, 1) := by decide +kernel
theorem fR_ready_69 : decode (m_cc M_R_ready) 69 = .ok (.invokevirtual 131, 3) := by decide +kernel
theorem fR_ready_72 : decode (m_cc M_R_ready) 72 = .ok (.ifCond .eq 7, 3) := by decide +kernel
theorem fR_ready_75 : decode (m_cc M_R_ready) 75 = .ok (.iconst 1, 1) := by decide +kernel
theorem fR_ready_76 : decode (m_cc M_R_ready) 76 = .ok (.goto 4, 3) := by decide +kernel
theorem fR_ready_79 : decode (m_cc M_R_ready) 79 = .ok (.iconst 0, 1) := by decide +kernel
theorem fR_ready_80 : decode (m_cc M_R_ready) 80 = .ok (.iadd, 1) := by decide +kernel
theorem fR_ready_81 : decode (m_cc M_R_ready) 81 = .ok (.istore_n 3, 1) := by decide +kernel
theorem fR_ready_82 : decode (m_cc M_R_ready) 82 = .ok (.iinc 4 1, 3) := by decide +kernel
theorem fR_ready_85 : decode (m_cc M_R_ready) 85 = .ok (.goto (-39), 3) := by decide +kernel
theorem fR_ready_88 : decode (m_cc M_R_ready) 88 = .ok (.iload_n 3, 1) := by decide +kernel
theorem fR_ready_89 : decode (m_cc M_R_ready) 89 = .ok (.iload_n 1, 1) := by decide +kernel
theorem fR_ready_90 : decode (m_cc M_R_ready) 90 = .ok (.if_icmp .ne 5, 3) := by decide +kernel
theorem fR_ready_93 : decode (m_cc M_R_ready) 93 = .ok (.iload_n 2, 1) := by decide +kernel
theorem fR_ready_94 : decode (m_cc M_R_ready) 94 = .ok (.ireturn, 1) := by decide +kernel
theorem fR_ready_95 : decode (m_cc M_R_ready) 95 = .ok (.iinc 2 1, 3) := by decide +kernel
theorem fR_ready_98 : decode (m_cc M_R_ready) 98 = .ok (.goto (-83), 3) := by decide +kernel
theorem fR_ready_101 : decode (m_cc M_R_ready) 101 = .ok (.aload_n 0, 1) := by decide +kernel
theorem fR_ready_102 : decode (m_cc M_R_ready) 102 = .ok (.getfield 71, 3) := by decide +kernel
theorem fR_ready_105 : decode (m_cc M_R_ready) 105 = .ok (.ifCond .le 7, 3) := by decide +kernel
theorem fR_ready_108 : decode (m_cc M_R_ready) 108 = .ok (.iconst 0, 1) := by decide +kernel
theorem fR_ready_109 : decode (m_cc M_R_ready) 109 = .ok (.goto 4, 3) := by decide +kernel
theorem fR_ready_112 : decode (m_cc M_R_ready) 112 = .ok (.iconst (-1), 1) := by decide +kernel
theorem fR_ready_113 : decode (m_cc M_R_ready) 113 = .ok (.ireturn, 1) := by decide +kernel
theorem fR_told_0 : decode (m_cc M_R_told) 0 = .ok (.aload_n 0, 1) := by decide +kernel
theorem fR_told_1 : decode (m_cc M_R_told) 1 = .ok (.aload_n 0, 1) := by decide +kernel
theorem fR_told_2 : decode (m_cc M_R_told) 2 = .ok (.iload_n 1, 1) := by decide +kernel
theorem fR_told_3 : decode (m_cc M_R_told) 3 = .ok (.invokevirtual 94, 3) := by decide +kernel
theorem fR_told_6 : decode (m_cc M_R_told) 6 = .ok (.ifCond .ne 7, 3) := by decide +kernel
theorem fR_told_9 : decode (m_cc M_R_told) 9 = .ok (.iconst 1, 1) := by decide +kernel
theorem fR_told_10 : decode (m_cc M_R_told) 10 = .ok (.goto 18, 3) := by decide +kernel
theorem fR_told_13 : decode (m_cc M_R_told) 13 = .ok (.iload_n 2, 1) := by decide +kernel
theorem fR_told_14 : decode (m_cc M_R_told) 14 = .ok (.iconst 0, 1) := by decide +kernel
theorem fR_told_15 : decode (m_cc M_R_told) 15 = .ok (.bipush 9, 2) := by decide +kernel
theorem fR_told_17 : decode (m_cc M_R_told) 17 = .ok (.invokestatic 78, 3) := by decide +kernel
theorem fR_told_20 : decode (m_cc M_R_told) 20 = .ok (.ifCond .ne 7, 3) := by decide +kernel
theorem fR_told_23 : decode (m_cc M_R_told) 23 = .ok (.iconst 2, 1) := by decide +kernel
theorem fR_told_24 : decode (m_cc M_R_told) 24 = .ok (.goto 4, 3) := by decide +kernel
theorem fR_told_27 : decode (m_cc M_R_told) 27 = .ok (.iconst 0, 1) := by decide +kernel
theorem fR_told_28 : decode (m_cc M_R_told) 28 = .ok (.putfield 71, 3) := by decide +kernel
theorem fR_told_31 : decode (m_cc M_R_told) 31 = .ok (.aload_n 0, 1) := by decide +kernel
theorem fR_told_32 : decode (m_cc M_R_told) 32 = .ok (.getfield 71, 3) := by decide +kernel
theorem fR_told_35 : decode (m_cc M_R_told) 35 = .ok (.ifCond .le 5, 3) := by decide +kernel
theorem fR_told_38 : decode (m_cc M_R_told) 38 = .ok (.iconst 0, 1) := by decide +kernel
theorem fR_told_39 : decode (m_cc M_R_told) 39 = .ok (.ireturn, 1) := by decide +kernel
theorem fR_told_40 : decode (m_cc M_R_told) 40 = .ok (.iload_n 2, 1) := by decide +kernel
theorem fR_told_41 : decode (m_cc M_R_told) 41 = .ok (.ifCond .ne 10, 3) := by decide +kernel
theorem fR_told_44 : decode (m_cc M_R_told) 44 = .ok (.aload_n 0, 1) := by decide +kernel
theorem fR_told_45 : decode (m_cc M_R_told) 45 = .ok (.getfield 22, 3) := by decide +kernel
theorem fR_told_48 : decode (m_cc M_R_told) 48 = .ok (.iload_n 1, 1) := by decide +kernel
theorem fR_told_49 : decode (m_cc M_R_told) 49 = .ok (.iaload, 1) := by decide +kernel
theorem fR_told_50 : decode (m_cc M_R_told) 50 = .ok (.ireturn, 1) := by decide +kernel
theorem fR_told_51 : decode (m_cc M_R_told) 51 = .ok (.iload_n 2, 1) := by decide +kernel
theorem fR_told_52 : decode (m_cc M_R_told) 52 = .ok (.iconst 1, 1) := by decide +kernel
theorem fR_told_53 : decode (m_cc M_R_told) 53 = .ok (.if_icmp .ne 10, 3) := by decide +kernel
theorem fR_told_56 : decode (m_cc M_R_told) 56 = .ok (.aload_n 0, 1) := by decide +kernel
theorem fR_told_57 : decode (m_cc M_R_told) 57 = .ok (.getfield 7, 3) := by decide +kernel
theorem fR_told_60 : decode (m_cc M_R_told) 60 = .ok (.iload_n 1, 1) := by decide +kernel
theorem fR_told_61 : decode (m_cc M_R_told) 61 = .ok (.iaload, 1) := by decide +kernel
theorem fR_told_62 : decode (m_cc M_R_told) 62 = .ok (.ireturn, 1) := by decide +kernel
theorem fR_told_63 : decode (m_cc M_R_told) 63 = .ok (.iload_n 2, 1) := by decide +kernel
theorem fR_told_64 : decode (m_cc M_R_told) 64 = .ok (.iconst 2, 1) := by decide +kernel
theorem fR_told_65 : decode (m_cc M_R_told) 65 = .ok (.if_icmp .ne 10, 3) := by decide +kernel
theorem fR_told_68 : decode (m_cc M_R_told) 68 = .ok (.aload_n 0, 1) := by decide +kernel
theorem fR_told_69 : decode (m_cc M_R_told) 69 = .ok (.getfield 13, 3) := by decide +kernel
theorem fR_told_72 : decode (m_cc M_R_told) 72 = .ok (.iload_n 1, 1) := by decide +kernel
theorem fR_told_73 : decode (m_cc M_R_told) 73 = .ok (.iaload, 1) := by decide +kernel
theorem fR_told_74 : decode (m_cc M_R_told) 74 = .ok (.ireturn, 1) := by decide +kernel
theorem fR_told_75 : decode (m_cc M_R_told) 75 = .ok (.iload_n 2, 1) := by decide +kernel
theorem fR_told_76 : decode (m_cc M_R_told) 76 = .ok (.iconst 3, 1) := by decide +kernel
theorem fR_told_77 : decode (m_cc M_R_told) 77 = .ok (.if_icmp .ne 10, 3) := by decide +kernel
theorem fR_told_80 : decode (m_cc M_R_told) 80 = .ok (.aload_n 0, 1) := by decide +kernel
theorem fR_told_81 : decode (m_cc M_R_told) 81 = .ok (.getfield 16, 3) := by decide +kernel
theorem fR_told_84 : decode (m_cc M_R_told) 84 = .ok (.iload_n 1, 1) := by decide +kernel
theorem fR_told_85 : decode (m_cc M_R_told) 85 = .ok (.iaload, 1) := by decide +kernel
theorem fR_told_86 : decode (m_cc M_R_told) 86 = .ok (.ireturn, 1) := by decide +kernel
theorem fR_told_87 : decode (m_cc M_R_told) 87 = .ok (.iload_n 2, 1) := by decide +kernel
theorem fR_told_88 : decode (m_cc M_R_told) 88 = .ok (.iconst 4, 1) := by decide +kernel
theorem fR_told_89 : decode (m_cc M_R_told) 89 = .ok (.if_icmp .ne 10, 3) := by decide +kernel
theorem fR_told_92 : decode (m_cc M_R_told) 92 = .ok (.aload_n 0, 1) := by decide +kernel
theorem fR_told_93 : decode (m_cc M_R_told) 93 = .ok (.getfield 19, 3) := by decide +kernel
theorem fR_told_96 : decode (m_cc M_R_told) 96 = .ok (.iload_n 1, 1) := by decide +kernel
theorem fR_told_97 : decode (m_cc M_R_told) 97 = .ok (.iaload, 1) := by decide +kernel
theorem fR_told_98 : decode (m_cc M_R_told) 98 = .ok (.ireturn, 1) := by decide +kernel
theorem fR_told_99 : decode (m_cc M_R_told) 99 = .ok (.iload_n 2, 1) := by decide +kernel
theorem fR_told_100 : decode (m_cc M_R_told) 100 = .ok (.iconst 5, 1) := by decide +kernel
theorem fR_told_101 : decode (m_cc M_R_told) 101 = .ok (.if_icmp .ne 10, 3) := by decide +kernel
theorem fR_told_104 : decode (m_cc M_R_told) 104 = .ok (.aload_n 0, 1) := by decide +kernel
theorem fR_told_105 : decode (m_cc M_R_told) 105 = .ok (.getfield 25, 3) := by decide +kernel
theorem fR_told_108 : decode (m_cc M_R_told) 108 = .ok (.iload_n 1, 1) := by decide +kernel
theorem fR_told_109 : decode (m_cc M_R_told) 109 = .ok (.iaload, 1) := by decide +kernel
theorem fR_told_110 : decode (m_cc M_R_told) 110 = .ok (.ireturn, 1) := by decide +kernel
theorem fR_told_111 : decode (m_cc M_R_told) 111 = .ok (.iload_n 2, 1) := by decide +kernel
theorem fR_told_112 : decode (m_cc M_R_told) 112 = .ok (.bipush 6, 2) := by decide +kernel
theorem fR_told_114 : decode (m_cc M_R_told) 114 = .ok (.if_icmp .ne 10, 3) := by decide +kernel
theorem fR_told_117 : decode (m_cc M_R_told) 117 = .ok (.aload_n 0, 1) := by decide +kernel
theorem fR_told_118 : decode (m_cc M_R_told) 118 = .ok (.getfield 34, 3) := by decide +kernel
theorem fR_told_121 : decode (m_cc M_R_told) 121 = .ok (.iload_n 1, 1) := by decide +kernel
theorem fR_told_122 : decode (m_cc M_R_told) 122 = .ok (.iaload, 1) := by decide +kernel
theorem fR_told_123 : decode (m_cc M_R_told) 123 = .ok (.ireturn, 1) := by decide +kernel
theorem fR_told_124 : decode (m_cc M_R_told) 124 = .ok (.iload_n 2, 1) := by decide +kernel
theorem fR_told_125 : decode (m_cc M_R_told) 125 = .ok (.bipush 7, 2) := by decide +kernel
theorem fR_told_127 : decode (m_cc M_R_told) 127 = .ok (.if_icmp .ne 10, 3) := by decide +kernel
theorem fR_told_130 : decode (m_cc M_R_told) 130 = .ok (.aload_n 0, 1) := by decide +kernel
theorem fR_told_131 : decode (m_cc M_R_told) 131 = .ok (.getfield 28, 3) := by decide +kernel
theorem fR_told_134 : decode (m_cc M_R_told) 134 = .ok (.iload_n 1, 1) := by decide +kernel
theorem fR_told_135 : decode (m_cc M_R_told) 135 = .ok (.iaload, 1) := by decide +kernel
theorem fR_told_136 : decode (m_cc M_R_told) 136 = .ok (.ireturn, 1) := by decide +kernel
theorem fR_told_137 : decode (m_cc M_R_told) 137 = .ok (.iload_n 2, 1) := by decide +kernel
theorem fR_told_138 : decode (m_cc M_R_told) 138 = .ok (.bipush 8, 2) := by decide +kernel
theorem fR_told_140 : decode (m_cc M_R_told) 140 = .ok (.if_icmp .ne 10, 3) := by decide +kernel
theorem fR_told_143 : decode (m_cc M_R_told) 143 = .ok (.aload_n 0, 1) := by decide +kernel
theorem fR_told_144 : decode (m_cc M_R_told) 144 = .ok (.getfield 31, 3) := by decide +kernel
theorem fR_told_147 : decode (m_cc M_R_told) 147 = .ok (.iload_n 1, 1) := by decide +kernel
theorem fR_told_148 : decode (m_cc M_R_told) 148 = .ok (.iaload, 1) := by decide +kernel
theorem fR_told_149 : decode (m_cc M_R_told) 149 = .ok (.ireturn, 1) := by decide +kernel
theorem fR_told_150 : decode (m_cc M_R_told) 150 = .ok (.iconst 0, 1) := by decide +kernel
theorem fR_told_151 : decode (m_cc M_R_told) 151 = .ok (.istore_n 3, 1) := by decide +kernel
theorem fR_told_152 : decode (m_cc M_R_told) 152 = .ok (.iconst 0, 1) := by decide +kernel
theorem fR_told_153 : decode (m_cc M_R_told) 153 = .ok (.istore 4, 2) := by decide +kernel
theorem fR_told_155 : decode (m_cc M_R_told) 155 = .ok (.iload 4, 2) := by decide +kernel
theorem fR_told_157 : decode (m_cc M_R_told) 157 = .ok (.aload_n 0, 1) := by decide +kernel
theorem fR_told_158 : decode (m_cc M_R_told) 158 = .ok (.getfield 34, 3) := by decide +kernel
theorem fR_told_161 : decode (m_cc M_R_told) 161 = .ok (.iload_n 1, 1) := by decide +kernel
theorem fR_told_162 : decode (m_cc M_R_told) 162 = .ok (.iaload, 1) := by decide +kernel
theorem fR_told_163 : decode (m_cc M_R_told) 163 = .ok (.if_icmp .ge 43, 3) := by decide +kernel
theorem fR_told_166 : decode (m_cc M_R_told) 166 = .ok (.aload_n 0, 1) := by decide +kernel
theorem fR_told_167 : decode (m_cc M_R_told) 167 = .ok (.getfield 22, 3) := by decide +kernel
theorem fR_told_170 : decode (m_cc M_R_told) 170 = .ok (.iload_n 1, 1) := by decide +kernel
theorem fR_told_171 : decode (m_cc M_R_told) 171 = .ok (.iaload, 1) := by decide +kernel
theorem fR_told_172 : decode (m_cc M_R_told) 172 = .ok (.iconst 4, 1) := by decide +kernel
theorem fR_told_173 : decode (m_cc M_R_told) 173 = .ok (.if_icmp .eq 13, 3) := by decide +kernel
theorem fR_told_176 : decode (m_cc M_R_told) 176 = .ok (.aload_n 0, 1) := by decide +kernel
theorem fR_told_177 : decode (m_cc M_R_told) 177 = .ok (.getfield 22, 3) := by decide +kernel
theorem fR_told_180 : decode (m_cc M_R_told) 180 = .ok (.iload_n 1, 1) := by decide +kernel
theorem fR_told_181 : decode (m_cc M_R_told) 181 = .ok (.iaload, 1) := by decide +kernel
theorem fR_told_182 : decode (m_cc M_R_told) 182 = .ok (.iconst 5, 1) := by decide +kernel
theorem fR_told_183 : decode (m_cc M_R_told) 183 = .ok (.if_icmp .ne 23, 3) := by decide +kernel
theorem fR_told_186 : decode (m_cc M_R_told) 186 = .ok (.iload_n 3, 1) := by decide +kernel
theorem fR_told_187 : decode (m_cc M_R_told) 187 = .ok (.aload_n 0, 1) := by decide +kernel
theorem fR_told_188 : decode (m_cc M_R_told) 188 = .ok (.aload_n 0, 1) := by decide +kernel
theorem fR_told_189 : decode (m_cc M_R_told) 189 = .ok (.iload_n 1, 1) := by decide +kernel
theorem fR_told_190 : decode (m_cc M_R_told) 190 = .ok (.iload 4, 2) := by decide +kernel
theorem fR_told_192 : decode (m_cc M_R_told) 192 = .ok (.invokevirtual 104, 3) := by decide +kernel
theorem fR_told_195 : decode (m_cc M_R_told) 195 = .ok (.invokevirtual 119, 3) := by decide +kernel
theorem fR_told_198 : decode (m_cc M_R_told) 198 = .ok (.iadd, 1) := by decide +kernel
theorem fR_told_199 : decode (m_cc M_R_told) 199 = .ok (.istore_n 3, 1) := by decide +kernel
theorem fR_told_200 : decode (m_cc M_R_told) 200 = .ok (.iinc 4 1, 3) := by decide +kernel
theorem fR_told_203 : decode (m_cc M_R_told) 203 = .ok (.goto (-48), 3) := by decide +kernel
theorem fR_told_206 : decode (m_cc M_R_told) 206 = .ok (.iload_n 3, 1) := by decide +kernel
theorem fR_told_207 : decode (m_cc M_R_told) 207 = .ok (.ireturn, 1) := by decide +kernel
theorem fR_lineOf_0 : decode (m_cc M_R_lineOf) 0 = .ok (.aload_n 0, 1) := by decide +kernel
theorem fR_lineOf_1 : decode (m_cc M_R_lineOf) 1 = .ok (.aload_n 0, 1) := by decide +kernel
theorem fR_lineOf_2 : decode (m_cc M_R_lineOf) 2 = .ok (.iload_n 1, 1) := by decide +kernel
theorem fR_lineOf_3 : decode (m_cc M_R_lineOf) 3 = .ok (.invokevirtual 94, 3) := by decide +kernel
theorem fR_lineOf_6 : decode (m_cc M_R_lineOf) 6 = .ok (.ifCond .ne 7, 3) := by decide +kernel
theorem fR_lineOf_9 : decode (m_cc M_R_lineOf) 9 = .ok (.iconst 1, 1) := by decide +kernel
theorem fR_lineOf_10 : decode (m_cc M_R_lineOf) 10 = .ok (.goto 12, 3) := by decide +kernel
theorem fR_lineOf_13 : decode (m_cc M_R_lineOf) 13 = .ok (.iload_n 2, 1) := by decide +kernel
theorem fR_lineOf_14 : decode (m_cc M_R_lineOf) 14 = .ok (.ifCond .ge 7, 3) := by decide +kernel
theorem fR_lineOf_17 : decode (m_cc M_R_lineOf) 17 = .ok (.iconst 2, 1) := by decide +kernel
theorem fR_lineOf_18 : decode (m_cc M_R_lineOf) 18 = .ok (.goto 4, 3) := by decide +kernel
theorem fR_lineOf_21 : decode (m_cc M_R_lineOf) 21 = .ok (.iconst 0, 1) := by decide +kernel
theorem fR_lineOf_22 : decode (m_cc M_R_lineOf) 22 = .ok (.putfield 71, 3) := by decide +kernel
theorem fR_lineOf_25 : decode (m_cc M_R_lineOf) 25 = .ok (.aload_n 0, 1) := by decide +kernel
theorem fR_lineOf_26 : decode (m_cc M_R_lineOf) 26 = .ok (.getfield 71, 3) := by decide +kernel
theorem fR_lineOf_29 : decode (m_cc M_R_lineOf) 29 = .ok (.ifCond .le 5, 3) := by decide +kernel
theorem fR_lineOf_32 : decode (m_cc M_R_lineOf) 32 = .ok (.iconst 0, 1) := by decide +kernel
theorem fR_lineOf_33 : decode (m_cc M_R_lineOf) 33 = .ok (.ireturn, 1) := by decide +kernel
theorem fR_lineOf_34 : decode (m_cc M_R_lineOf) 34 = .ok (.iload_n 2, 1) := by decide +kernel
theorem fR_lineOf_35 : decode (m_cc M_R_lineOf) 35 = .ok (.aload_n 0, 1) := by decide +kernel
theorem fR_lineOf_36 : decode (m_cc M_R_lineOf) 36 = .ok (.getfield 34, 3) := by decide +kernel
theorem fR_lineOf_39 : decode (m_cc M_R_lineOf) 39 = .ok (.iload_n 1, 1) := by decide +kernel
theorem fR_lineOf_40 : decode (m_cc M_R_lineOf) 40 = .ok (.iaload, 1) := by decide +kernel
theorem fR_lineOf_41 : decode (m_cc M_R_lineOf) 41 = .ok (.if_icmp .ge 12, 3) := by decide +kernel
theorem fR_lineOf_44 : decode (m_cc M_R_lineOf) 44 = .ok (.aload_n 0, 1) := by decide +kernel
theorem fR_lineOf_45 : decode (m_cc M_R_lineOf) 45 = .ok (.iload_n 1, 1) := by decide +kernel
theorem fR_lineOf_46 : decode (m_cc M_R_lineOf) 46 = .ok (.iload_n 2, 1) := by decide +kernel
theorem fR_lineOf_47 : decode (m_cc M_R_lineOf) 47 = .ok (.invokevirtual 104, 3) := by decide +kernel
theorem fR_lineOf_50 : decode (m_cc M_R_lineOf) 50 = .ok (.goto 4, 3) := by decide +kernel
theorem fR_lineOf_53 : decode (m_cc M_R_lineOf) 53 = .ok (.iconst (-1), 1) := by decide +kernel
theorem fR_lineOf_54 : decode (m_cc M_R_lineOf) 54 = .ok (.ireturn, 1) := by decide +kernel
theorem fR_packed_0 : decode (m_cc M_R_packed) 0 = .ok (.aload_n 0, 1) := by decide +kernel
theorem fR_packed_1 : decode (m_cc M_R_packed) 1 = .ok (.aload_n 0, 1) := by decide +kernel
theorem fR_packed_2 : decode (m_cc M_R_packed) 2 = .ok (.iload_n 1, 1) := by decide +kernel
theorem fR_packed_3 : decode (m_cc M_R_packed) 3 = .ok (.invokevirtual 101, 3) := by decide +kernel
theorem fR_packed_6 : decode (m_cc M_R_packed) 6 = .ok (.ifCond .eq 7, 3) := by decide +kernel
theorem fR_packed_9 : decode (m_cc M_R_packed) 9 = .ok (.iconst 0, 1) := by decide +kernel
theorem fR_packed_10 : decode (m_cc M_R_packed) 10 = .ok (.goto 4, 3) := by decide +kernel
theorem fR_packed_13 : decode (m_cc M_R_packed) 13 = .ok (.iconst 1, 1) := by decide +kernel
theorem fR_packed_14 : decode (m_cc M_R_packed) 14 = .ok (.putfield 71, 3) := by decide +kernel
theorem fR_packed_17 : decode (m_cc M_R_packed) 17 = .ok (.aload_n 0, 1) := by decide +kernel
theorem fR_packed_18 : decode (m_cc M_R_packed) 18 = .ok (.getfield 71, 3) := by decide +kernel
theorem fR_packed_21 : decode (m_cc M_R_packed) 21 = .ok (.ifCond .le 5, 3) := by decide +kernel
theorem fR_packed_24 : decode (m_cc M_R_packed) 24 = .ok (.lconst 0, 1) := by decide +kernel
theorem fR_packed_25 : decode (m_cc M_R_packed) 25 = .ok (.lreturn, 1) := by decide +kernel
theorem fR_packed_26 : decode (m_cc M_R_packed) 26 = .ok (.aload_n 0, 1) := by decide +kernel
theorem fR_packed_27 : decode (m_cc M_R_packed) 27 = .ok (.getfield 43, 3) := by decide +kernel
theorem fR_packed_30 : decode (m_cc M_R_packed) 30 = .ok (.iload_n 1, 1) := by decide +kernel
theorem fR_packed_31 : decode (m_cc M_R_packed) 31 = .ok (.iaload, 1) := by decide +kernel
theorem fR_packed_32 : decode (m_cc M_R_packed) 32 = .ok (.aload_n 0, 1) := by decide +kernel
theorem fR_packed_33 : decode (m_cc M_R_packed) 33 = .ok (.getfield 46, 3) := by decide +kernel
theorem fR_packed_36 : decode (m_cc M_R_packed) 36 = .ok (.iload_n 1, 1) := by decide +kernel
theorem fR_packed_37 : decode (m_cc M_R_packed) 37 = .ok (.iaload, 1) := by decide +kernel
theorem fR_packed_38 : decode (m_cc M_R_packed) 38 = .ok (.iconst 1, 1) := by decide +kernel
theorem fR_packed_39 : decode (m_cc M_R_packed) 39 = .ok (.iadd, 1) := by decide +kernel
theorem fR_packed_40 : decode (m_cc M_R_packed) 40 = .ok (.iconst 4, 1) := by decide +kernel
theorem fR_packed_41 : decode (m_cc M_R_packed) 41 = .ok (.ishl, 1) := by decide +kernel
theorem fR_packed_42 : decode (m_cc M_R_packed) 42 = .ok (.ior, 1) := by decide +kernel
theorem fR_packed_43 : decode (m_cc M_R_packed) 43 = .ok (.aload_n 0, 1) := by decide +kernel
theorem fR_packed_44 : decode (m_cc M_R_packed) 44 = .ok (.getfield 49, 3) := by decide +kernel
theorem fR_packed_47 : decode (m_cc M_R_packed) 47 = .ok (.iload_n 1, 1) := by decide +kernel
theorem fR_packed_48 : decode (m_cc M_R_packed) 48 = .ok (.iaload, 1) := by decide +kernel
theorem fR_packed_49 : decode (m_cc M_R_packed) 49 = .ok (.bipush 9, 2) := by decide +kernel
theorem fR_packed_51 : decode (m_cc M_R_packed) 51 = .ok (.ishl, 1) := by decide +kernel
theorem fR_packed_52 : decode (m_cc M_R_packed) 52 = .ok (.ior, 1) := by decide +kernel
theorem fR_packed_53 : decode (m_cc M_R_packed) 53 = .ok (.i2l, 1) := by decide +kernel
theorem fR_packed_54 : decode (m_cc M_R_packed) 54 = .ok (.lstore_n 2, 1) := by decide +kernel
theorem fR_packed_55 : decode (m_cc M_R_packed) 55 = .ok (.aload_n 0, 1) := by decide +kernel
theorem fR_packed_56 : decode (m_cc M_R_packed) 56 = .ok (.getfield 52, 3) := by decide +kernel
theorem fR_packed_59 : decode (m_cc M_R_packed) 59 = .ok (.iload_n 1, 1) := by decide +kernel
theorem fR_packed_60 : decode (m_cc M_R_packed) 60 = .ok (.iaload, 1) := by decide +kernel
theorem fR_packed_61 : decode (m_cc M_R_packed) 61 = .ok (.i2l, 1) := by decide +kernel
theorem fR_packed_62 : decode (m_cc M_R_packed) 62 = .ok (.aload_n 0, 1) := by decide +kernel
theorem fR_packed_63 : decode (m_cc M_R_packed) 63 = .ok (.getfield 55, 3) := by decide +kernel
theorem fR_packed_66 : decode (m_cc M_R_packed) 66 = .ok (.iload_n 1, 1) := by decide +kernel
theorem fR_packed_67 : decode (m_cc M_R_packed) 67 = .ok (.iaload, 1) := by decide +kernel
theorem fR_packed_68 : decode (m_cc M_R_packed) 68 = .ok (.i2l, 1) := by decide +kernel
theorem fR_packed_69 : decode (m_cc M_R_packed) 69 = .ok (.bipush 10, 2) := by decide +kernel
theorem fR_packed_71 : decode (m_cc M_R_packed) 71 = .ok (.lshl, 1) := by decide +kernel
theorem fR_packed_72 : decode (m_cc M_R_packed) 72 = .ok (.lor, 1) := by decide +kernel
theorem fR_packed_73 : decode (m_cc M_R_packed) 73 = .ok (.aload_n 0, 1) := by decide +kernel
theorem fR_packed_74 : decode (m_cc M_R_packed) 74 = .ok (.getfield 58, 3) := by decide +kernel
theorem fR_packed_77 : decode (m_cc M_R_packed) 77 = .ok (.iload_n 1, 1) := by decide +kernel
theorem fR_packed_78 : decode (m_cc M_R_packed) 78 = .ok (.iaload, 1) := by decide +kernel
theorem fR_packed_79 : decode (m_cc M_R_packed) 79 = .ok (.i2l, 1) := by decide +kernel
theorem fR_packed_80 : decode (m_cc M_R_packed) 80 = .ok (.bipush 20, 2) := by decide +kernel
theorem fR_packed_82 : decode (m_cc M_R_packed) 82 = .ok (.lshl, 1) := by decide +kernel
theorem fR_packed_83 : decode (m_cc M_R_packed) 83 = .ok (.lor, 1) := by decide +kernel
theorem fR_packed_84 : decode (m_cc M_R_packed) 84 = .ok (.aload_n 0, 1) := by decide +kernel
theorem fR_packed_85 : decode (m_cc M_R_packed) 85 = .ok (.getfield 61, 3) := by decide +kernel
theorem fR_packed_88 : decode (m_cc M_R_packed) 88 = .ok (.iload_n 1, 1) := by decide +kernel
theorem fR_packed_89 : decode (m_cc M_R_packed) 89 = .ok (.iaload, 1) := by decide +kernel
theorem fR_packed_90 : decode (m_cc M_R_packed) 90 = .ok (.i2l, 1) := by decide +kernel
theorem fR_packed_91 : decode (m_cc M_R_packed) 91 = .ok (.bipush 30, 2) := by decide +kernel
theorem fR_packed_93 : decode (m_cc M_R_packed) 93 = .ok (.lshl, 1) := by decide +kernel
theorem fR_packed_94 : decode (m_cc M_R_packed) 94 = .ok (.lor, 1) := by decide +kernel
theorem fR_packed_95 : decode (m_cc M_R_packed) 95 = .ok (.lstore 4, 2) := by decide +kernel
theorem fR_packed_97 : decode (m_cc M_R_packed) 97 = .ok (.aload_n 0, 1) := by decide +kernel
theorem fR_packed_98 : decode (m_cc M_R_packed) 98 = .ok (.getfield 64, 3) := by decide +kernel
theorem fR_packed_101 : decode (m_cc M_R_packed) 101 = .ok (.iload_n 1, 1) := by decide +kernel
theorem fR_packed_102 : decode (m_cc M_R_packed) 102 = .ok (.baload, 1) := by decide +kernel
theorem fR_packed_103 : decode (m_cc M_R_packed) 103 = .ok (.ifCond .eq 7, 3) := by decide +kernel
theorem fR_packed_106 : decode (m_cc M_R_packed) 106 = .ok (.lconst 1, 1) := by decide +kernel
theorem fR_packed_107 : decode (m_cc M_R_packed) 107 = .ok (.goto 4, 3) := by decide +kernel
theorem fR_packed_110 : decode (m_cc M_R_packed) 110 = .ok (.lconst 0, 1) := by decide +kernel
theorem fR_packed_111 : decode (m_cc M_R_packed) 111 = .ok (.aload_n 0, 1) := by decide +kernel
theorem fR_packed_112 : decode (m_cc M_R_packed) 112 = .ok (.getfield 68, 3) := by decide +kernel
theorem fR_packed_115 : decode (m_cc M_R_packed) 115 = .ok (.iload_n 1, 1) := by decide +kernel
theorem fR_packed_116 : decode (m_cc M_R_packed) 116 = .ok (.baload, 1) := by decide +kernel
theorem fR_packed_117 : decode (m_cc M_R_packed) 117 = .ok (.ifCond .eq 9, 3) := by decide +kernel
theorem fR_packed_120 : decode (m_cc M_R_packed) 120 = .ok (.ldc2_w 134, 3) := by decide +kernel
theorem fR_packed_123 : decode (m_cc M_R_packed) 123 = .ok (.goto 4, 3) := by decide +kernel
theorem fR_packed_126 : decode (m_cc M_R_packed) 126 = .ok (.lconst 0, 1) := by decide +kernel
theorem fR_packed_127 : decode (m_cc M_R_packed) 127 = .ok (.lor, 1) := by decide +kernel
theorem fR_packed_128 : decode (m_cc M_R_packed) 128 = .ok (.aload_n 0, 1) := by decide +kernel
theorem fR_packed_129 : decode (m_cc M_R_packed) 129 = .ok (.getfield 40, 3) := by decide +kernel
theorem fR_packed_132 : decode (m_cc M_R_packed) 132 = .ok (.iload_n 1, 1) := by decide +kernel
theorem fR_packed_133 : decode (m_cc M_R_packed) 133 = .ok (.iaload, 1) := by decide +kernel
theorem fR_packed_134 : decode (m_cc M_R_packed) 134 = .ok (.i2l, 1) := by decide +kernel
theorem fR_packed_135 : decode (m_cc M_R_packed) 135 = .ok (.iconst 2, 1) := by decide +kernel
theorem fR_packed_136 : decode (m_cc M_R_packed) 136 = .ok (.lshl, 1) := by decide +kernel
theorem fR_packed_137 : decode (m_cc M_R_packed) 137 = .ok (.lor, 1) := by decide +kernel
theorem fR_packed_138 : decode (m_cc M_R_packed) 138 = .ok (.lstore 6, 2) := by decide +kernel
theorem fR_packed_140 : decode (m_cc M_R_packed) 140 = .ok (.lload_n 2, 1) := by decide +kernel
theorem fR_packed_141 : decode (m_cc M_R_packed) 141 = .ok (.lload 4, 2) := by decide +kernel
theorem fR_packed_143 : decode (m_cc M_R_packed) 143 = .ok (.bipush 12, 2) := by decide +kernel
theorem fR_packed_145 : decode (m_cc M_R_packed) 145 = .ok (.lshl, 1) := by decide +kernel
theorem fR_packed_146 : decode (m_cc M_R_packed) 146 = .ok (.lor, 1) := by decide +kernel
theorem fR_packed_147 : decode (m_cc M_R_packed) 147 = .ok (.lload 6, 2) := by decide +kernel
theorem fR_packed_149 : decode (m_cc M_R_packed) 149 = .ok (.bipush 52, 2) := by decide +kernel
theorem fR_packed_151 : decode (m_cc M_R_packed) 151 = .ok (.lshl, 1) := by decide +kernel
theorem fR_packed_152 : decode (m_cc M_R_packed) 152 = .ok (.lor, 1) := by decide +kernel
theorem fR_packed_153 : decode (m_cc M_R_packed) 153 = .ok (.lreturn, 1) := by decide +kernel
theorem fR_count_0 : decode (m_cc M_R_count) 0 = .ok (.aload_n 0, 1) := by decide +kernel
theorem fR_count_1 : decode (m_cc M_R_count) 1 = .ok (.iconst 0, 1) := by decide +kernel
theorem fR_count_2 : decode (m_cc M_R_count) 2 = .ok (.putfield 71, 3) := by decide +kernel
theorem fR_count_5 : decode (m_cc M_R_count) 5 = .ok (.iload_n 1, 1) := by decide +kernel
theorem fR_count_6 : decode (m_cc M_R_count) 6 = .ok (.ifCond .ne 8, 3) := by decide +kernel
theorem fR_count_9 : decode (m_cc M_R_count) 9 = .ok (.aload_n 0, 1) := by decide +kernel
theorem fR_count_10 : decode (m_cc M_R_count) 10 = .ok (.getfield 75, 3) := by decide +kernel
theorem fR_count_13 : decode (m_cc M_R_count) 13 = .ok (.ireturn, 1) := by decide +kernel
theorem fR_count_14 : decode (m_cc M_R_count) 14 = .ok (.iload_n 1, 1) := by decide +kernel
theorem fR_count_15 : decode (m_cc M_R_count) 15 = .ok (.iconst 1, 1) := by decide +kernel
theorem fR_count_16 : decode (m_cc M_R_count) 16 = .ok (.if_icmp .ne 8, 3) := by decide +kernel
theorem fR_count_19 : decode (m_cc M_R_count) 19 = .ok (.aload_n 0, 1) := by decide +kernel
theorem fR_count_20 : decode (m_cc M_R_count) 20 = .ok (.getfield 82, 3) := by decide +kernel
theorem fR_count_23 : decode (m_cc M_R_count) 23 = .ok (.ireturn, 1) := by decide +kernel
theorem fR_count_24 : decode (m_cc M_R_count) 24 = .ok (.iconst 0, 1) := by decide +kernel
theorem fR_count_25 : decode (m_cc M_R_count) 25 = .ok (.istore_n 2, 1) := by decide +kernel
theorem fR_count_26 : decode (m_cc M_R_count) 26 = .ok (.iconst 0, 1) := by decide +kernel
theorem fR_count_27 : decode (m_cc M_R_count) 27 = .ok (.istore_n 3, 1) := by decide +kernel
theorem fR_count_28 : decode (m_cc M_R_count) 28 = .ok (.iload_n 3, 1) := by decide +kernel
theorem fR_count_29 : decode (m_cc M_R_count) 29 = .ok (.aload_n 0, 1) := by decide +kernel
theorem fR_count_30 : decode (m_cc M_R_count) 30 = .ok (.getfield 82, 3) := by decide +kernel
theorem fR_count_33 : decode (m_cc M_R_count) 33 = .ok (.if_icmp .ge 60, 3) := by decide +kernel
theorem fR_count_36 : decode (m_cc M_R_count) 36 = .ok (.iload_n 2, 1) := by decide +kernel
theorem fR_count_37 : decode (m_cc M_R_count) 37 = .ok (.iload_n 1, 1) := by decide +kernel
theorem fR_count_38 : decode (m_cc M_R_count) 38 = .ok (.iconst 2, 1) := by decide +kernel
theorem fR_count_39 : decode (m_cc M_R_count) 39 = .ok (.if_icmp .ne 40, 3) := by decide +kernel
theorem fR_count_42 : decode (m_cc M_R_count) 42 = .ok (.aload_n 0, 1) := by decide +kernel
theorem fR_count_43 : decode (m_cc M_R_count) 43 = .ok (.getfield 64, 3) := by decide +kernel
theorem fR_count_46 : decode (m_cc M_R_count) 46 = .ok (.iload_n 3, 1) := by decide +kernel
theorem fR_count_47 : decode (m_cc M_R_count) 47 = .ok (.baload, 1) := by decide +kernel
theorem fR_count_48 : decode (m_cc M_R_count) 48 = .ok (.ifCond .eq 27, 3) := by decide +kernel
theorem fR_count_51 : decode (m_cc M_R_count) 51 = .ok (.aload_n 0, 1) := by decide +kernel
theorem fR_count_52 : decode (m_cc M_R_count) 52 = .ok (.getfield 22, 3) := by decide +kernel
theorem fR_count_55 : decode (m_cc M_R_count) 55 = .ok (.aload_n 0, 1) := by decide +kernel
theorem fR_count_56 : decode (m_cc M_R_count) 56 = .ok (.getfield 40, 3) := by decide +kernel
theorem fR_count_59 : decode (m_cc M_R_count) 59 = .ok (.iload_n 3, 1) := by decide +kernel
theorem fR_count_60 : decode (m_cc M_R_count) 60 = .ok (.iaload, 1) := by decide +kernel
theorem fR_count_61 : decode (m_cc M_R_count) 61 = .ok (.iaload, 1) := by decide +kernel
theorem fR_count_62 : decode (m_cc M_R_count) 62 = .ok (.iconst 4, 1) := by decide +kernel
theorem fR_count_63 : decode (m_cc M_R_count) 63 = .ok (.if_icmp .ge 12, 3) := by decide +kernel
theorem fR_count_66 : decode (m_cc M_R_count) 66 = .ok (.aload_n 0, 1) := by decide +kernel
theorem fR_count_67 : decode (m_cc M_R_count) 67 = .ok (.getfield 55, 3) := by decide +kernel
theorem fR_count_70 : decode (m_cc M_R_count) 70 = .ok (.iload_n 3, 1) := by decide +kernel
theorem fR_count_71 : decode (m_cc M_R_count) 71 = .ok (.iaload, 1) := by decide +kernel
theorem fR_count_72 : decode (m_cc M_R_count) 72 = .ok (.goto 13, 3) := by decide +kernel
theorem fR_count_75 : decode (m_cc M_R_count) 75 = .ok (.iconst 0, 1) := by decide +kernel
theorem fR_count_76 : decode (m_cc M_R_count) 76 = .ok (.goto 9, 3) := by decide +kernel
theorem fR_count_79 : decode (m_cc M_R_count) 79 = .ok (.aload_n 0, 1) := by decide +kernel
theorem fR_count_80 : decode (m_cc M_R_count) 80 = .ok (.getfield 61, 3) := by decide +kernel
theorem fR_count_83 : decode (m_cc M_R_count) 83 = .ok (.iload_n 3, 1) := by decide +kernel
theorem fR_count_84 : decode (m_cc M_R_count) 84 = .ok (.iaload, 1) := by decide +kernel
theorem fR_count_85 : decode (m_cc M_R_count) 85 = .ok (.iadd, 1) := by decide +kernel
theorem fR_count_86 : decode (m_cc M_R_count) 86 = .ok (.istore_n 2, 1) := by decide +kernel
theorem fR_count_87 : decode (m_cc M_R_count) 87 = .ok (.iinc 3 1, 3) := by decide +kernel
theorem fR_count_90 : decode (m_cc M_R_count) 90 = .ok (.goto (-62), 3) := by decide +kernel
theorem fR_count_93 : decode (m_cc M_R_count) 93 = .ok (.iload_n 1, 1) := by decide +kernel
theorem fR_count_94 : decode (m_cc M_R_count) 94 = .ok (.iconst 2, 1) := by decide +kernel
theorem fR_count_95 : decode (m_cc M_R_count) 95 = .ok (.if_icmp .eq 8, 3) := by decide +kernel
theorem fR_count_98 : decode (m_cc M_R_count) 98 = .ok (.iload_n 1, 1) := by decide +kernel
theorem fR_count_99 : decode (m_cc M_R_count) 99 = .ok (.iconst 3, 1) := by decide +kernel
theorem fR_count_100 : decode (m_cc M_R_count) 100 = .ok (.if_icmp .ne 7, 3) := by decide +kernel
theorem fR_count_103 : decode (m_cc M_R_count) 103 = .ok (.iload_n 2, 1) := by decide +kernel
theorem fR_count_104 : decode (m_cc M_R_count) 104 = .ok (.goto 4, 3) := by decide +kernel
theorem fR_count_107 : decode (m_cc M_R_count) 107 = .ok (.iconst (-1), 1) := by decide +kernel
theorem fR_count_108 : decode (m_cc M_R_count) 108 = .ok (.ireturn, 1) := by decide +kernel
end
section
/-! LINKS -/
theorem th_IAE_186 : ∀ w ∈ vx_atS "OrderRows3" 186 "java/lang/IllegalArgumentException" ev_ens, w ∈ ev_TB ∨ (∃ q ∈ ev_casts, w = .castable q.1 q.2) ∨ ∃ x ∈ ev_decls, w = .declares x := by decide +kernel
theorem tg_IAE_186_182 : ∀ w ∈ Cond.classLink "OrderRows3" 182 "java/lang/IllegalArgumentException" :: Cond.initialized "java/lang/IllegalArgumentException" :: vx_atS "OrderRows3" 186 "java/lang/IllegalArgumentException" ev_ens, vx_ot w = true := by decide +kernel
theorem th_NSE_205 : ∀ w ∈ nx_at "OrderRows3" 205 "java/util/NoSuchElementException", w ∈ ev_TB ∨ (∃ q ∈ ev_casts, w = .castable q.1 q.2) ∨ ∃ x ∈ ev_decls, w = .declares x := by decide +kernel
theorem tg_NSE_205_201 : ∀ w ∈ Cond.classLink "OrderRows3" 201 "java/util/NoSuchElementException" :: Cond.initialized "java/util/NoSuchElementException" :: nx_at "OrderRows3" 205 "java/util/NoSuchElementException", vx_ot w = true := by decide +kernel
theorem th_ISE_216 : ∀ w ∈ vx_atS "OrderRows3" 216 "java/lang/IllegalStateException" ev_ens, w ∈ ev_TB ∨ (∃ q ∈ ev_casts, w = .castable q.1 q.2) ∨ ∃ x ∈ ev_decls, w = .declares x := by decide +kernel
theorem tg_ISE_216_212 : ∀ w ∈ Cond.classLink "OrderRows3" 212 "java/lang/IllegalStateException" :: Cond.initialized "java/lang/IllegalStateException" :: vx_atS "OrderRows3" 216 "java/lang/IllegalStateException" ev_ens, vx_ot w = true := by decide +kernel
theorem th_UOE_221 : ∀ w ∈ vx_atS "OrderRows3" 221 "java/lang/UnsupportedOperationException" ev_ens, w ∈ ev_TB ∨ (∃ q ∈ ev_casts, w = .castable q.1 q.2) ∨ ∃ x ∈ ev_decls, w = .declares x := by decide +kernel
theorem tg_UOE_221_217 : ∀ w ∈ Cond.classLink "OrderRows3" 217 "java/lang/UnsupportedOperationException" :: Cond.initialized "java/lang/UnsupportedOperationException" :: vx_atS "OrderRows3" 221 "java/lang/UnsupportedOperationException" ev_ens, vx_ot w = true := by decide +kernel
theorem oX_1 : Cond.methodLink "OrderRows3" 1 objectInit ∈ ev_TB ∧ Cond.instanceMethod objectInit ∈ ev_TB ∧ Cond.code objectInit ⟨#[0xb1]⟩ 1 none ∈ ev_TB := ⟨(ev_tb 27 (by decide +kernel) (by decide +kernel)), (ev_tb 28 (by decide +kernel) (by decide +kernel)), (ev_tb 29 (by decide +kernel) (by decide +kernel))⟩
theorem nX_7 : ev_NW "OrderRows3" 7 3 [.null, .int 0, .int 0] := ⟨_, _, cls3, (ev_tb 30 (by decide +kernel) (by decide +kernel)), (ev_tb 31 (by decide +kernel) (by decide +kernel)), (ev_tb 4 (by decide +kernel) (by decide +kernel)), rfl, fun j hj => by have hj : j < 3 := hj; rcases (show j = 0 ∨ j = 1 ∨ j = 2 by omega) with rfl | rfl | rfl <;> rfl⟩
theorem wX_init_9 : ev_CI M_X_init 9 M_A_init 0 := ⟨rfl, rfl, rfl, (ev_tb 32 (by decide +kernel) (by decide +kernel)), (ev_tb 33 (by decide +kernel) (by decide +kernel)), (ev_tb 4 (by decide +kernel) (by decide +kernel)), (ev_tb 34 (by decide +kernel) (by decide +kernel)), ⟨by decide +kernel, by decide +kernel, by decide +kernel⟩, ⟨by decide, by decide⟩⟩
theorem pX_10 : ev_FF "OrderRows3" 10 0 0 (.object "java/util/ArrayList") := ⟨_, _, "OrderRows3", cls0, by decide, (ev_tb 56 (by decide +kernel) (by decide +kernel)), rfl, rfl, rfl, rfl⟩
theorem wX_init_20 : ev_CI M_X_init 9 M_A_init 0 := ⟨rfl, rfl, rfl, (ev_tb 32 (by decide +kernel) (by decide +kernel)), (ev_tb 33 (by decide +kernel) (by decide +kernel)), (ev_tb 4 (by decide +kernel) (by decide +kernel)), (ev_tb 34 (by decide +kernel) (by decide +kernel)), ⟨by decide +kernel, by decide +kernel, by decide +kernel⟩, ⟨by decide, by decide⟩⟩
theorem pX_16 : ev_FF "OrderRows3" 16 0 1 (.object "java/util/ArrayList") := ⟨_, _, "OrderRows3", cls0, by decide, (ev_tb 57 (by decide +kernel) (by decide +kernel)), rfl, rfl, rfl, rfl⟩
theorem wX_order_4 : ev_CS M_X_order 19 M_X_requireRange 3 := ⟨rfl, (ev_tb 103 (by decide +kernel) (by decide +kernel)), (ev_tb 104 (by decide +kernel) (by decide +kernel)), (ev_tb 1 (by decide +kernel) (by decide +kernel)), (ev_tb 105 (by decide +kernel) (by decide +kernel)), ⟨by decide +kernel, by decide +kernel, by decide +kernel⟩, ⟨by decide, by decide⟩⟩
theorem iX_23 : Cond.constant "OrderRows3" 23 99999 ∈ ev_TB := (ev_tb 175 (by decide +kernel) (by decide +kernel))
theorem wX_order_11 : ev_CS M_X_order 19 M_X_requireRange 3 := ⟨rfl, (ev_tb 103 (by decide +kernel) (by decide +kernel)), (ev_tb 104 (by decide +kernel) (by decide +kernel)), (ev_tb 1 (by decide +kernel) (by decide +kernel)), (ev_tb 105 (by decide +kernel) (by decide +kernel)), ⟨by decide +kernel, by decide +kernel, by decide +kernel⟩, ⟨by decide, by decide⟩⟩
theorem wX_order_18 : ev_CS M_X_order 19 M_X_requireRange 3 := ⟨rfl, (ev_tb 103 (by decide +kernel) (by decide +kernel)), (ev_tb 104 (by decide +kernel) (by decide +kernel)), (ev_tb 1 (by decide +kernel) (by decide +kernel)), (ev_tb 105 (by decide +kernel) (by decide +kernel)), ⟨by decide +kernel, by decide +kernel, by decide +kernel⟩, ⟨by decide, by decide⟩⟩
theorem wX_order_27 : ev_CS M_X_order 19 M_X_requireRange 3 := ⟨rfl, (ev_tb 103 (by decide +kernel) (by decide +kernel)), (ev_tb 104 (by decide +kernel) (by decide +kernel)), (ev_tb 1 (by decide +kernel) (by decide +kernel)), (ev_tb 105 (by decide +kernel) (by decide +kernel)), ⟨by decide +kernel, by decide +kernel, by decide +kernel⟩, ⟨by decide, by decide⟩⟩
theorem wX_order_33 : ev_CV M_X_order 24 M_X_firstWithOwnNumber 0 2 := ⟨⟨_, rfl, rfl⟩, rfl, (ev_tb 176 (by decide +kernel) (by decide +kernel)), (ev_tb 178 (by decide +kernel) (by decide +kernel)), (ev_tp 3 (by decide +kernel) (by decide +kernel)), (ev_tb 1 (by decide +kernel) (by decide +kernel)), (ev_tb 179 (by decide +kernel) (by decide +kernel)), ⟨by decide +kernel, by decide +kernel, by decide +kernel⟩, ⟨by decide, by decide⟩⟩
theorem wX_order_50 : ev_CV M_X_order 28 M_X_requireRoomForOrder 0 0 := ⟨⟨_, rfl, rfl⟩, rfl, (ev_tb 181 (by decide +kernel) (by decide +kernel)), (ev_tb 183 (by decide +kernel) (by decide +kernel)), (ev_tp 4 (by decide +kernel) (by decide +kernel)), (ev_tb 1 (by decide +kernel) (by decide +kernel)), (ev_tb 184 (by decide +kernel) (by decide +kernel)), ⟨by decide +kernel, by decide +kernel, by decide +kernel⟩, ⟨by decide, by decide⟩⟩
theorem wX_order_59 : ev_CV M_X_order 31 M_X_addOrder 0 4 := ⟨⟨_, rfl, rfl⟩, rfl, (ev_tb 204 (by decide +kernel) (by decide +kernel)), (ev_tb 206 (by decide +kernel) (by decide +kernel)), (ev_tp 5 (by decide +kernel) (by decide +kernel)), (ev_tb 1 (by decide +kernel) (by decide +kernel)), (ev_tb 207 (by decide +kernel) (by decide +kernel)), ⟨by decide +kernel, by decide +kernel, by decide +kernel⟩, ⟨by decide, by decide⟩⟩
theorem kX_35 : ev_FL "OrderRows3" 35 1 0 := ⟨_, _, "OrderRows3$Order", cls1, by decide, (ev_tb 216 (by decide +kernel) (by decide +kernel)), Or.inl rfl⟩
theorem wX_line_2 : ev_CV M_X_line 41 M_X_orderAt 0 1 := ⟨⟨_, rfl, rfl⟩, rfl, (ev_tb 321 (by decide +kernel) (by decide +kernel)), (ev_tb 323 (by decide +kernel) (by decide +kernel)), (ev_tp 9 (by decide +kernel) (by decide +kernel)), (ev_tb 1 (by decide +kernel) (by decide +kernel)), (ev_tb 324 (by decide +kernel) (by decide +kernel)), ⟨by decide +kernel, by decide +kernel, by decide +kernel⟩, ⟨by decide, by decide⟩⟩
theorem wX_line_11 : ev_CS M_X_line 19 M_X_requireRange 3 := ⟨rfl, (ev_tb 103 (by decide +kernel) (by decide +kernel)), (ev_tb 104 (by decide +kernel) (by decide +kernel)), (ev_tb 1 (by decide +kernel) (by decide +kernel)), (ev_tb 105 (by decide +kernel) (by decide +kernel)), ⟨by decide +kernel, by decide +kernel, by decide +kernel⟩, ⟨by decide, by decide⟩⟩
theorem wX_line_19 : ev_CS M_X_line 19 M_X_requireRange 3 := ⟨rfl, (ev_tb 103 (by decide +kernel) (by decide +kernel)), (ev_tb 104 (by decide +kernel) (by decide +kernel)), (ev_tb 1 (by decide +kernel) (by decide +kernel)), (ev_tb 105 (by decide +kernel) (by decide +kernel)), ⟨by decide +kernel, by decide +kernel, by decide +kernel⟩, ⟨by decide, by decide⟩⟩
theorem wX_line_27 : ev_CS M_X_line 19 M_X_requireRange 3 := ⟨rfl, (ev_tb 103 (by decide +kernel) (by decide +kernel)), (ev_tb 104 (by decide +kernel) (by decide +kernel)), (ev_tb 1 (by decide +kernel) (by decide +kernel)), (ev_tb 105 (by decide +kernel) (by decide +kernel)), ⟨by decide +kernel, by decide +kernel, by decide +kernel⟩, ⟨by decide, by decide⟩⟩
theorem kX_45 : ev_FL "OrderRows3" 45 1 6 := ⟨_, _, "OrderRows3$Order", cls1, by decide, (ev_tb 228 (by decide +kernel) (by decide +kernel)), Or.inl rfl⟩
theorem wX_line_43 : ev_CS M_X_line 48 M_X_requireState 1 := ⟨rfl, (ev_tb 341 (by decide +kernel) (by decide +kernel)), (ev_tb 342 (by decide +kernel) (by decide +kernel)), (ev_tb 1 (by decide +kernel) (by decide +kernel)), (ev_tb 343 (by decide +kernel) (by decide +kernel)), ⟨by decide +kernel, by decide +kernel, by decide +kernel⟩, ⟨by decide, by decide⟩⟩
theorem kX_52 : ev_FL "OrderRows3" 52 1 4 := ⟨_, _, "OrderRows3$Order", cls1, by decide, (ev_tb 224 (by decide +kernel) (by decide +kernel)), Or.inl rfl⟩
theorem wX_line_51 : ev_CV M_X_line 53 M_A_size 3 0 := ⟨⟨_, rfl, rfl⟩, rfl, (ev_tb 67 (by decide +kernel) (by decide +kernel)), (ev_tb 68 (by decide +kernel) (by decide +kernel)), (ev_tb 69 (by decide +kernel) (by decide +kernel)), (ev_tb 4 (by decide +kernel) (by decide +kernel)), (ev_tb 70 (by decide +kernel) (by decide +kernel)), ⟨by decide +kernel, by decide +kernel, by decide +kernel⟩, ⟨by decide, by decide⟩⟩
theorem wX_line_64 : ev_CS M_X_line 57 M_X_requireRoom 1 := ⟨rfl, (ev_tb 185 (by decide +kernel) (by decide +kernel)), (ev_tb 186 (by decide +kernel) (by decide +kernel)), (ev_tb 1 (by decide +kernel) (by decide +kernel)), (ev_tb 187 (by decide +kernel) (by decide +kernel)), ⟨by decide +kernel, by decide +kernel, by decide +kernel⟩, ⟨by decide, by decide⟩⟩
theorem wX_line_68 : ev_CV M_X_line 60 M_X_requireRoomForLine 0 0 := ⟨⟨_, rfl, rfl⟩, rfl, (ev_tb 360 (by decide +kernel) (by decide +kernel)), (ev_tb 362 (by decide +kernel) (by decide +kernel)), (ev_tp 10 (by decide +kernel) (by decide +kernel)), (ev_tb 1 (by decide +kernel) (by decide +kernel)), (ev_tb 363 (by decide +kernel) (by decide +kernel)), ⟨by decide +kernel, by decide +kernel, by decide +kernel⟩, ⟨by decide, by decide⟩⟩
theorem wX_line_78 : ev_CV M_X_line 63 M_X_addLine 0 4 := ⟨⟨_, rfl, rfl⟩, rfl, (ev_tb 364 (by decide +kernel) (by decide +kernel)), (ev_tb 366 (by decide +kernel) (by decide +kernel)), (ev_tp 11 (by decide +kernel) (by decide +kernel)), (ev_tb 1 (by decide +kernel) (by decide +kernel)), (ev_tb 367 (by decide +kernel) (by decide +kernel)), ⟨by decide +kernel, by decide +kernel, by decide +kernel⟩, ⟨by decide, by decide⟩⟩
theorem kX_67 : ev_FL "OrderRows3" 67 2 0 := ⟨_, _, "OrderRows3$Line", cls2, by decide, (ev_tb 374 (by decide +kernel) (by decide +kernel)), Or.inl rfl⟩
theorem wX_hold_2 : ev_CV M_X_hold 70 M_X_lineAt 0 1 := ⟨⟨_, rfl, rfl⟩, rfl, (ev_tb 430 (by decide +kernel) (by decide +kernel)), (ev_tb 432 (by decide +kernel) (by decide +kernel)), (ev_tp 12 (by decide +kernel) (by decide +kernel)), (ev_tb 1 (by decide +kernel) (by decide +kernel)), (ev_tb 433 (by decide +kernel) (by decide +kernel)), ⟨by decide +kernel, by decide +kernel, by decide +kernel⟩, ⟨by decide, by decide⟩⟩
theorem wX_hold_11 : ev_CS M_X_hold 19 M_X_requireRange 3 := ⟨rfl, (ev_tb 103 (by decide +kernel) (by decide +kernel)), (ev_tb 104 (by decide +kernel) (by decide +kernel)), (ev_tb 1 (by decide +kernel) (by decide +kernel)), (ev_tb 105 (by decide +kernel) (by decide +kernel)), ⟨by decide +kernel, by decide +kernel, by decide +kernel⟩, ⟨by decide, by decide⟩⟩
theorem kX_74 : ev_FL "OrderRows3" 74 2 2 := ⟨_, _, "OrderRows3$Line", cls2, by decide, (ev_tb 378 (by decide +kernel) (by decide +kernel)), Or.inl rfl⟩
theorem wX_hold_40 : ev_CS M_X_hold 48 M_X_requireState 1 := ⟨rfl, (ev_tb 341 (by decide +kernel) (by decide +kernel)), (ev_tb 342 (by decide +kernel) (by decide +kernel)), (ev_tb 1 (by decide +kernel) (by decide +kernel)), (ev_tb 343 (by decide +kernel) (by decide +kernel)), ⟨by decide +kernel, by decide +kernel, by decide +kernel⟩, ⟨by decide, by decide⟩⟩
theorem kX_78 : ev_FL "OrderRows3" 78 2 9 := ⟨_, _, "OrderRows3$Line", cls2, by decide, (ev_tb 396 (by decide +kernel) (by decide +kernel)), Or.inl rfl⟩
theorem wX_hold_47 : ev_CS M_X_hold 48 M_X_requireState 1 := ⟨rfl, (ev_tb 341 (by decide +kernel) (by decide +kernel)), (ev_tb 342 (by decide +kernel) (by decide +kernel)), (ev_tb 1 (by decide +kernel) (by decide +kernel)), (ev_tb 343 (by decide +kernel) (by decide +kernel)), ⟨by decide +kernel, by decide +kernel, by decide +kernel⟩, ⟨by decide, by decide⟩⟩
theorem kX_82 : ev_FL "OrderRows3" 82 2 5 := ⟨_, _, "OrderRows3$Line", cls2, by decide, (ev_tb 385 (by decide +kernel) (by decide +kernel)), Or.inl rfl⟩
theorem kX_85 : ev_FL "OrderRows3" 85 2 3 := ⟨_, _, "OrderRows3$Line", cls2, by decide, (ev_tb 381 (by decide +kernel) (by decide +kernel)), Or.inl rfl⟩
theorem wX_hold_68 : ev_CS M_X_hold 48 M_X_requireState 1 := ⟨rfl, (ev_tb 341 (by decide +kernel) (by decide +kernel)), (ev_tb 342 (by decide +kernel) (by decide +kernel)), (ev_tb 1 (by decide +kernel) (by decide +kernel)), (ev_tb 343 (by decide +kernel) (by decide +kernel)), ⟨by decide +kernel, by decide +kernel, by decide +kernel⟩, ⟨by decide, by decide⟩⟩
theorem pX_82 : ev_FP "OrderRows3" 82 2 5 (.int) := ⟨_, _, "OrderRows3$Line", cls2, by decide, (ev_tb 385 (by decide +kernel) (by decide +kernel)), Or.inl rfl, rfl, rfl⟩
theorem kX_88 : ev_FL "OrderRows3" 88 1 8 := ⟨_, _, "OrderRows3$Order", cls1, by decide, (ev_tb 232 (by decide +kernel) (by decide +kernel)), Or.inl rfl⟩
theorem pX_88 : ev_FP "OrderRows3" 88 1 8 (.int) := ⟨_, _, "OrderRows3$Order", cls1, by decide, (ev_tb 232 (by decide +kernel) (by decide +kernel)), Or.inl rfl, rfl, rfl⟩
theorem wX_pick_2 : ev_CV M_X_pick 70 M_X_lineAt 0 1 := ⟨⟨_, rfl, rfl⟩, rfl, (ev_tb 430 (by decide +kernel) (by decide +kernel)), (ev_tb 432 (by decide +kernel) (by decide +kernel)), (ev_tp 12 (by decide +kernel) (by decide +kernel)), (ev_tb 1 (by decide +kernel) (by decide +kernel)), (ev_tb 433 (by decide +kernel) (by decide +kernel)), ⟨by decide +kernel, by decide +kernel, by decide +kernel⟩, ⟨by decide, by decide⟩⟩
theorem wX_pick_11 : ev_CS M_X_pick 19 M_X_requireRange 3 := ⟨rfl, (ev_tb 103 (by decide +kernel) (by decide +kernel)), (ev_tb 104 (by decide +kernel) (by decide +kernel)), (ev_tb 1 (by decide +kernel) (by decide +kernel)), (ev_tb 105 (by decide +kernel) (by decide +kernel)), ⟨by decide +kernel, by decide +kernel, by decide +kernel⟩, ⟨by decide, by decide⟩⟩
theorem wX_pick_30 : ev_CS M_X_pick 48 M_X_requireState 1 := ⟨rfl, (ev_tb 341 (by decide +kernel) (by decide +kernel)), (ev_tb 342 (by decide +kernel) (by decide +kernel)), (ev_tb 1 (by decide +kernel) (by decide +kernel)), (ev_tb 343 (by decide +kernel) (by decide +kernel)), ⟨by decide +kernel, by decide +kernel, by decide +kernel⟩, ⟨by decide, by decide⟩⟩
theorem wX_pick_37 : ev_CV M_X_pick 91 M_O_isBlocked 1 0 := ⟨⟨_, rfl, rfl⟩, rfl, (ev_tb 442 (by decide +kernel) (by decide +kernel)), (ev_tb 443 (by decide +kernel) (by decide +kernel)), (ev_tb 444 (by decide +kernel) (by decide +kernel)), (ev_tb 13 (by decide +kernel) (by decide +kernel)), (ev_tb 445 (by decide +kernel) (by decide +kernel)), ⟨by decide +kernel, by decide +kernel, by decide +kernel⟩, ⟨by decide, by decide⟩⟩
theorem wX_pick_48 : ev_CS M_X_pick 48 M_X_requireState 1 := ⟨rfl, (ev_tb 341 (by decide +kernel) (by decide +kernel)), (ev_tb 342 (by decide +kernel) (by decide +kernel)), (ev_tb 1 (by decide +kernel) (by decide +kernel)), (ev_tb 343 (by decide +kernel) (by decide +kernel)), ⟨by decide +kernel, by decide +kernel, by decide +kernel⟩, ⟨by decide, by decide⟩⟩
theorem kX_95 : ev_FL "OrderRows3" 95 2 6 := ⟨_, _, "OrderRows3$Line", cls2, by decide, (ev_tb 388 (by decide +kernel) (by decide +kernel)), Or.inl rfl⟩
theorem wX_pick_69 : ev_CS M_X_pick 48 M_X_requireState 1 := ⟨rfl, (ev_tb 341 (by decide +kernel) (by decide +kernel)), (ev_tb 342 (by decide +kernel) (by decide +kernel)), (ev_tb 1 (by decide +kernel) (by decide +kernel)), (ev_tb 343 (by decide +kernel) (by decide +kernel)), ⟨by decide +kernel, by decide +kernel, by decide +kernel⟩, ⟨by decide, by decide⟩⟩
theorem pX_95 : ev_FP "OrderRows3" 95 2 6 (.int) := ⟨_, _, "OrderRows3$Line", cls2, by decide, (ev_tb 388 (by decide +kernel) (by decide +kernel)), Or.inl rfl, rfl, rfl⟩
theorem wX_goOn_2 : ev_CV M_X_goOn 41 M_X_orderAt 0 1 := ⟨⟨_, rfl, rfl⟩, rfl, (ev_tb 321 (by decide +kernel) (by decide +kernel)), (ev_tb 323 (by decide +kernel) (by decide +kernel)), (ev_tp 9 (by decide +kernel) (by decide +kernel)), (ev_tb 1 (by decide +kernel) (by decide +kernel)), (ev_tb 324 (by decide +kernel) (by decide +kernel)), ⟨by decide +kernel, by decide +kernel, by decide +kernel⟩, ⟨by decide, by decide⟩⟩
theorem wX_goOn_19 : ev_CS M_X_goOn 48 M_X_requireState 1 := ⟨rfl, (ev_tb 341 (by decide +kernel) (by decide +kernel)), (ev_tb 342 (by decide +kernel) (by decide +kernel)), (ev_tb 1 (by decide +kernel) (by decide +kernel)), (ev_tb 343 (by decide +kernel) (by decide +kernel)), ⟨by decide +kernel, by decide +kernel, by decide +kernel⟩, ⟨by decide, by decide⟩⟩
theorem wX_goOn_23 : ev_CV M_X_goOn 91 M_O_isBlocked 1 0 := ⟨⟨_, rfl, rfl⟩, rfl, (ev_tb 442 (by decide +kernel) (by decide +kernel)), (ev_tb 443 (by decide +kernel) (by decide +kernel)), (ev_tb 444 (by decide +kernel) (by decide +kernel)), (ev_tb 13 (by decide +kernel) (by decide +kernel)), (ev_tb 445 (by decide +kernel) (by decide +kernel)), ⟨by decide +kernel, by decide +kernel, by decide +kernel⟩, ⟨by decide, by decide⟩⟩
theorem wX_goOn_30 : ev_CV M_X_goOn 98 M_O_meetsNextPhase 1 0 := ⟨⟨_, rfl, rfl⟩, rfl, (ev_tb 453 (by decide +kernel) (by decide +kernel)), (ev_tb 454 (by decide +kernel) (by decide +kernel)), (ev_tb 455 (by decide +kernel) (by decide +kernel)), (ev_tb 13 (by decide +kernel) (by decide +kernel)), (ev_tb 456 (by decide +kernel) (by decide +kernel)), ⟨by decide +kernel, by decide +kernel, by decide +kernel⟩, ⟨by decide, by decide⟩⟩
theorem wX_goOn_47 : ev_CV M_X_goOn 101 M_O_shipAllPicked 1 0 := ⟨⟨_, rfl, rfl⟩, rfl, (ev_tb 492 (by decide +kernel) (by decide +kernel)), (ev_tb 493 (by decide +kernel) (by decide +kernel)), (ev_tb 494 (by decide +kernel) (by decide +kernel)), (ev_tb 13 (by decide +kernel) (by decide +kernel)), (ev_tb 495 (by decide +kernel) (by decide +kernel)), ⟨by decide +kernel, by decide +kernel, by decide +kernel⟩, ⟨by decide, by decide⟩⟩
theorem pX_45 : ev_FP "OrderRows3" 45 1 6 (.int) := ⟨_, _, "OrderRows3$Order", cls1, by decide, (ev_tb 228 (by decide +kernel) (by decide +kernel)), Or.inl rfl, rfl, rfl⟩
theorem wX_change_2 : ev_CV M_X_change 70 M_X_lineAt 0 1 := ⟨⟨_, rfl, rfl⟩, rfl, (ev_tb 430 (by decide +kernel) (by decide +kernel)), (ev_tb 432 (by decide +kernel) (by decide +kernel)), (ev_tp 12 (by decide +kernel) (by decide +kernel)), (ev_tb 1 (by decide +kernel) (by decide +kernel)), (ev_tb 433 (by decide +kernel) (by decide +kernel)), ⟨by decide +kernel, by decide +kernel, by decide +kernel⟩, ⟨by decide, by decide⟩⟩
theorem wX_change_10 : ev_CS M_X_change 19 M_X_requireRange 3 := ⟨rfl, (ev_tb 103 (by decide +kernel) (by decide +kernel)), (ev_tb 104 (by decide +kernel) (by decide +kernel)), (ev_tb 1 (by decide +kernel) (by decide +kernel)), (ev_tb 105 (by decide +kernel) (by decide +kernel)), ⟨by decide +kernel, by decide +kernel, by decide +kernel⟩, ⟨by decide, by decide⟩⟩
theorem wX_change_15 : ev_CS M_X_change 104 M_X_requireChangeValue 2 := ⟨rfl, (ev_tb 503 (by decide +kernel) (by decide +kernel)), (ev_tb 504 (by decide +kernel) (by decide +kernel)), (ev_tb 1 (by decide +kernel) (by decide +kernel)), (ev_tb 505 (by decide +kernel) (by decide +kernel)), ⟨by decide +kernel, by decide +kernel, by decide +kernel⟩, ⟨by decide, by decide⟩⟩
theorem wX_change_23 : ev_CS M_X_change 48 M_X_requireState 1 := ⟨rfl, (ev_tb 341 (by decide +kernel) (by decide +kernel)), (ev_tb 342 (by decide +kernel) (by decide +kernel)), (ev_tb 1 (by decide +kernel) (by decide +kernel)), (ev_tb 343 (by decide +kernel) (by decide +kernel)), ⟨by decide +kernel, by decide +kernel, by decide +kernel⟩, ⟨by decide, by decide⟩⟩
theorem wX_change_35 : ev_CS M_X_change 108 M_X_phaseLetsChange 2 := ⟨rfl, (ev_tb 506 (by decide +kernel) (by decide +kernel)), (ev_tb 507 (by decide +kernel) (by decide +kernel)), (ev_tb 1 (by decide +kernel) (by decide +kernel)), (ev_tb 508 (by decide +kernel) (by decide +kernel)), ⟨by decide +kernel, by decide +kernel, by decide +kernel⟩, ⟨by decide, by decide⟩⟩
theorem wX_change_51 : ev_CV M_X_change 112 M_L_hasRule 2 1 := ⟨⟨_, rfl, rfl⟩, rfl, (ev_tb 509 (by decide +kernel) (by decide +kernel)), (ev_tb 473 (by decide +kernel) (by decide +kernel)), (ev_tb 474 (by decide +kernel) (by decide +kernel)), (ev_tb 20 (by decide +kernel) (by decide +kernel)), (ev_tb 475 (by decide +kernel) (by decide +kernel)), ⟨by decide +kernel, by decide +kernel, by decide +kernel⟩, ⟨by decide, by decide⟩⟩
theorem wX_change_54 : ev_CS M_X_change 48 M_X_requireState 1 := ⟨rfl, (ev_tb 341 (by decide +kernel) (by decide +kernel)), (ev_tb 342 (by decide +kernel) (by decide +kernel)), (ev_tb 1 (by decide +kernel) (by decide +kernel)), (ev_tb 343 (by decide +kernel) (by decide +kernel)), ⟨by decide +kernel, by decide +kernel, by decide +kernel⟩, ⟨by decide, by decide⟩⟩
theorem kX_116 : ev_FL "OrderRows3" 116 2 1 := ⟨_, _, "OrderRows3$Line", cls2, by decide, (ev_tb 376 (by decide +kernel) (by decide +kernel)), Or.inl rfl⟩
theorem wX_change_71 : ev_CS M_X_change 48 M_X_requireState 1 := ⟨rfl, (ev_tb 341 (by decide +kernel) (by decide +kernel)), (ev_tb 342 (by decide +kernel) (by decide +kernel)), (ev_tb 1 (by decide +kernel) (by decide +kernel)), (ev_tb 343 (by decide +kernel) (by decide +kernel)), ⟨by decide +kernel, by decide +kernel, by decide +kernel⟩, ⟨by decide, by decide⟩⟩
theorem wX_change_78 : ev_CS M_X_change 119 M_X_applyChange 3 := ⟨rfl, (ev_tb 510 (by decide +kernel) (by decide +kernel)), (ev_tb 511 (by decide +kernel) (by decide +kernel)), (ev_tb 1 (by decide +kernel) (by decide +kernel)), (ev_tb 512 (by decide +kernel) (by decide +kernel)), ⟨by decide +kernel, by decide +kernel, by decide +kernel⟩, ⟨by decide, by decide⟩⟩
theorem wX_move_2 : ev_CV M_X_move 41 M_X_orderAt 0 1 := ⟨⟨_, rfl, rfl⟩, rfl, (ev_tb 321 (by decide +kernel) (by decide +kernel)), (ev_tb 323 (by decide +kernel) (by decide +kernel)), (ev_tp 9 (by decide +kernel) (by decide +kernel)), (ev_tb 1 (by decide +kernel) (by decide +kernel)), (ev_tb 324 (by decide +kernel) (by decide +kernel)), ⟨by decide +kernel, by decide +kernel, by decide +kernel⟩, ⟨by decide, by decide⟩⟩
theorem wX_move_11 : ev_CS M_X_move 19 M_X_requireRange 3 := ⟨rfl, (ev_tb 103 (by decide +kernel) (by decide +kernel)), (ev_tb 104 (by decide +kernel) (by decide +kernel)), (ev_tb 1 (by decide +kernel) (by decide +kernel)), (ev_tb 105 (by decide +kernel) (by decide +kernel)), ⟨by decide +kernel, by decide +kernel, by decide +kernel⟩, ⟨by decide, by decide⟩⟩
theorem pX_123 : ev_FP "OrderRows3" 123 1 5 (.int) := ⟨_, _, "OrderRows3$Order", cls1, by decide, (ev_tb 226 (by decide +kernel) (by decide +kernel)), Or.inl rfl, rfl, rfl⟩
theorem wX_cancel_2 : ev_CV M_X_cancel 70 M_X_lineAt 0 1 := ⟨⟨_, rfl, rfl⟩, rfl, (ev_tb 430 (by decide +kernel) (by decide +kernel)), (ev_tb 432 (by decide +kernel) (by decide +kernel)), (ev_tp 12 (by decide +kernel) (by decide +kernel)), (ev_tb 1 (by decide +kernel) (by decide +kernel)), (ev_tb 433 (by decide +kernel) (by decide +kernel)), ⟨by decide +kernel, by decide +kernel, by decide +kernel⟩, ⟨by decide, by decide⟩⟩
theorem wX_cancel_15 : ev_CS M_X_cancel 48 M_X_requireState 1 := ⟨rfl, (ev_tb 341 (by decide +kernel) (by decide +kernel)), (ev_tb 342 (by decide +kernel) (by decide +kernel)), (ev_tb 1 (by decide +kernel) (by decide +kernel)), (ev_tb 343 (by decide +kernel) (by decide +kernel)), ⟨by decide +kernel, by decide +kernel, by decide +kernel⟩, ⟨by decide, by decide⟩⟩
theorem wX_cancel_31 : ev_CS M_X_cancel 48 M_X_requireState 1 := ⟨rfl, (ev_tb 341 (by decide +kernel) (by decide +kernel)), (ev_tb 342 (by decide +kernel) (by decide +kernel)), (ev_tb 1 (by decide +kernel) (by decide +kernel)), (ev_tb 343 (by decide +kernel) (by decide +kernel)), ⟨by decide +kernel, by decide +kernel, by decide +kernel⟩, ⟨by decide, by decide⟩⟩
theorem pX_78 : ev_FP "OrderRows3" 78 2 9 (.boolean) := ⟨_, _, "OrderRows3$Line", cls2, by decide, (ev_tb 396 (by decide +kernel) (by decide +kernel)), Or.inl rfl, rfl, rfl⟩
theorem pX_85 : ev_FP "OrderRows3" 85 2 3 (.int) := ⟨_, _, "OrderRows3$Line", cls2, by decide, (ev_tb 381 (by decide +kernel) (by decide +kernel)), Or.inl rfl, rfl, rfl⟩
theorem wX_cancel_71 : ev_CV M_X_cancel 126 M_O_hasLiveLine 1 0 := ⟨⟨_, rfl, rfl⟩, rfl, (ev_tb 528 (by decide +kernel) (by decide +kernel)), (ev_tb 458 (by decide +kernel) (by decide +kernel)), (ev_tb 459 (by decide +kernel) (by decide +kernel)), (ev_tb 13 (by decide +kernel) (by decide +kernel)), (ev_tb 460 (by decide +kernel) (by decide +kernel)), ⟨by decide +kernel, by decide +kernel, by decide +kernel⟩, ⟨by decide, by decide⟩⟩
theorem wX_join_2 : ev_CV M_X_join 41 M_X_orderAt 0 1 := ⟨⟨_, rfl, rfl⟩, rfl, (ev_tb 321 (by decide +kernel) (by decide +kernel)), (ev_tb 323 (by decide +kernel) (by decide +kernel)), (ev_tp 9 (by decide +kernel) (by decide +kernel)), (ev_tb 1 (by decide +kernel) (by decide +kernel)), (ev_tb 324 (by decide +kernel) (by decide +kernel)), ⟨by decide +kernel, by decide +kernel, by decide +kernel⟩, ⟨by decide, by decide⟩⟩
theorem wX_join_8 : ev_CV M_X_join 41 M_X_orderAt 0 1 := ⟨⟨_, rfl, rfl⟩, rfl, (ev_tb 321 (by decide +kernel) (by decide +kernel)), (ev_tb 323 (by decide +kernel) (by decide +kernel)), (ev_tp 9 (by decide +kernel) (by decide +kernel)), (ev_tb 1 (by decide +kernel) (by decide +kernel)), (ev_tb 324 (by decide +kernel) (by decide +kernel)), ⟨by decide +kernel, by decide +kernel, by decide +kernel⟩, ⟨by decide, by decide⟩⟩
theorem wX_join_24 : ev_CS M_X_join 48 M_X_requireState 1 := ⟨rfl, (ev_tb 341 (by decide +kernel) (by decide +kernel)), (ev_tb 342 (by decide +kernel) (by decide +kernel)), (ev_tb 1 (by decide +kernel) (by decide +kernel)), (ev_tb 343 (by decide +kernel) (by decide +kernel)), ⟨by decide +kernel, by decide +kernel, by decide +kernel⟩, ⟨by decide, by decide⟩⟩
theorem wX_join_47 : ev_CS M_X_join 48 M_X_requireState 1 := ⟨rfl, (ev_tb 341 (by decide +kernel) (by decide +kernel)), (ev_tb 342 (by decide +kernel) (by decide +kernel)), (ev_tb 1 (by decide +kernel) (by decide +kernel)), (ev_tb 343 (by decide +kernel) (by decide +kernel)), ⟨by decide +kernel, by decide +kernel, by decide +kernel⟩, ⟨by decide, by decide⟩⟩
theorem kX_129 : ev_FL "OrderRows3" 129 1 1 := ⟨_, _, "OrderRows3$Order", cls1, by decide, (ev_tb 218 (by decide +kernel) (by decide +kernel)), Or.inl rfl⟩
theorem wX_join_67 : ev_CS M_X_join 48 M_X_requireState 1 := ⟨rfl, (ev_tb 341 (by decide +kernel) (by decide +kernel)), (ev_tb 342 (by decide +kernel) (by decide +kernel)), (ev_tb 1 (by decide +kernel) (by decide +kernel)), (ev_tb 343 (by decide +kernel) (by decide +kernel)), ⟨by decide +kernel, by decide +kernel, by decide +kernel⟩, ⟨by decide, by decide⟩⟩
theorem wX_join_71 : ev_CV M_X_join 91 M_O_isBlocked 1 0 := ⟨⟨_, rfl, rfl⟩, rfl, (ev_tb 442 (by decide +kernel) (by decide +kernel)), (ev_tb 443 (by decide +kernel) (by decide +kernel)), (ev_tb 444 (by decide +kernel) (by decide +kernel)), (ev_tb 13 (by decide +kernel) (by decide +kernel)), (ev_tb 445 (by decide +kernel) (by decide +kernel)), ⟨by decide +kernel, by decide +kernel, by decide +kernel⟩, ⟨by decide, by decide⟩⟩
theorem wX_join_79 : ev_CV M_X_join 91 M_O_isBlocked 1 0 := ⟨⟨_, rfl, rfl⟩, rfl, (ev_tb 442 (by decide +kernel) (by decide +kernel)), (ev_tb 443 (by decide +kernel) (by decide +kernel)), (ev_tb 444 (by decide +kernel) (by decide +kernel)), (ev_tb 13 (by decide +kernel) (by decide +kernel)), (ev_tb 445 (by decide +kernel) (by decide +kernel)), ⟨by decide +kernel, by decide +kernel, by decide +kernel⟩, ⟨by decide, by decide⟩⟩
theorem wX_join_90 : ev_CS M_X_join 48 M_X_requireState 1 := ⟨rfl, (ev_tb 341 (by decide +kernel) (by decide +kernel)), (ev_tb 342 (by decide +kernel) (by decide +kernel)), (ev_tb 1 (by decide +kernel) (by decide +kernel)), (ev_tb 343 (by decide +kernel) (by decide +kernel)), ⟨by decide +kernel, by decide +kernel, by decide +kernel⟩, ⟨by decide, by decide⟩⟩
theorem wX_join_97 : ev_CV M_X_join 53 M_A_size 3 0 := ⟨⟨_, rfl, rfl⟩, rfl, (ev_tb 67 (by decide +kernel) (by decide +kernel)), (ev_tb 68 (by decide +kernel) (by decide +kernel)), (ev_tb 69 (by decide +kernel) (by decide +kernel)), (ev_tb 4 (by decide +kernel) (by decide +kernel)), (ev_tb 70 (by decide +kernel) (by decide +kernel)), ⟨by decide +kernel, by decide +kernel, by decide +kernel⟩, ⟨by decide, by decide⟩⟩
theorem wX_join_105 : ev_CV M_X_join 53 M_A_size 3 0 := ⟨⟨_, rfl, rfl⟩, rfl, (ev_tb 67 (by decide +kernel) (by decide +kernel)), (ev_tb 68 (by decide +kernel) (by decide +kernel)), (ev_tb 69 (by decide +kernel) (by decide +kernel)), (ev_tb 4 (by decide +kernel) (by decide +kernel)), (ev_tb 70 (by decide +kernel) (by decide +kernel)), ⟨by decide +kernel, by decide +kernel, by decide +kernel⟩, ⟨by decide, by decide⟩⟩
theorem wX_join_119 : ev_CS M_X_join 57 M_X_requireRoom 1 := ⟨rfl, (ev_tb 185 (by decide +kernel) (by decide +kernel)), (ev_tb 186 (by decide +kernel) (by decide +kernel)), (ev_tb 1 (by decide +kernel) (by decide +kernel)), (ev_tb 187 (by decide +kernel) (by decide +kernel)), ⟨by decide +kernel, by decide +kernel, by decide +kernel⟩, ⟨by decide, by decide⟩⟩
theorem wX_join_125 : ev_CV M_X_join 132 M_O_takeLinesOf 1 1 := ⟨⟨_, rfl, rfl⟩, rfl, (ev_tb 536 (by decide +kernel) (by decide +kernel)), (ev_tb 537 (by decide +kernel) (by decide +kernel)), (ev_tb 538 (by decide +kernel) (by decide +kernel)), (ev_tb 13 (by decide +kernel) (by decide +kernel)), (ev_tb 539 (by decide +kernel) (by decide +kernel)), ⟨by decide +kernel, by decide +kernel, by decide +kernel⟩, ⟨by decide, by decide⟩⟩
theorem pX_136 : ev_FP "OrderRows3" 136 1 9 (.int) := ⟨_, _, "OrderRows3$Order", cls1, by decide, (ev_tb 234 (by decide +kernel) (by decide +kernel)), Or.inl rfl, rfl, rfl⟩
theorem wX_block_2 : ev_CV M_X_block 41 M_X_orderAt 0 1 := ⟨⟨_, rfl, rfl⟩, rfl, (ev_tb 321 (by decide +kernel) (by decide +kernel)), (ev_tb 323 (by decide +kernel) (by decide +kernel)), (ev_tp 9 (by decide +kernel) (by decide +kernel)), (ev_tb 1 (by decide +kernel) (by decide +kernel)), (ev_tb 324 (by decide +kernel) (by decide +kernel)), ⟨by decide +kernel, by decide +kernel, by decide +kernel⟩, ⟨by decide, by decide⟩⟩
theorem wX_block_11 : ev_CS M_X_block 19 M_X_requireRange 3 := ⟨rfl, (ev_tb 103 (by decide +kernel) (by decide +kernel)), (ev_tb 104 (by decide +kernel) (by decide +kernel)), (ev_tb 1 (by decide +kernel) (by decide +kernel)), (ev_tb 105 (by decide +kernel) (by decide +kernel)), ⟨by decide +kernel, by decide +kernel, by decide +kernel⟩, ⟨by decide, by decide⟩⟩
theorem wX_block_28 : ev_CS M_X_block 48 M_X_requireState 1 := ⟨rfl, (ev_tb 341 (by decide +kernel) (by decide +kernel)), (ev_tb 342 (by decide +kernel) (by decide +kernel)), (ev_tb 1 (by decide +kernel) (by decide +kernel)), (ev_tb 343 (by decide +kernel) (by decide +kernel)), ⟨by decide +kernel, by decide +kernel, by decide +kernel⟩, ⟨by decide, by decide⟩⟩
theorem kX_139 : ev_FL "OrderRows3" 139 1 7 := ⟨_, _, "OrderRows3$Order", cls1, by decide, (ev_tb 230 (by decide +kernel) (by decide +kernel)), Or.inl rfl⟩
theorem wX_block_65 : ev_CS M_X_block 48 M_X_requireState 1 := ⟨rfl, (ev_tb 341 (by decide +kernel) (by decide +kernel)), (ev_tb 342 (by decide +kernel) (by decide +kernel)), (ev_tb 1 (by decide +kernel) (by decide +kernel)), (ev_tb 343 (by decide +kernel) (by decide +kernel)), ⟨by decide +kernel, by decide +kernel, by decide +kernel⟩, ⟨by decide, by decide⟩⟩
theorem pX_139 : ev_FP "OrderRows3" 139 1 7 (.int) := ⟨_, _, "OrderRows3$Order", cls1, by decide, (ev_tb 230 (by decide +kernel) (by decide +kernel)), Or.inl rfl, rfl, rfl⟩
theorem wX_block_96 : ev_CS M_X_block 142 M_Ji_bitCount 1 := ⟨rfl, (ev_tb 552 (by decide +kernel) (by decide +kernel)), (ev_tb 553 (by decide +kernel) (by decide +kernel)), (ev_tb 21 (by decide +kernel) (by decide +kernel)), (ev_tb 554 (by decide +kernel) (by decide +kernel)), ⟨by decide +kernel, by decide +kernel, by decide +kernel⟩, ⟨by decide, by decide⟩⟩
theorem wX_backorder_2 : ev_CV M_X_backorder 70 M_X_lineAt 0 1 := ⟨⟨_, rfl, rfl⟩, rfl, (ev_tb 430 (by decide +kernel) (by decide +kernel)), (ev_tb 432 (by decide +kernel) (by decide +kernel)), (ev_tp 12 (by decide +kernel) (by decide +kernel)), (ev_tb 1 (by decide +kernel) (by decide +kernel)), (ev_tb 433 (by decide +kernel) (by decide +kernel)), ⟨by decide +kernel, by decide +kernel, by decide +kernel⟩, ⟨by decide, by decide⟩⟩
theorem wX_backorder_24 : ev_CS M_X_backorder 48 M_X_requireState 1 := ⟨rfl, (ev_tb 341 (by decide +kernel) (by decide +kernel)), (ev_tb 342 (by decide +kernel) (by decide +kernel)), (ev_tb 1 (by decide +kernel) (by decide +kernel)), (ev_tb 343 (by decide +kernel) (by decide +kernel)), ⟨by decide +kernel, by decide +kernel, by decide +kernel⟩, ⟨by decide, by decide⟩⟩
theorem wX_backorder_28 : ev_CV M_X_backorder 148 M_L_awaitsBackorder 2 0 := ⟨⟨_, rfl, rfl⟩, rfl, (ev_tb 565 (by decide +kernel) (by decide +kernel)), (ev_tb 485 (by decide +kernel) (by decide +kernel)), (ev_tb 486 (by decide +kernel) (by decide +kernel)), (ev_tb 20 (by decide +kernel) (by decide +kernel)), (ev_tb 487 (by decide +kernel) (by decide +kernel)), ⟨by decide +kernel, by decide +kernel, by decide +kernel⟩, ⟨by decide, by decide⟩⟩
theorem wX_backorder_31 : ev_CS M_X_backorder 48 M_X_requireState 1 := ⟨rfl, (ev_tb 341 (by decide +kernel) (by decide +kernel)), (ev_tb 342 (by decide +kernel) (by decide +kernel)), (ev_tb 1 (by decide +kernel) (by decide +kernel)), (ev_tb 343 (by decide +kernel) (by decide +kernel)), ⟨by decide +kernel, by decide +kernel, by decide +kernel⟩, ⟨by decide, by decide⟩⟩
theorem wX_backorder_35 : ev_CV M_X_backorder 28 M_X_requireRoomForOrder 0 0 := ⟨⟨_, rfl, rfl⟩, rfl, (ev_tb 181 (by decide +kernel) (by decide +kernel)), (ev_tb 183 (by decide +kernel) (by decide +kernel)), (ev_tp 4 (by decide +kernel) (by decide +kernel)), (ev_tb 1 (by decide +kernel) (by decide +kernel)), (ev_tb 184 (by decide +kernel) (by decide +kernel)), ⟨by decide +kernel, by decide +kernel, by decide +kernel⟩, ⟨by decide, by decide⟩⟩
theorem wX_backorder_39 : ev_CV M_X_backorder 60 M_X_requireRoomForLine 0 0 := ⟨⟨_, rfl, rfl⟩, rfl, (ev_tb 360 (by decide +kernel) (by decide +kernel)), (ev_tb 362 (by decide +kernel) (by decide +kernel)), (ev_tp 10 (by decide +kernel) (by decide +kernel)), (ev_tb 1 (by decide +kernel) (by decide +kernel)), (ev_tb 363 (by decide +kernel) (by decide +kernel)), ⟨by decide +kernel, by decide +kernel, by decide +kernel⟩, ⟨by decide, by decide⟩⟩
theorem kX_151 : ev_FL "OrderRows3" 151 1 3 := ⟨_, _, "OrderRows3$Order", cls1, by decide, (ev_tb 222 (by decide +kernel) (by decide +kernel)), Or.inl rfl⟩
theorem kX_123 : ev_FL "OrderRows3" 123 1 5 := ⟨_, _, "OrderRows3$Order", cls1, by decide, (ev_tb 226 (by decide +kernel) (by decide +kernel)), Or.inl rfl⟩
theorem wX_backorder_56 : ev_CV M_X_backorder 31 M_X_addOrder 0 4 := ⟨⟨_, rfl, rfl⟩, rfl, (ev_tb 204 (by decide +kernel) (by decide +kernel)), (ev_tb 206 (by decide +kernel) (by decide +kernel)), (ev_tp 5 (by decide +kernel) (by decide +kernel)), (ev_tb 1 (by decide +kernel) (by decide +kernel)), (ev_tb 207 (by decide +kernel) (by decide +kernel)), ⟨by decide +kernel, by decide +kernel, by decide +kernel⟩, ⟨by decide, by decide⟩⟩
theorem wX_backorder_69 : ev_CV M_X_backorder 154 M_L_missing 2 0 := ⟨⟨_, rfl, rfl⟩, rfl, (ev_tb 566 (by decide +kernel) (by decide +kernel)), (ev_tb 489 (by decide +kernel) (by decide +kernel)), (ev_tb 490 (by decide +kernel) (by decide +kernel)), (ev_tb 20 (by decide +kernel) (by decide +kernel)), (ev_tb 491 (by decide +kernel) (by decide +kernel)), ⟨by decide +kernel, by decide +kernel, by decide +kernel⟩, ⟨by decide, by decide⟩⟩
theorem kX_157 : ev_FL "OrderRows3" 157 2 4 := ⟨_, _, "OrderRows3$Line", cls2, by decide, (ev_tb 383 (by decide +kernel) (by decide +kernel)), Or.inl rfl⟩
theorem wX_backorder_76 : ev_CV M_X_backorder 63 M_X_addLine 0 4 := ⟨⟨_, rfl, rfl⟩, rfl, (ev_tb 364 (by decide +kernel) (by decide +kernel)), (ev_tb 366 (by decide +kernel) (by decide +kernel)), (ev_tp 11 (by decide +kernel) (by decide +kernel)), (ev_tb 1 (by decide +kernel) (by decide +kernel)), (ev_tb 367 (by decide +kernel) (by decide +kernel)), ⟨by decide +kernel, by decide +kernel, by decide +kernel⟩, ⟨by decide, by decide⟩⟩
theorem pX_160 : ev_FP "OrderRows3" 160 2 10 (.boolean) := ⟨_, _, "OrderRows3$Line", cls2, by decide, (ev_tb 399 (by decide +kernel) (by decide +kernel)), Or.inl rfl, rfl, rfl⟩
theorem wX_ready_1 : ev_CS M_X_ready 163 M_X_requireNotNegative 1 := ⟨rfl, (ev_tb 574 (by decide +kernel) (by decide +kernel)), (ev_tb 575 (by decide +kernel) (by decide +kernel)), (ev_tb 1 (by decide +kernel) (by decide +kernel)), (ev_tb 576 (by decide +kernel) (by decide +kernel)), ⟨by decide +kernel, by decide +kernel, by decide +kernel⟩, ⟨by decide, by decide⟩⟩
theorem kX_10 : ev_FL "OrderRows3" 10 0 0 := ⟨_, _, "OrderRows3", cls0, by decide, (ev_tb 56 (by decide +kernel) (by decide +kernel)), Or.inl rfl⟩
theorem wX_ready_11 : ev_CV M_X_ready 53 M_A_size 3 0 := ⟨⟨_, rfl, rfl⟩, rfl, (ev_tb 67 (by decide +kernel) (by decide +kernel)), (ev_tb 68 (by decide +kernel) (by decide +kernel)), (ev_tb 69 (by decide +kernel) (by decide +kernel)), (ev_tb 4 (by decide +kernel) (by decide +kernel)), (ev_tb 70 (by decide +kernel) (by decide +kernel)), ⟨by decide +kernel, by decide +kernel, by decide +kernel⟩, ⟨by decide, by decide⟩⟩
theorem wX_ready_22 : ev_CV M_X_ready 167 M_A_get 3 1 := ⟨⟨_, rfl, rfl⟩, rfl, (ev_tb 75 (by decide +kernel) (by decide +kernel)), (ev_tb 76 (by decide +kernel) (by decide +kernel)), (ev_tb 77 (by decide +kernel) (by decide +kernel)), (ev_tb 4 (by decide +kernel) (by decide +kernel)), (ev_tb 78 (by decide +kernel) (by decide +kernel)), ⟨by decide +kernel, by decide +kernel, by decide +kernel⟩, ⟨by decide, by decide⟩⟩
theorem cX_36 : ev_CC "OrderRows3" 36 1 := ⟨_, rfl, (ev_tb 180 (by decide +kernel) (by decide +kernel))⟩
theorem wX_ready_30 : ev_CV M_X_ready 171 M_O_isWaiting 1 0 := ⟨⟨_, rfl, rfl⟩, rfl, (ev_tb 578 (by decide +kernel) (by decide +kernel)), (ev_tb 579 (by decide +kernel) (by decide +kernel)), (ev_tb 580 (by decide +kernel) (by decide +kernel)), (ev_tb 13 (by decide +kernel) (by decide +kernel)), (ev_tb 581 (by decide +kernel) (by decide +kernel)), ⟨by decide +kernel, by decide +kernel, by decide +kernel⟩, ⟨by decide, by decide⟩⟩
theorem wX_ready_38 : ev_CV M_X_ready 174 M_X_waitingBefore 0 1 := ⟨⟨_, rfl, rfl⟩, rfl, (ev_tb 583 (by decide +kernel) (by decide +kernel)), (ev_tb 585 (by decide +kernel) (by decide +kernel)), (ev_tp 16 (by decide +kernel) (by decide +kernel)), (ev_tb 1 (by decide +kernel) (by decide +kernel)), (ev_tb 586 (by decide +kernel) (by decide +kernel)), ⟨by decide +kernel, by decide +kernel, by decide +kernel⟩, ⟨by decide, by decide⟩⟩
theorem wX_told_2 : ev_CV M_X_told 41 M_X_orderAt 0 1 := ⟨⟨_, rfl, rfl⟩, rfl, (ev_tb 321 (by decide +kernel) (by decide +kernel)), (ev_tb 323 (by decide +kernel) (by decide +kernel)), (ev_tp 9 (by decide +kernel) (by decide +kernel)), (ev_tb 1 (by decide +kernel) (by decide +kernel)), (ev_tb 324 (by decide +kernel) (by decide +kernel)), ⟨by decide +kernel, by decide +kernel, by decide +kernel⟩, ⟨by decide, by decide⟩⟩
theorem kX_178 : ev_FL "OrderRows3" 178 1 2 := ⟨_, _, "OrderRows3$Order", cls1, by decide, (ev_tb 220 (by decide +kernel) (by decide +kernel)), Or.inl rfl⟩
theorem wX_told_94 : ev_CV M_X_told 53 M_A_size 3 0 := ⟨⟨_, rfl, rfl⟩, rfl, (ev_tb 67 (by decide +kernel) (by decide +kernel)), (ev_tb 68 (by decide +kernel) (by decide +kernel)), (ev_tb 69 (by decide +kernel) (by decide +kernel)), (ev_tb 4 (by decide +kernel) (by decide +kernel)), (ev_tb 70 (by decide +kernel) (by decide +kernel)), ⟨by decide +kernel, by decide +kernel, by decide +kernel⟩, ⟨by decide, by decide⟩⟩
theorem kX_136 : ev_FL "OrderRows3" 136 1 9 := ⟨_, _, "OrderRows3$Order", cls1, by decide, (ev_tb 234 (by decide +kernel) (by decide +kernel)), Or.inl rfl⟩
theorem wX_told_109 : ev_CV M_X_told 181 M_O_missing 1 0 := ⟨⟨_, rfl, rfl⟩, rfl, (ev_tb 598 (by decide +kernel) (by decide +kernel)), (ev_tb 599 (by decide +kernel) (by decide +kernel)), (ev_tb 600 (by decide +kernel) (by decide +kernel)), (ev_tb 13 (by decide +kernel) (by decide +kernel)), (ev_tb 601 (by decide +kernel) (by decide +kernel)), ⟨by decide +kernel, by decide +kernel, by decide +kernel⟩, ⟨by decide, by decide⟩⟩
theorem tX_told_113 : ev_TH M_X_told 182 184 186 "java/lang/IllegalArgumentException" "an order tells 0 to 9" := ⟨by decide +kernel, (ev_tb 106 (by decide +kernel) (by decide +kernel)), (ev_tb 9 (by decide +kernel) (by decide +kernel)), by decide +kernel, th_IAE_186, tg_IAE_186_182, by decide, by decide⟩
theorem wX_lineOf_2 : ev_CV M_X_lineOf 41 M_X_orderAt 0 1 := ⟨⟨_, rfl, rfl⟩, rfl, (ev_tb 321 (by decide +kernel) (by decide +kernel)), (ev_tb 323 (by decide +kernel) (by decide +kernel)), (ev_tp 9 (by decide +kernel) (by decide +kernel)), (ev_tb 1 (by decide +kernel) (by decide +kernel)), (ev_tb 324 (by decide +kernel) (by decide +kernel)), ⟨by decide +kernel, by decide +kernel, by decide +kernel⟩, ⟨by decide, by decide⟩⟩
theorem wX_lineOf_7 : ev_CS M_X_lineOf 163 M_X_requireNotNegative 1 := ⟨rfl, (ev_tb 574 (by decide +kernel) (by decide +kernel)), (ev_tb 575 (by decide +kernel) (by decide +kernel)), (ev_tb 1 (by decide +kernel) (by decide +kernel)), (ev_tb 576 (by decide +kernel) (by decide +kernel)), ⟨by decide +kernel, by decide +kernel, by decide +kernel⟩, ⟨by decide, by decide⟩⟩
theorem wX_lineOf_15 : ev_CV M_X_lineOf 53 M_A_size 3 0 := ⟨⟨_, rfl, rfl⟩, rfl, (ev_tb 67 (by decide +kernel) (by decide +kernel)), (ev_tb 68 (by decide +kernel) (by decide +kernel)), (ev_tb 69 (by decide +kernel) (by decide +kernel)), (ev_tb 4 (by decide +kernel) (by decide +kernel)), (ev_tb 70 (by decide +kernel) (by decide +kernel)), ⟨by decide +kernel, by decide +kernel, by decide +kernel⟩, ⟨by decide, by decide⟩⟩
theorem wX_lineOf_26 : ev_CV M_X_lineOf 167 M_A_get 3 1 := ⟨⟨_, rfl, rfl⟩, rfl, (ev_tb 75 (by decide +kernel) (by decide +kernel)), (ev_tb 76 (by decide +kernel) (by decide +kernel)), (ev_tb 77 (by decide +kernel) (by decide +kernel)), (ev_tb 4 (by decide +kernel) (by decide +kernel)), (ev_tb 78 (by decide +kernel) (by decide +kernel)), ⟨by decide +kernel, by decide +kernel, by decide +kernel⟩, ⟨by decide, by decide⟩⟩
theorem cX_68 : ev_CC "OrderRows3" 68 2 := ⟨_, rfl, (ev_tb 89 (by decide +kernel) (by decide +kernel))⟩
theorem wX_packed_2 : ev_CV M_X_packed 70 M_X_lineAt 0 1 := ⟨⟨_, rfl, rfl⟩, rfl, (ev_tb 430 (by decide +kernel) (by decide +kernel)), (ev_tb 432 (by decide +kernel) (by decide +kernel)), (ev_tp 12 (by decide +kernel) (by decide +kernel)), (ev_tb 1 (by decide +kernel) (by decide +kernel)), (ev_tb 433 (by decide +kernel) (by decide +kernel)), ⟨by decide +kernel, by decide +kernel, by decide +kernel⟩, ⟨by decide, by decide⟩⟩
end
section
/-! LINKS -/
theorem kX_160 : ev_FL "OrderRows3" 160 2 10 := ⟨_, _, "OrderRows3$Line", cls2, by decide, (ev_tb 399 (by decide +kernel) (by decide +kernel)), Or.inl rfl⟩
theorem kX_189 : ev_FL "OrderRows3" 189 2 7 := ⟨_, _, "OrderRows3$Line", cls2, by decide, (ev_tb 392 (by decide +kernel) (by decide +kernel)), Or.inl rfl⟩
theorem kX_192 : ev_FL "OrderRows3" 192 2 8 := ⟨_, _, "OrderRows3$Line", cls2, by decide, (ev_tb 394 (by decide +kernel) (by decide +kernel)), Or.inl rfl⟩
theorem wX_count_36 : ev_CV M_X_count 53 M_A_size 3 0 := ⟨⟨_, rfl, rfl⟩, rfl, (ev_tb 67 (by decide +kernel) (by decide +kernel)), (ev_tb 68 (by decide +kernel) (by decide +kernel)), (ev_tb 69 (by decide +kernel) (by decide +kernel)), (ev_tb 4 (by decide +kernel) (by decide +kernel)), (ev_tb 70 (by decide +kernel) (by decide +kernel)), ⟨by decide +kernel, by decide +kernel, by decide +kernel⟩, ⟨by decide, by decide⟩⟩
theorem kX_16 : ev_FL "OrderRows3" 16 0 1 := ⟨_, _, "OrderRows3", cls0, by decide, (ev_tb 57 (by decide +kernel) (by decide +kernel)), Or.inl rfl⟩
theorem wX_count_44 : ev_CV M_X_count 53 M_A_size 3 0 := ⟨⟨_, rfl, rfl⟩, rfl, (ev_tb 67 (by decide +kernel) (by decide +kernel)), (ev_tb 68 (by decide +kernel) (by decide +kernel)), (ev_tb 69 (by decide +kernel) (by decide +kernel)), (ev_tb 4 (by decide +kernel) (by decide +kernel)), (ev_tb 70 (by decide +kernel) (by decide +kernel)), ⟨by decide +kernel, by decide +kernel, by decide +kernel⟩, ⟨by decide, by decide⟩⟩
theorem wX_count_49 : ev_CV M_X_count 195 M_X_piecesHeld 0 0 := ⟨⟨_, rfl, rfl⟩, rfl, (ev_tb 71 (by decide +kernel) (by decide +kernel)), (ev_tb 73 (by decide +kernel) (by decide +kernel)), (ev_tp 0 (by decide +kernel) (by decide +kernel)), (ev_tb 1 (by decide +kernel) (by decide +kernel)), (ev_tb 74 (by decide +kernel) (by decide +kernel)), ⟨by decide +kernel, by decide +kernel, by decide +kernel⟩, ⟨by decide, by decide⟩⟩
theorem wX_count_54 : ev_CV M_X_count 198 M_X_piecesShipped 0 0 := ⟨⟨_, rfl, rfl⟩, rfl, (ev_tb 90 (by decide +kernel) (by decide +kernel)), (ev_tb 92 (by decide +kernel) (by decide +kernel)), (ev_tp 1 (by decide +kernel) (by decide +kernel)), (ev_tb 1 (by decide +kernel) (by decide +kernel)), (ev_tb 93 (by decide +kernel) (by decide +kernel)), ⟨by decide +kernel, by decide +kernel, by decide +kernel⟩, ⟨by decide, by decide⟩⟩
theorem tX_orderAt_15 : ev_TN M_X_orderAt 201 203 205 "java/util/NoSuchElementException" "no such order" := ⟨by decide +kernel, (ev_tb 325 (by decide +kernel) (by decide +kernel)), (ev_tb 18 (by decide +kernel) (by decide +kernel)), by decide +kernel, th_NSE_205, tg_NSE_205_201, by decide, by decide⟩
theorem wX_orderAt_9 : ev_CV M_X_orderAt 53 M_A_size 3 0 := ⟨⟨_, rfl, rfl⟩, rfl, (ev_tb 67 (by decide +kernel) (by decide +kernel)), (ev_tb 68 (by decide +kernel) (by decide +kernel)), (ev_tb 69 (by decide +kernel) (by decide +kernel)), (ev_tb 4 (by decide +kernel) (by decide +kernel)), (ev_tb 70 (by decide +kernel) (by decide +kernel)), ⟨by decide +kernel, by decide +kernel, by decide +kernel⟩, ⟨by decide, by decide⟩⟩
theorem wX_orderAt_30 : ev_CV M_X_orderAt 167 M_A_get 3 1 := ⟨⟨_, rfl, rfl⟩, rfl, (ev_tb 75 (by decide +kernel) (by decide +kernel)), (ev_tb 76 (by decide +kernel) (by decide +kernel)), (ev_tb 77 (by decide +kernel) (by decide +kernel)), (ev_tb 4 (by decide +kernel) (by decide +kernel)), (ev_tb 78 (by decide +kernel) (by decide +kernel)), ⟨by decide +kernel, by decide +kernel, by decide +kernel⟩, ⟨by decide, by decide⟩⟩
theorem tX_lineAt_15 : ev_TN M_X_lineAt 201 206 205 "java/util/NoSuchElementException" "no such line" := ⟨by decide +kernel, (ev_tb 325 (by decide +kernel) (by decide +kernel)), (ev_tb 18 (by decide +kernel) (by decide +kernel)), by decide +kernel, th_NSE_205, tg_NSE_205_201, by decide, by decide⟩
theorem wX_lineAt_9 : ev_CV M_X_lineAt 53 M_A_size 3 0 := ⟨⟨_, rfl, rfl⟩, rfl, (ev_tb 67 (by decide +kernel) (by decide +kernel)), (ev_tb 68 (by decide +kernel) (by decide +kernel)), (ev_tb 69 (by decide +kernel) (by decide +kernel)), (ev_tb 4 (by decide +kernel) (by decide +kernel)), (ev_tb 70 (by decide +kernel) (by decide +kernel)), ⟨by decide +kernel, by decide +kernel, by decide +kernel⟩, ⟨by decide, by decide⟩⟩
theorem wX_lineAt_30 : ev_CV M_X_lineAt 167 M_A_get 3 1 := ⟨⟨_, rfl, rfl⟩, rfl, (ev_tb 75 (by decide +kernel) (by decide +kernel)), (ev_tb 76 (by decide +kernel) (by decide +kernel)), (ev_tb 77 (by decide +kernel) (by decide +kernel)), (ev_tb 4 (by decide +kernel) (by decide +kernel)), (ev_tb 78 (by decide +kernel) (by decide +kernel)), ⟨by decide +kernel, by decide +kernel, by decide +kernel⟩, ⟨by decide, by decide⟩⟩
theorem tX_requireRange_10 : ev_TH M_X_requireRange 182 208 186 "java/lang/IllegalArgumentException" "a number outside its range" := ⟨by decide +kernel, (ev_tb 106 (by decide +kernel) (by decide +kernel)), (ev_tb 9 (by decide +kernel) (by decide +kernel)), by decide +kernel, th_IAE_186, tg_IAE_186_182, by decide, by decide⟩
theorem tX_requireNotNegative_4 : ev_TH M_X_requireNotNegative 182 210 186 "java/lang/IllegalArgumentException" "a place below 0" := ⟨by decide +kernel, (ev_tb 106 (by decide +kernel) (by decide +kernel)), (ev_tb 9 (by decide +kernel) (by decide +kernel)), by decide +kernel, th_IAE_186, tg_IAE_186_182, by decide, by decide⟩
theorem tX_requireState_4 : ev_TH M_X_requireState 212 214 216 "java/lang/IllegalStateException" "not as it is now" := ⟨by decide +kernel, (ev_tb 344 (by decide +kernel) (by decide +kernel)), (ev_tb 19 (by decide +kernel) (by decide +kernel)), by decide +kernel, th_ISE_216, tg_ISE_216_212, by decide, by decide⟩
theorem tX_requireRoom_4 : ev_TH M_X_requireRoom 217 219 221 "java/lang/UnsupportedOperationException" "no room" := ⟨by decide +kernel, (ev_tb 188 (by decide +kernel) (by decide +kernel)), (ev_tb 12 (by decide +kernel) (by decide +kernel)), by decide +kernel, th_UOE_221, tg_UOE_221_217, by decide, by decide⟩
theorem wX_requireRoomForOrder_4 : ev_CV M_X_requireRoomForOrder 53 M_A_size 3 0 := ⟨⟨_, rfl, rfl⟩, rfl, (ev_tb 67 (by decide +kernel) (by decide +kernel)), (ev_tb 68 (by decide +kernel) (by decide +kernel)), (ev_tb 69 (by decide +kernel) (by decide +kernel)), (ev_tb 4 (by decide +kernel) (by decide +kernel)), (ev_tb 70 (by decide +kernel) (by decide +kernel)), ⟨by decide +kernel, by decide +kernel, by decide +kernel⟩, ⟨by decide, by decide⟩⟩
theorem wX_requireRoomForOrder_17 : ev_CS M_X_requireRoomForOrder 57 M_X_requireRoom 1 := ⟨rfl, (ev_tb 185 (by decide +kernel) (by decide +kernel)), (ev_tb 186 (by decide +kernel) (by decide +kernel)), (ev_tb 1 (by decide +kernel) (by decide +kernel)), (ev_tb 187 (by decide +kernel) (by decide +kernel)), ⟨by decide +kernel, by decide +kernel, by decide +kernel⟩, ⟨by decide, by decide⟩⟩
theorem wX_requireRoomForLine_4 : ev_CV M_X_requireRoomForLine 53 M_A_size 3 0 := ⟨⟨_, rfl, rfl⟩, rfl, (ev_tb 67 (by decide +kernel) (by decide +kernel)), (ev_tb 68 (by decide +kernel) (by decide +kernel)), (ev_tb 69 (by decide +kernel) (by decide +kernel)), (ev_tb 4 (by decide +kernel) (by decide +kernel)), (ev_tb 70 (by decide +kernel) (by decide +kernel)), ⟨by decide +kernel, by decide +kernel, by decide +kernel⟩, ⟨by decide, by decide⟩⟩
theorem wX_requireRoomForLine_17 : ev_CS M_X_requireRoomForLine 57 M_X_requireRoom 1 := ⟨rfl, (ev_tb 185 (by decide +kernel) (by decide +kernel)), (ev_tb 186 (by decide +kernel) (by decide +kernel)), (ev_tb 1 (by decide +kernel) (by decide +kernel)), (ev_tb 187 (by decide +kernel) (by decide +kernel)), ⟨by decide +kernel, by decide +kernel, by decide +kernel⟩, ⟨by decide, by decide⟩⟩
theorem wX_requireChangeValue_34 : ev_CS M_X_requireChangeValue 19 M_X_requireRange 3 := ⟨rfl, (ev_tb 103 (by decide +kernel) (by decide +kernel)), (ev_tb 104 (by decide +kernel) (by decide +kernel)), (ev_tb 1 (by decide +kernel) (by decide +kernel)), (ev_tb 105 (by decide +kernel) (by decide +kernel)), ⟨by decide +kernel, by decide +kernel, by decide +kernel⟩, ⟨by decide, by decide⟩⟩
theorem wX_requireChangeValue_24 : ev_CS M_X_requireChangeValue 19 M_X_requireRange 3 := ⟨rfl, (ev_tb 103 (by decide +kernel) (by decide +kernel)), (ev_tb 104 (by decide +kernel) (by decide +kernel)), (ev_tb 1 (by decide +kernel) (by decide +kernel)), (ev_tb 105 (by decide +kernel) (by decide +kernel)), ⟨by decide +kernel, by decide +kernel, by decide +kernel⟩, ⟨by decide, by decide⟩⟩
theorem wX_requireChangeValue_9 : ev_CS M_X_requireChangeValue 19 M_X_requireRange 3 := ⟨rfl, (ev_tb 103 (by decide +kernel) (by decide +kernel)), (ev_tb 104 (by decide +kernel) (by decide +kernel)), (ev_tb 1 (by decide +kernel) (by decide +kernel)), (ev_tb 105 (by decide +kernel) (by decide +kernel)), ⟨by decide +kernel, by decide +kernel, by decide +kernel⟩, ⟨by decide, by decide⟩⟩
theorem pX_157 : ev_FP "OrderRows3" 157 2 4 (.int) := ⟨_, _, "OrderRows3$Line", cls2, by decide, (ev_tb 383 (by decide +kernel) (by decide +kernel)), Or.inl rfl, rfl, rfl⟩
theorem pX_192 : ev_FP "OrderRows3" 192 2 8 (.int) := ⟨_, _, "OrderRows3$Line", cls2, by decide, (ev_tb 394 (by decide +kernel) (by decide +kernel)), Or.inl rfl, rfl, rfl⟩
theorem yX_222 : Cond.methodLink "OrderRows3" 222 Lib.Math.min.name ∈ ev_TB ∧ Cond.static Lib.Math.min.name ∈ ev_TB ∧ Cond.initialized "java/lang/Math" ∈ ev_TB ∧ Cond.code Lib.Math.min.name Lib.Math.min.code 2 (some .int) ∈ ev_TB := ⟨(ev_tb 513 (by decide +kernel) (by decide +kernel)), (ev_tb 305 (by decide +kernel) (by decide +kernel)), (ev_tb 15 (by decide +kernel) (by decide +kernel)), (ev_tb 306 (by decide +kernel) (by decide +kernel))⟩
theorem wX_firstWithOwnNumber_7 : ev_CV M_X_firstWithOwnNumber 53 M_A_size 3 0 := ⟨⟨_, rfl, rfl⟩, rfl, (ev_tb 67 (by decide +kernel) (by decide +kernel)), (ev_tb 68 (by decide +kernel) (by decide +kernel)), (ev_tb 69 (by decide +kernel) (by decide +kernel)), (ev_tb 4 (by decide +kernel) (by decide +kernel)), (ev_tb 70 (by decide +kernel) (by decide +kernel)), ⟨by decide +kernel, by decide +kernel, by decide +kernel⟩, ⟨by decide, by decide⟩⟩
theorem wX_firstWithOwnNumber_18 : ev_CV M_X_firstWithOwnNumber 167 M_A_get 3 1 := ⟨⟨_, rfl, rfl⟩, rfl, (ev_tb 75 (by decide +kernel) (by decide +kernel)), (ev_tb 76 (by decide +kernel) (by decide +kernel)), (ev_tb 77 (by decide +kernel) (by decide +kernel)), (ev_tb 4 (by decide +kernel) (by decide +kernel)), (ev_tb 78 (by decide +kernel) (by decide +kernel)), ⟨by decide +kernel, by decide +kernel, by decide +kernel⟩, ⟨by decide, by decide⟩⟩
theorem nX_36 : ev_NW "OrderRows3" 36 1 [.int 0, .int 0, .int 0, .int 0, .null, .int 0, .int 0, .int 0, .int 0, .int 0] := ⟨_, _, cls1, (ev_tb 180 (by decide +kernel) (by decide +kernel)), (ev_tb 208 (by decide +kernel) (by decide +kernel)), (ev_tb 13 (by decide +kernel) (by decide +kernel)), rfl, fun j hj => by have hj : j < 10 := hj; rcases (show j = 0 ∨ j = 1 ∨ j = 2 ∨ j = 3 ∨ j = 4 ∨ j = 5 ∨ j = 6 ∨ j = 7 ∨ j = 8 ∨ j = 9 by omega) with rfl | rfl | rfl | rfl | rfl | rfl | rfl | rfl | rfl | rfl <;> rfl⟩
theorem wX_addOrder_8 : ev_CV M_X_addOrder 53 M_A_size 3 0 := ⟨⟨_, rfl, rfl⟩, rfl, (ev_tb 67 (by decide +kernel) (by decide +kernel)), (ev_tb 68 (by decide +kernel) (by decide +kernel)), (ev_tb 69 (by decide +kernel) (by decide +kernel)), (ev_tb 4 (by decide +kernel) (by decide +kernel)), (ev_tb 70 (by decide +kernel) (by decide +kernel)), ⟨by decide +kernel, by decide +kernel, by decide +kernel⟩, ⟨by decide, by decide⟩⟩
theorem wX_addOrder_16 : ev_CI M_X_addOrder 227 M_O_init 5 := ⟨rfl, rfl, rfl, (ev_tb 209 (by decide +kernel) (by decide +kernel)), (ev_tb 210 (by decide +kernel) (by decide +kernel)), (ev_tb 13 (by decide +kernel) (by decide +kernel)), (ev_tb 211 (by decide +kernel) (by decide +kernel)), ⟨by decide +kernel, by decide +kernel, by decide +kernel⟩, ⟨by decide, by decide⟩⟩
theorem wX_addOrder_27 : ev_CV M_X_addOrder 230 M_A_add0 3 1 := ⟨⟨_, rfl, rfl⟩, rfl, (ev_tb 256 (by decide +kernel) (by decide +kernel)), (ev_tb 257 (by decide +kernel) (by decide +kernel)), (ev_tb 258 (by decide +kernel) (by decide +kernel)), (ev_tb 4 (by decide +kernel) (by decide +kernel)), (ev_tb 259 (by decide +kernel) (by decide +kernel)), ⟨by decide +kernel, by decide +kernel, by decide +kernel⟩, ⟨by decide, by decide⟩⟩
theorem nX_68 : ev_NW "OrderRows3" 68 2 [.int 0, .int 0, .null, .int 0, .int 0, .int 0, .int 0, .int 0, .int 0, .int 0, .int 0] := ⟨_, _, cls2, (ev_tb 89 (by decide +kernel) (by decide +kernel)), (ev_tb 368 (by decide +kernel) (by decide +kernel)), (ev_tb 20 (by decide +kernel) (by decide +kernel)), rfl, fun j hj => by have hj : j < 11 := hj; rcases (show j = 0 ∨ j = 1 ∨ j = 2 ∨ j = 3 ∨ j = 4 ∨ j = 5 ∨ j = 6 ∨ j = 7 ∨ j = 8 ∨ j = 9 ∨ j = 10 by omega) with rfl | rfl | rfl | rfl | rfl | rfl | rfl | rfl | rfl | rfl | rfl <;> rfl⟩
theorem wX_addLine_8 : ev_CV M_X_addLine 53 M_A_size 3 0 := ⟨⟨_, rfl, rfl⟩, rfl, (ev_tb 67 (by decide +kernel) (by decide +kernel)), (ev_tb 68 (by decide +kernel) (by decide +kernel)), (ev_tb 69 (by decide +kernel) (by decide +kernel)), (ev_tb 4 (by decide +kernel) (by decide +kernel)), (ev_tb 70 (by decide +kernel) (by decide +kernel)), ⟨by decide +kernel, by decide +kernel, by decide +kernel⟩, ⟨by decide, by decide⟩⟩
theorem wX_addLine_16 : ev_CI M_X_addLine 234 M_L_init 5 := ⟨rfl, rfl, rfl, (ev_tb 369 (by decide +kernel) (by decide +kernel)), (ev_tb 370 (by decide +kernel) (by decide +kernel)), (ev_tb 20 (by decide +kernel) (by decide +kernel)), (ev_tb 371 (by decide +kernel) (by decide +kernel)), ⟨by decide +kernel, by decide +kernel, by decide +kernel⟩, ⟨by decide, by decide⟩⟩
theorem wX_addLine_27 : ev_CV M_X_addLine 230 M_A_add0 3 1 := ⟨⟨_, rfl, rfl⟩, rfl, (ev_tb 256 (by decide +kernel) (by decide +kernel)), (ev_tb 257 (by decide +kernel) (by decide +kernel)), (ev_tb 258 (by decide +kernel) (by decide +kernel)), (ev_tb 4 (by decide +kernel) (by decide +kernel)), (ev_tb 259 (by decide +kernel) (by decide +kernel)), ⟨by decide +kernel, by decide +kernel, by decide +kernel⟩, ⟨by decide, by decide⟩⟩
theorem wX_addLine_37 : ev_CV M_X_addLine 230 M_A_add0 3 1 := ⟨⟨_, rfl, rfl⟩, rfl, (ev_tb 256 (by decide +kernel) (by decide +kernel)), (ev_tb 257 (by decide +kernel) (by decide +kernel)), (ev_tb 258 (by decide +kernel) (by decide +kernel)), (ev_tb 4 (by decide +kernel) (by decide +kernel)), (ev_tb 259 (by decide +kernel) (by decide +kernel)), ⟨by decide +kernel, by decide +kernel, by decide +kernel⟩, ⟨by decide, by decide⟩⟩
theorem wX_waitingBefore_9 : ev_CV M_X_waitingBefore 53 M_A_size 3 0 := ⟨⟨_, rfl, rfl⟩, rfl, (ev_tb 67 (by decide +kernel) (by decide +kernel)), (ev_tb 68 (by decide +kernel) (by decide +kernel)), (ev_tb 69 (by decide +kernel) (by decide +kernel)), (ev_tb 4 (by decide +kernel) (by decide +kernel)), (ev_tb 70 (by decide +kernel) (by decide +kernel)), ⟨by decide +kernel, by decide +kernel, by decide +kernel⟩, ⟨by decide, by decide⟩⟩
theorem wX_waitingBefore_20 : ev_CV M_X_waitingBefore 167 M_A_get 3 1 := ⟨⟨_, rfl, rfl⟩, rfl, (ev_tb 75 (by decide +kernel) (by decide +kernel)), (ev_tb 76 (by decide +kernel) (by decide +kernel)), (ev_tb 77 (by decide +kernel) (by decide +kernel)), (ev_tb 4 (by decide +kernel) (by decide +kernel)), (ev_tb 78 (by decide +kernel) (by decide +kernel)), ⟨by decide +kernel, by decide +kernel, by decide +kernel⟩, ⟨by decide, by decide⟩⟩
theorem wX_waitingBefore_30 : ev_CV M_X_waitingBefore 171 M_O_isWaiting 1 0 := ⟨⟨_, rfl, rfl⟩, rfl, (ev_tb 578 (by decide +kernel) (by decide +kernel)), (ev_tb 579 (by decide +kernel) (by decide +kernel)), (ev_tb 580 (by decide +kernel) (by decide +kernel)), (ev_tb 13 (by decide +kernel) (by decide +kernel)), (ev_tb 581 (by decide +kernel) (by decide +kernel)), ⟨by decide +kernel, by decide +kernel, by decide +kernel⟩, ⟨by decide, by decide⟩⟩
theorem wX_waitingBefore_39 : ev_CV M_X_waitingBefore 237 M_O_comesBefore 1 1 := ⟨⟨_, rfl, rfl⟩, rfl, (ev_tb 587 (by decide +kernel) (by decide +kernel)), (ev_tb 588 (by decide +kernel) (by decide +kernel)), (ev_tb 589 (by decide +kernel) (by decide +kernel)), (ev_tb 13 (by decide +kernel) (by decide +kernel)), (ev_tb 590 (by decide +kernel) (by decide +kernel)), ⟨by decide +kernel, by decide +kernel, by decide +kernel⟩, ⟨by decide, by decide⟩⟩
theorem wX_piecesHeld_9 : ev_CV M_X_piecesHeld 53 M_A_size 3 0 := ⟨⟨_, rfl, rfl⟩, rfl, (ev_tb 67 (by decide +kernel) (by decide +kernel)), (ev_tb 68 (by decide +kernel) (by decide +kernel)), (ev_tb 69 (by decide +kernel) (by decide +kernel)), (ev_tb 4 (by decide +kernel) (by decide +kernel)), (ev_tb 70 (by decide +kernel) (by decide +kernel)), ⟨by decide +kernel, by decide +kernel, by decide +kernel⟩, ⟨by decide, by decide⟩⟩
theorem wX_piecesHeld_20 : ev_CV M_X_piecesHeld 167 M_A_get 3 1 := ⟨⟨_, rfl, rfl⟩, rfl, (ev_tb 75 (by decide +kernel) (by decide +kernel)), (ev_tb 76 (by decide +kernel) (by decide +kernel)), (ev_tb 77 (by decide +kernel) (by decide +kernel)), (ev_tb 4 (by decide +kernel) (by decide +kernel)), (ev_tb 78 (by decide +kernel) (by decide +kernel)), ⟨by decide +kernel, by decide +kernel, by decide +kernel⟩, ⟨by decide, by decide⟩⟩
theorem wX_piecesShipped_9 : ev_CV M_X_piecesShipped 53 M_A_size 3 0 := ⟨⟨_, rfl, rfl⟩, rfl, (ev_tb 67 (by decide +kernel) (by decide +kernel)), (ev_tb 68 (by decide +kernel) (by decide +kernel)), (ev_tb 69 (by decide +kernel) (by decide +kernel)), (ev_tb 4 (by decide +kernel) (by decide +kernel)), (ev_tb 70 (by decide +kernel) (by decide +kernel)), ⟨by decide +kernel, by decide +kernel, by decide +kernel⟩, ⟨by decide, by decide⟩⟩
theorem wX_piecesShipped_21 : ev_CV M_X_piecesShipped 167 M_A_get 3 1 := ⟨⟨_, rfl, rfl⟩, rfl, (ev_tb 75 (by decide +kernel) (by decide +kernel)), (ev_tb 76 (by decide +kernel) (by decide +kernel)), (ev_tb 77 (by decide +kernel) (by decide +kernel)), (ev_tb 4 (by decide +kernel) (by decide +kernel)), (ev_tb 78 (by decide +kernel) (by decide +kernel)), ⟨by decide +kernel, by decide +kernel, by decide +kernel⟩, ⟨by decide, by decide⟩⟩
theorem oR_1 : Cond.methodLink "OrderRows3Model" 1 objectInit ∈ ev_TB ∧ Cond.instanceMethod objectInit ∈ ev_TB ∧ Cond.code objectInit ⟨#[0xb1]⟩ 1 none ∈ ev_TB := ⟨(ev_tb 623 (by decide +kernel) (by decide +kernel)), (ev_tb 28 (by decide +kernel) (by decide +kernel)), (ev_tb 29 (by decide +kernel) (by decide +kernel))⟩
theorem pR_7 : ev_FF "OrderRows3Model" 7 4 2 (.array .int) := ⟨_, _, "OrderRows3Model", cls4, by decide, (ev_tb 626 (by decide +kernel) (by decide +kernel)), rfl, rfl, rfl, rfl⟩
theorem pR_13 : ev_FF "OrderRows3Model" 13 4 3 (.array .int) := ⟨_, _, "OrderRows3Model", cls4, by decide, (ev_tb 627 (by decide +kernel) (by decide +kernel)), rfl, rfl, rfl, rfl⟩
theorem pR_16 : ev_FF "OrderRows3Model" 16 4 4 (.array .int) := ⟨_, _, "OrderRows3Model", cls4, by decide, (ev_tb 628 (by decide +kernel) (by decide +kernel)), rfl, rfl, rfl, rfl⟩
theorem pR_19 : ev_FF "OrderRows3Model" 19 4 5 (.array .int) := ⟨_, _, "OrderRows3Model", cls4, by decide, (ev_tb 629 (by decide +kernel) (by decide +kernel)), rfl, rfl, rfl, rfl⟩
theorem pR_22 : ev_FF "OrderRows3Model" 22 4 6 (.array .int) := ⟨_, _, "OrderRows3Model", cls4, by decide, (ev_tb 630 (by decide +kernel) (by decide +kernel)), rfl, rfl, rfl, rfl⟩
theorem pR_25 : ev_FF "OrderRows3Model" 25 4 7 (.array .int) := ⟨_, _, "OrderRows3Model", cls4, by decide, (ev_tb 631 (by decide +kernel) (by decide +kernel)), rfl, rfl, rfl, rfl⟩
theorem pR_28 : ev_FF "OrderRows3Model" 28 4 8 (.array .int) := ⟨_, _, "OrderRows3Model", cls4, by decide, (ev_tb 632 (by decide +kernel) (by decide +kernel)), rfl, rfl, rfl, rfl⟩
theorem pR_31 : ev_FF "OrderRows3Model" 31 4 9 (.array .int) := ⟨_, _, "OrderRows3Model", cls4, by decide, (ev_tb 633 (by decide +kernel) (by decide +kernel)), rfl, rfl, rfl, rfl⟩
theorem pR_34 : ev_FF "OrderRows3Model" 34 4 10 (.array .int) := ⟨_, _, "OrderRows3Model", cls4, by decide, (ev_tb 634 (by decide +kernel) (by decide +kernel)), rfl, rfl, rfl, rfl⟩
theorem pR_37 : ev_FF "OrderRows3Model" 37 4 11 (.array .int) := ⟨_, _, "OrderRows3Model", cls4, by decide, (ev_tb 635 (by decide +kernel) (by decide +kernel)), rfl, rfl, rfl, rfl⟩
theorem pR_40 : ev_FF "OrderRows3Model" 40 4 13 (.array .int) := ⟨_, _, "OrderRows3Model", cls4, by decide, (ev_tb 637 (by decide +kernel) (by decide +kernel)), rfl, rfl, rfl, rfl⟩
theorem pR_43 : ev_FF "OrderRows3Model" 43 4 14 (.array .int) := ⟨_, _, "OrderRows3Model", cls4, by decide, (ev_tb 638 (by decide +kernel) (by decide +kernel)), rfl, rfl, rfl, rfl⟩
theorem pR_46 : ev_FF "OrderRows3Model" 46 4 15 (.array .int) := ⟨_, _, "OrderRows3Model", cls4, by decide, (ev_tb 639 (by decide +kernel) (by decide +kernel)), rfl, rfl, rfl, rfl⟩
theorem pR_49 : ev_FF "OrderRows3Model" 49 4 16 (.array .int) := ⟨_, _, "OrderRows3Model", cls4, by decide, (ev_tb 640 (by decide +kernel) (by decide +kernel)), rfl, rfl, rfl, rfl⟩
theorem pR_52 : ev_FF "OrderRows3Model" 52 4 17 (.array .int) := ⟨_, _, "OrderRows3Model", cls4, by decide, (ev_tb 641 (by decide +kernel) (by decide +kernel)), rfl, rfl, rfl, rfl⟩
theorem pR_55 : ev_FF "OrderRows3Model" 55 4 18 (.array .int) := ⟨_, _, "OrderRows3Model", cls4, by decide, (ev_tb 642 (by decide +kernel) (by decide +kernel)), rfl, rfl, rfl, rfl⟩
theorem pR_58 : ev_FF "OrderRows3Model" 58 4 19 (.array .int) := ⟨_, _, "OrderRows3Model", cls4, by decide, (ev_tb 643 (by decide +kernel) (by decide +kernel)), rfl, rfl, rfl, rfl⟩
theorem pR_61 : ev_FF "OrderRows3Model" 61 4 20 (.array .int) := ⟨_, _, "OrderRows3Model", cls4, by decide, (ev_tb 644 (by decide +kernel) (by decide +kernel)), rfl, rfl, rfl, rfl⟩
theorem pR_64 : ev_FF "OrderRows3Model" 64 4 21 (.array .boolean) := ⟨_, _, "OrderRows3Model", cls4, by decide, (ev_tb 645 (by decide +kernel) (by decide +kernel)), rfl, rfl, rfl, rfl⟩
theorem pR_68 : ev_FF "OrderRows3Model" 68 4 22 (.array .boolean) := ⟨_, _, "OrderRows3Model", cls4, by decide, (ev_tb 646 (by decide +kernel) (by decide +kernel)), rfl, rfl, rfl, rfl⟩
theorem kR_71 : ev_FL "OrderRows3Model" 71 4 0 := ⟨_, _, "OrderRows3Model", cls4, by decide, (ev_tb 624 (by decide +kernel) (by decide +kernel)), Or.inl rfl⟩
theorem kR_75 : ev_FL "OrderRows3Model" 75 4 1 := ⟨_, _, "OrderRows3Model", cls4, by decide, (ev_tb 625 (by decide +kernel) (by decide +kernel)), Or.inl rfl⟩
theorem wR_isOrder_8 : ev_CS M_R_isOrder 78 M_R_in 3 := ⟨rfl, (ev_tb 704 (by decide +kernel) (by decide +kernel)), (ev_tb 705 (by decide +kernel) (by decide +kernel)), (ev_tb 5 (by decide +kernel) (by decide +kernel)), (ev_tb 706 (by decide +kernel) (by decide +kernel)), ⟨by decide +kernel, by decide +kernel, by decide +kernel⟩, ⟨by decide, by decide⟩⟩
theorem kR_82 : ev_FL "OrderRows3Model" 82 4 12 := ⟨_, _, "OrderRows3Model", cls4, by decide, (ev_tb 636 (by decide +kernel) (by decide +kernel)), Or.inl rfl⟩
theorem wR_isLine_8 : ev_CS M_R_isLine 78 M_R_in 3 := ⟨rfl, (ev_tb 704 (by decide +kernel) (by decide +kernel)), (ev_tb 705 (by decide +kernel) (by decide +kernel)), (ev_tb 5 (by decide +kernel) (by decide +kernel)), (ev_tb 706 (by decide +kernel) (by decide +kernel)), ⟨by decide +kernel, by decide +kernel, by decide +kernel⟩, ⟨by decide, by decide⟩⟩
theorem kR_49 : ev_FL "OrderRows3Model" 49 4 16 := ⟨_, _, "OrderRows3Model", cls4, by decide, (ev_tb 640 (by decide +kernel) (by decide +kernel)), Or.inl rfl⟩
theorem kR_7 : ev_FL "OrderRows3Model" 7 4 2 := ⟨_, _, "OrderRows3Model", cls4, by decide, (ev_tb 626 (by decide +kernel) (by decide +kernel)), Or.inl rfl⟩
theorem kR_13 : ev_FL "OrderRows3Model" 13 4 3 := ⟨_, _, "OrderRows3Model", cls4, by decide, (ev_tb 627 (by decide +kernel) (by decide +kernel)), Or.inl rfl⟩
theorem kR_16 : ev_FL "OrderRows3Model" 16 4 4 := ⟨_, _, "OrderRows3Model", cls4, by decide, (ev_tb 628 (by decide +kernel) (by decide +kernel)), Or.inl rfl⟩
theorem kR_19 : ev_FL "OrderRows3Model" 19 4 5 := ⟨_, _, "OrderRows3Model", cls4, by decide, (ev_tb 629 (by decide +kernel) (by decide +kernel)), Or.inl rfl⟩
theorem kR_22 : ev_FL "OrderRows3Model" 22 4 6 := ⟨_, _, "OrderRows3Model", cls4, by decide, (ev_tb 630 (by decide +kernel) (by decide +kernel)), Or.inl rfl⟩
theorem kR_28 : ev_FL "OrderRows3Model" 28 4 8 := ⟨_, _, "OrderRows3Model", cls4, by decide, (ev_tb 632 (by decide +kernel) (by decide +kernel)), Or.inl rfl⟩
theorem kR_31 : ev_FL "OrderRows3Model" 31 4 9 := ⟨_, _, "OrderRows3Model", cls4, by decide, (ev_tb 633 (by decide +kernel) (by decide +kernel)), Or.inl rfl⟩
theorem pR_75 : ev_FP "OrderRows3Model" 75 4 1 (.int) := ⟨_, _, "OrderRows3Model", cls4, by decide, (ev_tb 625 (by decide +kernel) (by decide +kernel)), Or.inl rfl, rfl, rfl⟩
theorem wR_order_5 : ev_CS M_R_order 78 M_R_in 3 := ⟨rfl, (ev_tb 704 (by decide +kernel) (by decide +kernel)), (ev_tb 705 (by decide +kernel) (by decide +kernel)), (ev_tb 5 (by decide +kernel) (by decide +kernel)), (ev_tb 706 (by decide +kernel) (by decide +kernel)), ⟨by decide +kernel, by decide +kernel, by decide +kernel⟩, ⟨by decide, by decide⟩⟩
theorem iR_85 : Cond.constant "OrderRows3Model" 85 99999 ∈ ev_TB := (ev_tb 707 (by decide +kernel) (by decide +kernel))
theorem wR_order_15 : ev_CS M_R_order 78 M_R_in 3 := ⟨rfl, (ev_tb 704 (by decide +kernel) (by decide +kernel)), (ev_tb 705 (by decide +kernel) (by decide +kernel)), (ev_tb 5 (by decide +kernel) (by decide +kernel)), (ev_tb 706 (by decide +kernel) (by decide +kernel)), ⟨by decide +kernel, by decide +kernel, by decide +kernel⟩, ⟨by decide, by decide⟩⟩
theorem wR_order_25 : ev_CS M_R_order 78 M_R_in 3 := ⟨rfl, (ev_tb 704 (by decide +kernel) (by decide +kernel)), (ev_tb 705 (by decide +kernel) (by decide +kernel)), (ev_tb 5 (by decide +kernel) (by decide +kernel)), (ev_tb 706 (by decide +kernel) (by decide +kernel)), ⟨by decide +kernel, by decide +kernel, by decide +kernel⟩, ⟨by decide, by decide⟩⟩
theorem wR_order_37 : ev_CS M_R_order 78 M_R_in 3 := ⟨rfl, (ev_tb 704 (by decide +kernel) (by decide +kernel)), (ev_tb 705 (by decide +kernel) (by decide +kernel)), (ev_tb 5 (by decide +kernel) (by decide +kernel)), (ev_tb 706 (by decide +kernel) (by decide +kernel)), ⟨by decide +kernel, by decide +kernel, by decide +kernel⟩, ⟨by decide, by decide⟩⟩
theorem pR_71 : ev_FP "OrderRows3Model" 71 4 0 (.int) := ⟨_, _, "OrderRows3Model", cls4, by decide, (ev_tb 624 (by decide +kernel) (by decide +kernel)), Or.inl rfl, rfl, rfl⟩
theorem wR_order_140 : ev_CV M_R_order 86 M_R_newOrder 4 4 := ⟨⟨_, rfl, rfl⟩, rfl, (ev_tb 708 (by decide +kernel) (by decide +kernel)), (ev_tb 710 (by decide +kernel) (by decide +kernel)), (ev_tp 17 (by decide +kernel) (by decide +kernel)), (ev_tb 5 (by decide +kernel) (by decide +kernel)), (ev_tb 711 (by decide +kernel) (by decide +kernel)), ⟨by decide +kernel, by decide +kernel, by decide +kernel⟩, ⟨by decide, by decide⟩⟩
theorem kR_37 : ev_FL "OrderRows3Model" 37 4 11 := ⟨_, _, "OrderRows3Model", cls4, by decide, (ev_tb 635 (by decide +kernel) (by decide +kernel)), Or.inl rfl⟩
theorem kR_34 : ev_FL "OrderRows3Model" 34 4 10 := ⟨_, _, "OrderRows3Model", cls4, by decide, (ev_tb 634 (by decide +kernel) (by decide +kernel)), Or.inl rfl⟩
theorem kR_40 : ev_FL "OrderRows3Model" 40 4 13 := ⟨_, _, "OrderRows3Model", cls4, by decide, (ev_tb 637 (by decide +kernel) (by decide +kernel)), Or.inl rfl⟩
theorem kR_43 : ev_FL "OrderRows3Model" 43 4 14 := ⟨_, _, "OrderRows3Model", cls4, by decide, (ev_tb 638 (by decide +kernel) (by decide +kernel)), Or.inl rfl⟩
theorem kR_46 : ev_FL "OrderRows3Model" 46 4 15 := ⟨_, _, "OrderRows3Model", cls4, by decide, (ev_tb 639 (by decide +kernel) (by decide +kernel)), Or.inl rfl⟩
theorem kR_52 : ev_FL "OrderRows3Model" 52 4 17 := ⟨_, _, "OrderRows3Model", cls4, by decide, (ev_tb 641 (by decide +kernel) (by decide +kernel)), Or.inl rfl⟩
theorem kR_64 : ev_FL "OrderRows3Model" 64 4 21 := ⟨_, _, "OrderRows3Model", cls4, by decide, (ev_tb 645 (by decide +kernel) (by decide +kernel)), Or.inl rfl⟩
theorem wR_newLine_57 : ev_CV M_R_newLine 90 M_R_hang 4 2 := ⟨⟨_, rfl, rfl⟩, rfl, (ev_tb 724 (by decide +kernel) (by decide +kernel)), (ev_tb 726 (by decide +kernel) (by decide +kernel)), (ev_tp 20 (by decide +kernel) (by decide +kernel)), (ev_tb 5 (by decide +kernel) (by decide +kernel)), (ev_tb 727 (by decide +kernel) (by decide +kernel)), ⟨by decide +kernel, by decide +kernel, by decide +kernel⟩, ⟨by decide, by decide⟩⟩
theorem pR_82 : ev_FP "OrderRows3Model" 82 4 12 (.int) := ⟨_, _, "OrderRows3Model", cls4, by decide, (ev_tb 636 (by decide +kernel) (by decide +kernel)), Or.inl rfl, rfl, rfl⟩
theorem wR_line_3 : ev_CV M_R_line 94 M_R_isOrder 4 1 := ⟨⟨_, rfl, rfl⟩, rfl, (ev_tb 716 (by decide +kernel) (by decide +kernel)), (ev_tb 718 (by decide +kernel) (by decide +kernel)), (ev_tp 18 (by decide +kernel) (by decide +kernel)), (ev_tb 5 (by decide +kernel) (by decide +kernel)), (ev_tb 719 (by decide +kernel) (by decide +kernel)), ⟨by decide +kernel, by decide +kernel, by decide +kernel⟩, ⟨by decide, by decide⟩⟩
theorem wR_line_17 : ev_CS M_R_line 78 M_R_in 3 := ⟨rfl, (ev_tb 704 (by decide +kernel) (by decide +kernel)), (ev_tb 705 (by decide +kernel) (by decide +kernel)), (ev_tb 5 (by decide +kernel) (by decide +kernel)), (ev_tb 706 (by decide +kernel) (by decide +kernel)), ⟨by decide +kernel, by decide +kernel, by decide +kernel⟩, ⟨by decide, by decide⟩⟩
theorem wR_line_28 : ev_CS M_R_line 78 M_R_in 3 := ⟨rfl, (ev_tb 704 (by decide +kernel) (by decide +kernel)), (ev_tb 705 (by decide +kernel) (by decide +kernel)), (ev_tb 5 (by decide +kernel) (by decide +kernel)), (ev_tb 706 (by decide +kernel) (by decide +kernel)), ⟨by decide +kernel, by decide +kernel, by decide +kernel⟩, ⟨by decide, by decide⟩⟩
theorem wR_line_39 : ev_CS M_R_line 78 M_R_in 3 := ⟨rfl, (ev_tb 704 (by decide +kernel) (by decide +kernel)), (ev_tb 705 (by decide +kernel) (by decide +kernel)), (ev_tb 5 (by decide +kernel) (by decide +kernel)), (ev_tb 706 (by decide +kernel) (by decide +kernel)), ⟨by decide +kernel, by decide +kernel, by decide +kernel⟩, ⟨by decide, by decide⟩⟩
theorem wR_line_119 : ev_CV M_R_line 98 M_R_newLine 4 4 := ⟨⟨_, rfl, rfl⟩, rfl, (ev_tb 720 (by decide +kernel) (by decide +kernel)), (ev_tb 722 (by decide +kernel) (by decide +kernel)), (ev_tp 19 (by decide +kernel) (by decide +kernel)), (ev_tb 5 (by decide +kernel) (by decide +kernel)), (ev_tb 723 (by decide +kernel) (by decide +kernel)), ⟨by decide +kernel, by decide +kernel, by decide +kernel⟩, ⟨by decide, by decide⟩⟩
theorem wR_hold_3 : ev_CV M_R_hold 101 M_R_isLine 4 1 := ⟨⟨_, rfl, rfl⟩, rfl, (ev_tb 732 (by decide +kernel) (by decide +kernel)), (ev_tb 734 (by decide +kernel) (by decide +kernel)), (ev_tp 21 (by decide +kernel) (by decide +kernel)), (ev_tb 5 (by decide +kernel) (by decide +kernel)), (ev_tb 735 (by decide +kernel) (by decide +kernel)), ⟨by decide +kernel, by decide +kernel, by decide +kernel⟩, ⟨by decide, by decide⟩⟩
theorem wR_hold_18 : ev_CS M_R_hold 78 M_R_in 3 := ⟨rfl, (ev_tb 704 (by decide +kernel) (by decide +kernel)), (ev_tb 705 (by decide +kernel) (by decide +kernel)), (ev_tb 5 (by decide +kernel) (by decide +kernel)), (ev_tb 706 (by decide +kernel) (by decide +kernel)), ⟨by decide +kernel, by decide +kernel, by decide +kernel⟩, ⟨by decide, by decide⟩⟩
theorem kR_55 : ev_FL "OrderRows3Model" 55 4 18 := ⟨_, _, "OrderRows3Model", cls4, by decide, (ev_tb 642 (by decide +kernel) (by decide +kernel)), Or.inl rfl⟩
theorem wR_pick_3 : ev_CV M_R_pick 101 M_R_isLine 4 1 := ⟨⟨_, rfl, rfl⟩, rfl, (ev_tb 732 (by decide +kernel) (by decide +kernel)), (ev_tb 734 (by decide +kernel) (by decide +kernel)), (ev_tp 21 (by decide +kernel) (by decide +kernel)), (ev_tb 5 (by decide +kernel) (by decide +kernel)), (ev_tb 735 (by decide +kernel) (by decide +kernel)), ⟨by decide +kernel, by decide +kernel, by decide +kernel⟩, ⟨by decide, by decide⟩⟩
theorem wR_pick_18 : ev_CS M_R_pick 78 M_R_in 3 := ⟨rfl, (ev_tb 704 (by decide +kernel) (by decide +kernel)), (ev_tb 705 (by decide +kernel) (by decide +kernel)), (ev_tb 5 (by decide +kernel) (by decide +kernel)), (ev_tb 706 (by decide +kernel) (by decide +kernel)), ⟨by decide +kernel, by decide +kernel, by decide +kernel⟩, ⟨by decide, by decide⟩⟩
theorem kR_25 : ev_FL "OrderRows3Model" 25 4 7 := ⟨_, _, "OrderRows3Model", cls4, by decide, (ev_tb 631 (by decide +kernel) (by decide +kernel)), Or.inl rfl⟩
theorem kR_58 : ev_FL "OrderRows3Model" 58 4 19 := ⟨_, _, "OrderRows3Model", cls4, by decide, (ev_tb 643 (by decide +kernel) (by decide +kernel)), Or.inl rfl⟩
theorem wR_liveLines_22 : ev_CV M_R_liveLines 104 M_R_lineAt 4 2 := ⟨⟨_, rfl, rfl⟩, rfl, (ev_tb 752 (by decide +kernel) (by decide +kernel)), (ev_tb 754 (by decide +kernel) (by decide +kernel)), (ev_tp 24 (by decide +kernel) (by decide +kernel)), (ev_tb 5 (by decide +kernel) (by decide +kernel)), (ev_tb 755 (by decide +kernel) (by decide +kernel)), ⟨by decide +kernel, by decide +kernel, by decide +kernel⟩, ⟨by decide, by decide⟩⟩
theorem wR_isReady_18 : ev_CV M_R_isReady 108 M_R_has 4 2 := ⟨⟨_, rfl, rfl⟩, rfl, (ev_tb 760 (by decide +kernel) (by decide +kernel)), (ev_tb 762 (by decide +kernel) (by decide +kernel)), (ev_tp 26 (by decide +kernel) (by decide +kernel)), (ev_tb 5 (by decide +kernel) (by decide +kernel)), (ev_tb 763 (by decide +kernel) (by decide +kernel)), ⟨by decide +kernel, by decide +kernel, by decide +kernel⟩, ⟨by decide, by decide⟩⟩
theorem wR_isReady_36 : ev_CV M_R_isReady 108 M_R_has 4 2 := ⟨⟨_, rfl, rfl⟩, rfl, (ev_tb 760 (by decide +kernel) (by decide +kernel)), (ev_tb 762 (by decide +kernel) (by decide +kernel)), (ev_tp 26 (by decide +kernel) (by decide +kernel)), (ev_tb 5 (by decide +kernel) (by decide +kernel)), (ev_tb 763 (by decide +kernel) (by decide +kernel)), ⟨by decide +kernel, by decide +kernel, by decide +kernel⟩, ⟨by decide, by decide⟩⟩
theorem kR_61 : ev_FL "OrderRows3Model" 61 4 20 := ⟨_, _, "OrderRows3Model", cls4, by decide, (ev_tb 644 (by decide +kernel) (by decide +kernel)), Or.inl rfl⟩
theorem wR_mayGoOn_30 : ev_CV M_R_mayGoOn 112 M_R_liveLines 4 1 := ⟨⟨_, rfl, rfl⟩, rfl, (ev_tb 748 (by decide +kernel) (by decide +kernel)), (ev_tb 750 (by decide +kernel) (by decide +kernel)), (ev_tp 23 (by decide +kernel) (by decide +kernel)), (ev_tb 5 (by decide +kernel) (by decide +kernel)), (ev_tb 751 (by decide +kernel) (by decide +kernel)), ⟨by decide +kernel, by decide +kernel, by decide +kernel⟩, ⟨by decide, by decide⟩⟩
theorem wR_mayGoOn_57 : ev_CV M_R_mayGoOn 104 M_R_lineAt 4 2 := ⟨⟨_, rfl, rfl⟩, rfl, (ev_tb 752 (by decide +kernel) (by decide +kernel)), (ev_tb 754 (by decide +kernel) (by decide +kernel)), (ev_tp 24 (by decide +kernel) (by decide +kernel)), (ev_tb 5 (by decide +kernel) (by decide +kernel)), (ev_tb 755 (by decide +kernel) (by decide +kernel)), ⟨by decide +kernel, by decide +kernel, by decide +kernel⟩, ⟨by decide, by decide⟩⟩
theorem wR_mayGoOn_91 : ev_CV M_R_mayGoOn 116 M_R_isReady 4 1 := ⟨⟨_, rfl, rfl⟩, rfl, (ev_tb 756 (by decide +kernel) (by decide +kernel)), (ev_tb 758 (by decide +kernel) (by decide +kernel)), (ev_tp 25 (by decide +kernel) (by decide +kernel)), (ev_tb 5 (by decide +kernel) (by decide +kernel)), (ev_tb 759 (by decide +kernel) (by decide +kernel)), ⟨by decide +kernel, by decide +kernel, by decide +kernel⟩, ⟨by decide, by decide⟩⟩
theorem wR_mayGoOn_158 : ev_CV M_R_mayGoOn 108 M_R_has 4 2 := ⟨⟨_, rfl, rfl⟩, rfl, (ev_tb 760 (by decide +kernel) (by decide +kernel)), (ev_tb 762 (by decide +kernel) (by decide +kernel)), (ev_tp 26 (by decide +kernel) (by decide +kernel)), (ev_tb 5 (by decide +kernel) (by decide +kernel)), (ev_tb 763 (by decide +kernel) (by decide +kernel)), ⟨by decide +kernel, by decide +kernel, by decide +kernel⟩, ⟨by decide, by decide⟩⟩
theorem wR_mayGoOn_167 : ev_CV M_R_mayGoOn 119 M_R_shortOf 4 1 := ⟨⟨_, rfl, rfl⟩, rfl, (ev_tb 764 (by decide +kernel) (by decide +kernel)), (ev_tb 766 (by decide +kernel) (by decide +kernel)), (ev_tp 27 (by decide +kernel) (by decide +kernel)), (ev_tb 5 (by decide +kernel) (by decide +kernel)), (ev_tb 767 (by decide +kernel) (by decide +kernel)), ⟨by decide +kernel, by decide +kernel, by decide +kernel⟩, ⟨by decide, by decide⟩⟩
theorem kR_68 : ev_FL "OrderRows3Model" 68 4 22 := ⟨_, _, "OrderRows3Model", cls4, by decide, (ev_tb 646 (by decide +kernel) (by decide +kernel)), Or.inl rfl⟩
theorem wR_goOn_3 : ev_CV M_R_goOn 94 M_R_isOrder 4 1 := ⟨⟨_, rfl, rfl⟩, rfl, (ev_tb 716 (by decide +kernel) (by decide +kernel)), (ev_tb 718 (by decide +kernel) (by decide +kernel)), (ev_tp 18 (by decide +kernel) (by decide +kernel)), (ev_tb 5 (by decide +kernel) (by decide +kernel)), (ev_tb 719 (by decide +kernel) (by decide +kernel)), ⟨by decide +kernel, by decide +kernel, by decide +kernel⟩, ⟨by decide, by decide⟩⟩
theorem wR_goOn_54 : ev_CV M_R_goOn 122 M_R_mayGoOn 4 1 := ⟨⟨_, rfl, rfl⟩, rfl, (ev_tb 744 (by decide +kernel) (by decide +kernel)), (ev_tb 746 (by decide +kernel) (by decide +kernel)), (ev_tp 22 (by decide +kernel) (by decide +kernel)), (ev_tb 5 (by decide +kernel) (by decide +kernel)), (ev_tb 747 (by decide +kernel) (by decide +kernel)), ⟨by decide +kernel, by decide +kernel, by decide +kernel⟩, ⟨by decide, by decide⟩⟩
theorem wR_goOn_111 : ev_CV M_R_goOn 104 M_R_lineAt 4 2 := ⟨⟨_, rfl, rfl⟩, rfl, (ev_tb 752 (by decide +kernel) (by decide +kernel)), (ev_tb 754 (by decide +kernel) (by decide +kernel)), (ev_tp 24 (by decide +kernel) (by decide +kernel)), (ev_tb 5 (by decide +kernel) (by decide +kernel)), (ev_tb 755 (by decide +kernel) (by decide +kernel)), ⟨by decide +kernel, by decide +kernel, by decide +kernel⟩, ⟨by decide, by decide⟩⟩
theorem wR_goOn_121 : ev_CV M_R_goOn 104 M_R_lineAt 4 2 := ⟨⟨_, rfl, rfl⟩, rfl, (ev_tb 752 (by decide +kernel) (by decide +kernel)), (ev_tb 754 (by decide +kernel) (by decide +kernel)), (ev_tp 24 (by decide +kernel) (by decide +kernel)), (ev_tb 5 (by decide +kernel) (by decide +kernel)), (ev_tb 755 (by decide +kernel) (by decide +kernel)), ⟨by decide +kernel, by decide +kernel, by decide +kernel⟩, ⟨by decide, by decide⟩⟩
theorem wR_change_39 : ev_CS M_R_change 78 M_R_in 3 := ⟨rfl, (ev_tb 704 (by decide +kernel) (by decide +kernel)), (ev_tb 705 (by decide +kernel) (by decide +kernel)), (ev_tb 5 (by decide +kernel) (by decide +kernel)), (ev_tb 706 (by decide +kernel) (by decide +kernel)), ⟨by decide +kernel, by decide +kernel, by decide +kernel⟩, ⟨by decide, by decide⟩⟩
end
section
/-! LINKS -/
theorem wR_change_24 : ev_CS M_R_change 78 M_R_in 3 := ⟨rfl, (ev_tb 704 (by decide +kernel) (by decide +kernel)), (ev_tb 705 (by decide +kernel) (by decide +kernel)), (ev_tb 5 (by decide +kernel) (by decide +kernel)), (ev_tb 706 (by decide +kernel) (by decide +kernel)), ⟨by decide +kernel, by decide +kernel, by decide +kernel⟩, ⟨by decide, by decide⟩⟩
theorem wR_change_9 : ev_CS M_R_change 78 M_R_in 3 := ⟨rfl, (ev_tb 704 (by decide +kernel) (by decide +kernel)), (ev_tb 705 (by decide +kernel) (by decide +kernel)), (ev_tb 5 (by decide +kernel) (by decide +kernel)), (ev_tb 706 (by decide +kernel) (by decide +kernel)), ⟨by decide +kernel, by decide +kernel, by decide +kernel⟩, ⟨by decide, by decide⟩⟩
theorem wR_change_55 : ev_CV M_R_change 101 M_R_isLine 4 1 := ⟨⟨_, rfl, rfl⟩, rfl, (ev_tb 732 (by decide +kernel) (by decide +kernel)), (ev_tb 734 (by decide +kernel) (by decide +kernel)), (ev_tp 21 (by decide +kernel) (by decide +kernel)), (ev_tb 5 (by decide +kernel) (by decide +kernel)), (ev_tb 735 (by decide +kernel) (by decide +kernel)), ⟨by decide +kernel, by decide +kernel, by decide +kernel⟩, ⟨by decide, by decide⟩⟩
theorem wR_change_151 : ev_CV M_R_change 108 M_R_has 4 2 := ⟨⟨_, rfl, rfl⟩, rfl, (ev_tb 760 (by decide +kernel) (by decide +kernel)), (ev_tb 762 (by decide +kernel) (by decide +kernel)), (ev_tp 26 (by decide +kernel) (by decide +kernel)), (ev_tb 5 (by decide +kernel) (by decide +kernel)), (ev_tb 763 (by decide +kernel) (by decide +kernel)), ⟨by decide +kernel, by decide +kernel, by decide +kernel⟩, ⟨by decide, by decide⟩⟩
theorem wR_move_3 : ev_CV M_R_move 94 M_R_isOrder 4 1 := ⟨⟨_, rfl, rfl⟩, rfl, (ev_tb 716 (by decide +kernel) (by decide +kernel)), (ev_tb 718 (by decide +kernel) (by decide +kernel)), (ev_tp 18 (by decide +kernel) (by decide +kernel)), (ev_tb 5 (by decide +kernel) (by decide +kernel)), (ev_tb 719 (by decide +kernel) (by decide +kernel)), ⟨by decide +kernel, by decide +kernel, by decide +kernel⟩, ⟨by decide, by decide⟩⟩
theorem wR_move_18 : ev_CS M_R_move 78 M_R_in 3 := ⟨rfl, (ev_tb 704 (by decide +kernel) (by decide +kernel)), (ev_tb 705 (by decide +kernel) (by decide +kernel)), (ev_tb 5 (by decide +kernel) (by decide +kernel)), (ev_tb 706 (by decide +kernel) (by decide +kernel)), ⟨by decide +kernel, by decide +kernel, by decide +kernel⟩, ⟨by decide, by decide⟩⟩
theorem wR_cancel_3 : ev_CV M_R_cancel 101 M_R_isLine 4 1 := ⟨⟨_, rfl, rfl⟩, rfl, (ev_tb 732 (by decide +kernel) (by decide +kernel)), (ev_tb 734 (by decide +kernel) (by decide +kernel)), (ev_tp 21 (by decide +kernel) (by decide +kernel)), (ev_tb 5 (by decide +kernel) (by decide +kernel)), (ev_tb 735 (by decide +kernel) (by decide +kernel)), ⟨by decide +kernel, by decide +kernel, by decide +kernel⟩, ⟨by decide, by decide⟩⟩
theorem wR_cancel_123 : ev_CV M_R_cancel 112 M_R_liveLines 4 1 := ⟨⟨_, rfl, rfl⟩, rfl, (ev_tb 748 (by decide +kernel) (by decide +kernel)), (ev_tb 750 (by decide +kernel) (by decide +kernel)), (ev_tp 23 (by decide +kernel) (by decide +kernel)), (ev_tb 5 (by decide +kernel) (by decide +kernel)), (ev_tb 751 (by decide +kernel) (by decide +kernel)), ⟨by decide +kernel, by decide +kernel, by decide +kernel⟩, ⟨by decide, by decide⟩⟩
theorem wR_join_3 : ev_CV M_R_join 94 M_R_isOrder 4 1 := ⟨⟨_, rfl, rfl⟩, rfl, (ev_tb 716 (by decide +kernel) (by decide +kernel)), (ev_tb 718 (by decide +kernel) (by decide +kernel)), (ev_tp 18 (by decide +kernel) (by decide +kernel)), (ev_tb 5 (by decide +kernel) (by decide +kernel)), (ev_tb 719 (by decide +kernel) (by decide +kernel)), ⟨by decide +kernel, by decide +kernel, by decide +kernel⟩, ⟨by decide, by decide⟩⟩
theorem wR_join_11 : ev_CV M_R_join 94 M_R_isOrder 4 1 := ⟨⟨_, rfl, rfl⟩, rfl, (ev_tb 716 (by decide +kernel) (by decide +kernel)), (ev_tb 718 (by decide +kernel) (by decide +kernel)), (ev_tp 18 (by decide +kernel) (by decide +kernel)), (ev_tb 5 (by decide +kernel) (by decide +kernel)), (ev_tb 719 (by decide +kernel) (by decide +kernel)), ⟨by decide +kernel, by decide +kernel, by decide +kernel⟩, ⟨by decide, by decide⟩⟩
theorem wR_join_148 : ev_CV M_R_join 104 M_R_lineAt 4 2 := ⟨⟨_, rfl, rfl⟩, rfl, (ev_tb 752 (by decide +kernel) (by decide +kernel)), (ev_tb 754 (by decide +kernel) (by decide +kernel)), (ev_tp 24 (by decide +kernel) (by decide +kernel)), (ev_tb 5 (by decide +kernel) (by decide +kernel)), (ev_tb 755 (by decide +kernel) (by decide +kernel)), ⟨by decide +kernel, by decide +kernel, by decide +kernel⟩, ⟨by decide, by decide⟩⟩
theorem wR_join_151 : ev_CV M_R_join 90 M_R_hang 4 2 := ⟨⟨_, rfl, rfl⟩, rfl, (ev_tb 724 (by decide +kernel) (by decide +kernel)), (ev_tb 726 (by decide +kernel) (by decide +kernel)), (ev_tp 20 (by decide +kernel) (by decide +kernel)), (ev_tb 5 (by decide +kernel) (by decide +kernel)), (ev_tb 727 (by decide +kernel) (by decide +kernel)), ⟨by decide +kernel, by decide +kernel, by decide +kernel⟩, ⟨by decide, by decide⟩⟩
theorem wR_block_3 : ev_CV M_R_block 94 M_R_isOrder 4 1 := ⟨⟨_, rfl, rfl⟩, rfl, (ev_tb 716 (by decide +kernel) (by decide +kernel)), (ev_tb 718 (by decide +kernel) (by decide +kernel)), (ev_tp 18 (by decide +kernel) (by decide +kernel)), (ev_tb 5 (by decide +kernel) (by decide +kernel)), (ev_tb 719 (by decide +kernel) (by decide +kernel)), ⟨by decide +kernel, by decide +kernel, by decide +kernel⟩, ⟨by decide, by decide⟩⟩
theorem wR_block_17 : ev_CS M_R_block 78 M_R_in 3 := ⟨rfl, (ev_tb 704 (by decide +kernel) (by decide +kernel)), (ev_tb 705 (by decide +kernel) (by decide +kernel)), (ev_tb 5 (by decide +kernel) (by decide +kernel)), (ev_tb 706 (by decide +kernel) (by decide +kernel)), ⟨by decide +kernel, by decide +kernel, by decide +kernel⟩, ⟨by decide, by decide⟩⟩
theorem wR_block_116 : ev_CS M_R_block 125 M_R_bits 1 := ⟨rfl, (ev_tb 788 (by decide +kernel) (by decide +kernel)), (ev_tb 789 (by decide +kernel) (by decide +kernel)), (ev_tb 5 (by decide +kernel) (by decide +kernel)), (ev_tb 790 (by decide +kernel) (by decide +kernel)), ⟨by decide +kernel, by decide +kernel, by decide +kernel⟩, ⟨by decide, by decide⟩⟩
theorem wR_backorder_3 : ev_CV M_R_backorder 101 M_R_isLine 4 1 := ⟨⟨_, rfl, rfl⟩, rfl, (ev_tb 732 (by decide +kernel) (by decide +kernel)), (ev_tb 734 (by decide +kernel) (by decide +kernel)), (ev_tp 21 (by decide +kernel) (by decide +kernel)), (ev_tb 5 (by decide +kernel) (by decide +kernel)), (ev_tb 735 (by decide +kernel) (by decide +kernel)), ⟨by decide +kernel, by decide +kernel, by decide +kernel⟩, ⟨by decide, by decide⟩⟩
theorem wR_backorder_52 : ev_CV M_R_backorder 108 M_R_has 4 2 := ⟨⟨_, rfl, rfl⟩, rfl, (ev_tb 760 (by decide +kernel) (by decide +kernel)), (ev_tb 762 (by decide +kernel) (by decide +kernel)), (ev_tp 26 (by decide +kernel) (by decide +kernel)), (ev_tb 5 (by decide +kernel) (by decide +kernel)), (ev_tb 763 (by decide +kernel) (by decide +kernel)), ⟨by decide +kernel, by decide +kernel, by decide +kernel⟩, ⟨by decide, by decide⟩⟩
theorem wR_backorder_60 : ev_CV M_R_backorder 119 M_R_shortOf 4 1 := ⟨⟨_, rfl, rfl⟩, rfl, (ev_tb 764 (by decide +kernel) (by decide +kernel)), (ev_tb 766 (by decide +kernel) (by decide +kernel)), (ev_tp 27 (by decide +kernel) (by decide +kernel)), (ev_tb 5 (by decide +kernel) (by decide +kernel)), (ev_tb 767 (by decide +kernel) (by decide +kernel)), ⟨by decide +kernel, by decide +kernel, by decide +kernel⟩, ⟨by decide, by decide⟩⟩
theorem wR_backorder_161 : ev_CV M_R_backorder 86 M_R_newOrder 4 4 := ⟨⟨_, rfl, rfl⟩, rfl, (ev_tb 708 (by decide +kernel) (by decide +kernel)), (ev_tb 710 (by decide +kernel) (by decide +kernel)), (ev_tp 17 (by decide +kernel) (by decide +kernel)), (ev_tb 5 (by decide +kernel) (by decide +kernel)), (ev_tb 711 (by decide +kernel) (by decide +kernel)), ⟨by decide +kernel, by decide +kernel, by decide +kernel⟩, ⟨by decide, by decide⟩⟩
theorem wR_backorder_172 : ev_CV M_R_backorder 119 M_R_shortOf 4 1 := ⟨⟨_, rfl, rfl⟩, rfl, (ev_tb 764 (by decide +kernel) (by decide +kernel)), (ev_tb 766 (by decide +kernel) (by decide +kernel)), (ev_tp 27 (by decide +kernel) (by decide +kernel)), (ev_tb 5 (by decide +kernel) (by decide +kernel)), (ev_tb 767 (by decide +kernel) (by decide +kernel)), ⟨by decide +kernel, by decide +kernel, by decide +kernel⟩, ⟨by decide, by decide⟩⟩
theorem wR_backorder_181 : ev_CV M_R_backorder 98 M_R_newLine 4 4 := ⟨⟨_, rfl, rfl⟩, rfl, (ev_tb 720 (by decide +kernel) (by decide +kernel)), (ev_tb 722 (by decide +kernel) (by decide +kernel)), (ev_tp 19 (by decide +kernel) (by decide +kernel)), (ev_tb 5 (by decide +kernel) (by decide +kernel)), (ev_tb 723 (by decide +kernel) (by decide +kernel)), ⟨by decide +kernel, by decide +kernel, by decide +kernel⟩, ⟨by decide, by decide⟩⟩
theorem wR_ready_32 : ev_CV M_R_ready 128 M_R_isWaiting 4 1 := ⟨⟨_, rfl, rfl⟩, rfl, (ev_tb 799 (by decide +kernel) (by decide +kernel)), (ev_tb 801 (by decide +kernel) (by decide +kernel)), (ev_tp 28 (by decide +kernel) (by decide +kernel)), (ev_tb 5 (by decide +kernel) (by decide +kernel)), (ev_tb 802 (by decide +kernel) (by decide +kernel)), ⟨by decide +kernel, by decide +kernel, by decide +kernel⟩, ⟨by decide, by decide⟩⟩
theorem wR_ready_59 : ev_CV M_R_ready 128 M_R_isWaiting 4 1 := ⟨⟨_, rfl, rfl⟩, rfl, (ev_tb 799 (by decide +kernel) (by decide +kernel)), (ev_tb 801 (by decide +kernel) (by decide +kernel)), (ev_tp 28 (by decide +kernel) (by decide +kernel)), (ev_tb 5 (by decide +kernel) (by decide +kernel)), (ev_tb 802 (by decide +kernel) (by decide +kernel)), ⟨by decide +kernel, by decide +kernel, by decide +kernel⟩, ⟨by decide, by decide⟩⟩
theorem wR_ready_69 : ev_CV M_R_ready 131 M_R_isBefore 4 2 := ⟨⟨_, rfl, rfl⟩, rfl, (ev_tb 803 (by decide +kernel) (by decide +kernel)), (ev_tb 805 (by decide +kernel) (by decide +kernel)), (ev_tp 29 (by decide +kernel) (by decide +kernel)), (ev_tb 5 (by decide +kernel) (by decide +kernel)), (ev_tb 806 (by decide +kernel) (by decide +kernel)), ⟨by decide +kernel, by decide +kernel, by decide +kernel⟩, ⟨by decide, by decide⟩⟩
theorem wR_told_3 : ev_CV M_R_told 94 M_R_isOrder 4 1 := ⟨⟨_, rfl, rfl⟩, rfl, (ev_tb 716 (by decide +kernel) (by decide +kernel)), (ev_tb 718 (by decide +kernel) (by decide +kernel)), (ev_tp 18 (by decide +kernel) (by decide +kernel)), (ev_tb 5 (by decide +kernel) (by decide +kernel)), (ev_tb 719 (by decide +kernel) (by decide +kernel)), ⟨by decide +kernel, by decide +kernel, by decide +kernel⟩, ⟨by decide, by decide⟩⟩
theorem wR_told_17 : ev_CS M_R_told 78 M_R_in 3 := ⟨rfl, (ev_tb 704 (by decide +kernel) (by decide +kernel)), (ev_tb 705 (by decide +kernel) (by decide +kernel)), (ev_tb 5 (by decide +kernel) (by decide +kernel)), (ev_tb 706 (by decide +kernel) (by decide +kernel)), ⟨by decide +kernel, by decide +kernel, by decide +kernel⟩, ⟨by decide, by decide⟩⟩
theorem wR_told_192 : ev_CV M_R_told 104 M_R_lineAt 4 2 := ⟨⟨_, rfl, rfl⟩, rfl, (ev_tb 752 (by decide +kernel) (by decide +kernel)), (ev_tb 754 (by decide +kernel) (by decide +kernel)), (ev_tp 24 (by decide +kernel) (by decide +kernel)), (ev_tb 5 (by decide +kernel) (by decide +kernel)), (ev_tb 755 (by decide +kernel) (by decide +kernel)), ⟨by decide +kernel, by decide +kernel, by decide +kernel⟩, ⟨by decide, by decide⟩⟩
theorem wR_told_195 : ev_CV M_R_told 119 M_R_shortOf 4 1 := ⟨⟨_, rfl, rfl⟩, rfl, (ev_tb 764 (by decide +kernel) (by decide +kernel)), (ev_tb 766 (by decide +kernel) (by decide +kernel)), (ev_tp 27 (by decide +kernel) (by decide +kernel)), (ev_tb 5 (by decide +kernel) (by decide +kernel)), (ev_tb 767 (by decide +kernel) (by decide +kernel)), ⟨by decide +kernel, by decide +kernel, by decide +kernel⟩, ⟨by decide, by decide⟩⟩
theorem wR_lineOf_3 : ev_CV M_R_lineOf 94 M_R_isOrder 4 1 := ⟨⟨_, rfl, rfl⟩, rfl, (ev_tb 716 (by decide +kernel) (by decide +kernel)), (ev_tb 718 (by decide +kernel) (by decide +kernel)), (ev_tp 18 (by decide +kernel) (by decide +kernel)), (ev_tb 5 (by decide +kernel) (by decide +kernel)), (ev_tb 719 (by decide +kernel) (by decide +kernel)), ⟨by decide +kernel, by decide +kernel, by decide +kernel⟩, ⟨by decide, by decide⟩⟩
theorem wR_lineOf_47 : ev_CV M_R_lineOf 104 M_R_lineAt 4 2 := ⟨⟨_, rfl, rfl⟩, rfl, (ev_tb 752 (by decide +kernel) (by decide +kernel)), (ev_tb 754 (by decide +kernel) (by decide +kernel)), (ev_tp 24 (by decide +kernel) (by decide +kernel)), (ev_tb 5 (by decide +kernel) (by decide +kernel)), (ev_tb 755 (by decide +kernel) (by decide +kernel)), ⟨by decide +kernel, by decide +kernel, by decide +kernel⟩, ⟨by decide, by decide⟩⟩
theorem wR_packed_3 : ev_CV M_R_packed 101 M_R_isLine 4 1 := ⟨⟨_, rfl, rfl⟩, rfl, (ev_tb 732 (by decide +kernel) (by decide +kernel)), (ev_tb 734 (by decide +kernel) (by decide +kernel)), (ev_tp 21 (by decide +kernel) (by decide +kernel)), (ev_tb 5 (by decide +kernel) (by decide +kernel)), (ev_tb 735 (by decide +kernel) (by decide +kernel)), ⟨by decide +kernel, by decide +kernel, by decide +kernel⟩, ⟨by decide, by decide⟩⟩
theorem iR_134 : Cond.constantLong "OrderRows3Model" 134 2 ∈ ev_TB := (ev_tb 819 (by decide +kernel) (by decide +kernel))
theorem oL_3 : Cond.methodLink "OrderRows3$Line" 3 objectInit ∈ ev_TB ∧ Cond.instanceMethod objectInit ∈ ev_TB ∧ Cond.code objectInit ⟨#[0xb1]⟩ 1 none ∈ ev_TB := ⟨(ev_tb 372 (by decide +kernel) (by decide +kernel)), (ev_tb 28 (by decide +kernel) (by decide +kernel)), (ev_tb 29 (by decide +kernel) (by decide +kernel))⟩
theorem pL_9 : ev_FF "OrderRows3$Line" 9 2 0 (.int) := ⟨_, _, "OrderRows3$Line", cls2, by decide, (ev_tb 373 (by decide +kernel) (by decide +kernel)), rfl, rfl, rfl, rfl⟩
theorem pL_15 : ev_FP "OrderRows3$Line" 15 2 2 (.object "OrderRows3$Order") := ⟨_, _, "OrderRows3$Line", cls2, by decide, (ev_tb 377 (by decide +kernel) (by decide +kernel)), Or.inl rfl, rfl, rfl⟩
theorem pL_19 : ev_FF "OrderRows3$Line" 19 2 1 (.int) := ⟨_, _, "OrderRows3$Line", cls2, by decide, (ev_tb 375 (by decide +kernel) (by decide +kernel)), rfl, rfl, rfl, rfl⟩
theorem pL_22 : ev_FP "OrderRows3$Line" 22 2 3 (.int) := ⟨_, _, "OrderRows3$Line", cls2, by decide, (ev_tb 380 (by decide +kernel) (by decide +kernel)), Or.inl rfl, rfl, rfl⟩
theorem pL_25 : ev_FP "OrderRows3$Line" 25 2 4 (.int) := ⟨_, _, "OrderRows3$Line", cls2, by decide, (ev_tb 382 (by decide +kernel) (by decide +kernel)), Or.inl rfl, rfl, rfl⟩
theorem pL_28 : ev_FP "OrderRows3$Line" 28 2 5 (.int) := ⟨_, _, "OrderRows3$Line", cls2, by decide, (ev_tb 384 (by decide +kernel) (by decide +kernel)), Or.inl rfl, rfl, rfl⟩
theorem pL_31 : ev_FP "OrderRows3$Line" 31 2 6 (.int) := ⟨_, _, "OrderRows3$Line", cls2, by decide, (ev_tb 387 (by decide +kernel) (by decide +kernel)), Or.inl rfl, rfl, rfl⟩
theorem pL_34 : ev_FP "OrderRows3$Line" 34 2 7 (.int) := ⟨_, _, "OrderRows3$Line", cls2, by decide, (ev_tb 390 (by decide +kernel) (by decide +kernel)), Or.inl rfl, rfl, rfl⟩
theorem pL_37 : ev_FP "OrderRows3$Line" 37 2 8 (.int) := ⟨_, _, "OrderRows3$Line", cls2, by decide, (ev_tb 393 (by decide +kernel) (by decide +kernel)), Or.inl rfl, rfl, rfl⟩
theorem pL_40 : ev_FP "OrderRows3$Line" 40 2 9 (.boolean) := ⟨_, _, "OrderRows3$Line", cls2, by decide, (ev_tb 395 (by decide +kernel) (by decide +kernel)), Or.inl rfl, rfl, rfl⟩
theorem pL_44 : ev_FP "OrderRows3$Line" 44 2 10 (.boolean) := ⟨_, _, "OrderRows3$Line", cls2, by decide, (ev_tb 398 (by decide +kernel) (by decide +kernel)), Or.inl rfl, rfl, rfl⟩
theorem kL_25 : ev_FL "OrderRows3$Line" 25 2 4 := ⟨_, _, "OrderRows3$Line", cls2, by decide, (ev_tb 382 (by decide +kernel) (by decide +kernel)), Or.inl rfl⟩
theorem kL_28 : ev_FL "OrderRows3$Line" 28 2 5 := ⟨_, _, "OrderRows3$Line", cls2, by decide, (ev_tb 384 (by decide +kernel) (by decide +kernel)), Or.inl rfl⟩
theorem kL_22 : ev_FL "OrderRows3$Line" 22 2 3 := ⟨_, _, "OrderRows3$Line", cls2, by decide, (ev_tb 380 (by decide +kernel) (by decide +kernel)), Or.inl rfl⟩
theorem wL_isReady_13 : ev_CV M_L_isReady 47 M_L_hasRule 2 1 := ⟨⟨_, rfl, rfl⟩, rfl, (ev_tb 472 (by decide +kernel) (by decide +kernel)), (ev_tb 473 (by decide +kernel) (by decide +kernel)), (ev_tb 474 (by decide +kernel) (by decide +kernel)), (ev_tb 20 (by decide +kernel) (by decide +kernel)), (ev_tb 475 (by decide +kernel) (by decide +kernel)), ⟨by decide +kernel, by decide +kernel, by decide +kernel⟩, ⟨by decide, by decide⟩⟩
theorem wL_isReady_28 : ev_CV M_L_isReady 47 M_L_hasRule 2 1 := ⟨⟨_, rfl, rfl⟩, rfl, (ev_tb 472 (by decide +kernel) (by decide +kernel)), (ev_tb 473 (by decide +kernel) (by decide +kernel)), (ev_tb 474 (by decide +kernel) (by decide +kernel)), (ev_tb 20 (by decide +kernel) (by decide +kernel)), (ev_tb 475 (by decide +kernel) (by decide +kernel)), ⟨by decide +kernel, by decide +kernel, by decide +kernel⟩, ⟨by decide, by decide⟩⟩
theorem kL_34 : ev_FL "OrderRows3$Line" 34 2 7 := ⟨_, _, "OrderRows3$Line", cls2, by decide, (ev_tb 390 (by decide +kernel) (by decide +kernel)), Or.inl rfl⟩
theorem kL_40 : ev_FL "OrderRows3$Line" 40 2 9 := ⟨_, _, "OrderRows3$Line", cls2, by decide, (ev_tb 395 (by decide +kernel) (by decide +kernel)), Or.inl rfl⟩
theorem wL_awaitsBackorder_9 : ev_CV M_L_awaitsBackorder 47 M_L_hasRule 2 1 := ⟨⟨_, rfl, rfl⟩, rfl, (ev_tb 472 (by decide +kernel) (by decide +kernel)), (ev_tb 473 (by decide +kernel) (by decide +kernel)), (ev_tb 474 (by decide +kernel) (by decide +kernel)), (ev_tb 20 (by decide +kernel) (by decide +kernel)), (ev_tb 475 (by decide +kernel) (by decide +kernel)), ⟨by decide +kernel, by decide +kernel, by decide +kernel⟩, ⟨by decide, by decide⟩⟩
theorem wL_awaitsBackorder_16 : ev_CV M_L_awaitsBackorder 51 M_L_missing 2 0 := ⟨⟨_, rfl, rfl⟩, rfl, (ev_tb 488 (by decide +kernel) (by decide +kernel)), (ev_tb 489 (by decide +kernel) (by decide +kernel)), (ev_tb 490 (by decide +kernel) (by decide +kernel)), (ev_tb 20 (by decide +kernel) (by decide +kernel)), (ev_tb 491 (by decide +kernel) (by decide +kernel)), ⟨by decide +kernel, by decide +kernel, by decide +kernel⟩, ⟨by decide, by decide⟩⟩
theorem kL_44 : ev_FL "OrderRows3$Line" 44 2 10 := ⟨_, _, "OrderRows3$Line", cls2, by decide, (ev_tb 398 (by decide +kernel) (by decide +kernel)), Or.inl rfl⟩
theorem oO_3 : Cond.methodLink "OrderRows3$Order" 3 objectInit ∈ ev_TB ∧ Cond.instanceMethod objectInit ∈ ev_TB ∧ Cond.code objectInit ⟨#[0xb1]⟩ 1 none ∈ ev_TB := ⟨(ev_tb 212 (by decide +kernel) (by decide +kernel)), (ev_tb 28 (by decide +kernel) (by decide +kernel)), (ev_tb 29 (by decide +kernel) (by decide +kernel))⟩
theorem pO_9 : ev_FF "OrderRows3$Order" 9 1 0 (.int) := ⟨_, _, "OrderRows3$Order", cls1, by decide, (ev_tb 215 (by decide +kernel) (by decide +kernel)), rfl, rfl, rfl, rfl⟩
theorem pO_15 : ev_FF "OrderRows3$Order" 15 1 1 (.int) := ⟨_, _, "OrderRows3$Order", cls1, by decide, (ev_tb 217 (by decide +kernel) (by decide +kernel)), rfl, rfl, rfl, rfl⟩
theorem pO_18 : ev_FF "OrderRows3$Order" 18 1 2 (.int) := ⟨_, _, "OrderRows3$Order", cls1, by decide, (ev_tb 219 (by decide +kernel) (by decide +kernel)), rfl, rfl, rfl, rfl⟩
theorem pO_21 : ev_FF "OrderRows3$Order" 21 1 3 (.int) := ⟨_, _, "OrderRows3$Order", cls1, by decide, (ev_tb 221 (by decide +kernel) (by decide +kernel)), rfl, rfl, rfl, rfl⟩
theorem pO_24 : ev_FP "OrderRows3$Order" 24 1 5 (.int) := ⟨_, _, "OrderRows3$Order", cls1, by decide, (ev_tb 225 (by decide +kernel) (by decide +kernel)), Or.inl rfl, rfl, rfl⟩
theorem nO_27 : ev_NW "OrderRows3$Order" 27 3 [.null, .int 0, .int 0] := ⟨_, _, cls3, (ev_tb 213 (by decide +kernel) (by decide +kernel)), (ev_tb 31 (by decide +kernel) (by decide +kernel)), (ev_tb 4 (by decide +kernel) (by decide +kernel)), rfl, fun j hj => by have hj : j < 3 := hj; rcases (show j = 0 ∨ j = 1 ∨ j = 2 by omega) with rfl | rfl | rfl <;> rfl⟩
theorem wO_init_36 : ev_CI M_O_init 29 M_A_init 0 := ⟨rfl, rfl, rfl, (ev_tb 214 (by decide +kernel) (by decide +kernel)), (ev_tb 33 (by decide +kernel) (by decide +kernel)), (ev_tb 4 (by decide +kernel) (by decide +kernel)), (ev_tb 34 (by decide +kernel) (by decide +kernel)), ⟨by decide +kernel, by decide +kernel, by decide +kernel⟩, ⟨by decide, by decide⟩⟩
theorem pO_30 : ev_FF "OrderRows3$Order" 30 1 4 (.object "java/util/ArrayList") := ⟨_, _, "OrderRows3$Order", cls1, by decide, (ev_tb 223 (by decide +kernel) (by decide +kernel)), rfl, rfl, rfl, rfl⟩
theorem pO_34 : ev_FP "OrderRows3$Order" 34 1 6 (.int) := ⟨_, _, "OrderRows3$Order", cls1, by decide, (ev_tb 227 (by decide +kernel) (by decide +kernel)), Or.inl rfl, rfl, rfl⟩
theorem pO_37 : ev_FP "OrderRows3$Order" 37 1 7 (.int) := ⟨_, _, "OrderRows3$Order", cls1, by decide, (ev_tb 229 (by decide +kernel) (by decide +kernel)), Or.inl rfl, rfl, rfl⟩
theorem pO_40 : ev_FP "OrderRows3$Order" 40 1 8 (.int) := ⟨_, _, "OrderRows3$Order", cls1, by decide, (ev_tb 231 (by decide +kernel) (by decide +kernel)), Or.inl rfl, rfl, rfl⟩
theorem pO_43 : ev_FP "OrderRows3$Order" 43 1 9 (.int) := ⟨_, _, "OrderRows3$Order", cls1, by decide, (ev_tb 233 (by decide +kernel) (by decide +kernel)), Or.inl rfl, rfl, rfl⟩
theorem kO_37 : ev_FL "OrderRows3$Order" 37 1 7 := ⟨_, _, "OrderRows3$Order", cls1, by decide, (ev_tb 229 (by decide +kernel) (by decide +kernel)), Or.inl rfl⟩
theorem kO_34 : ev_FL "OrderRows3$Order" 34 1 6 := ⟨_, _, "OrderRows3$Order", cls1, by decide, (ev_tb 227 (by decide +kernel) (by decide +kernel)), Or.inl rfl⟩
theorem wO_isWaiting_16 : ev_CV M_O_isWaiting 46 M_O_isBlocked 1 0 := ⟨⟨_, rfl, rfl⟩, rfl, (ev_tb 582 (by decide +kernel) (by decide +kernel)), (ev_tb 443 (by decide +kernel) (by decide +kernel)), (ev_tb 444 (by decide +kernel) (by decide +kernel)), (ev_tb 13 (by decide +kernel) (by decide +kernel)), (ev_tb 445 (by decide +kernel) (by decide +kernel)), ⟨by decide +kernel, by decide +kernel, by decide +kernel⟩, ⟨by decide, by decide⟩⟩
theorem kO_21 : ev_FL "OrderRows3$Order" 21 1 3 := ⟨_, _, "OrderRows3$Order", cls1, by decide, (ev_tb 221 (by decide +kernel) (by decide +kernel)), Or.inl rfl⟩
theorem kO_24 : ev_FL "OrderRows3$Order" 24 1 5 := ⟨_, _, "OrderRows3$Order", cls1, by decide, (ev_tb 225 (by decide +kernel) (by decide +kernel)), Or.inl rfl⟩
theorem kO_9 : ev_FL "OrderRows3$Order" 9 1 0 := ⟨_, _, "OrderRows3$Order", cls1, by decide, (ev_tb 215 (by decide +kernel) (by decide +kernel)), Or.inl rfl⟩
theorem wO_meetsNextPhase_41 : ev_CV M_O_meetsNextPhase 50 M_O_hasLiveLine 1 0 := ⟨⟨_, rfl, rfl⟩, rfl, (ev_tb 457 (by decide +kernel) (by decide +kernel)), (ev_tb 458 (by decide +kernel) (by decide +kernel)), (ev_tb 459 (by decide +kernel) (by decide +kernel)), (ev_tb 13 (by decide +kernel) (by decide +kernel)), (ev_tb 460 (by decide +kernel) (by decide +kernel)), ⟨by decide +kernel, by decide +kernel, by decide +kernel⟩, ⟨by decide, by decide⟩⟩
theorem wO_meetsNextPhase_48 : ev_CV M_O_meetsNextPhase 53 M_O_eachLiveLineIsReady 1 0 := ⟨⟨_, rfl, rfl⟩, rfl, (ev_tb 464 (by decide +kernel) (by decide +kernel)), (ev_tb 466 (by decide +kernel) (by decide +kernel)), (ev_tp 13 (by decide +kernel) (by decide +kernel)), (ev_tb 13 (by decide +kernel) (by decide +kernel)), (ev_tb 467 (by decide +kernel) (by decide +kernel)), ⟨by decide +kernel, by decide +kernel, by decide +kernel⟩, ⟨by decide, by decide⟩⟩
theorem wO_meetsNextPhase_61 : ev_CV M_O_meetsNextPhase 56 M_O_allHeldIsPicked 1 0 := ⟨⟨_, rfl, rfl⟩, rfl, (ev_tb 476 (by decide +kernel) (by decide +kernel)), (ev_tb 478 (by decide +kernel) (by decide +kernel)), (ev_tp 14 (by decide +kernel) (by decide +kernel)), (ev_tb 13 (by decide +kernel) (by decide +kernel)), (ev_tb 479 (by decide +kernel) (by decide +kernel)), ⟨by decide +kernel, by decide +kernel, by decide +kernel⟩, ⟨by decide, by decide⟩⟩
theorem wO_meetsNextPhase_66 : ev_CV M_O_meetsNextPhase 59 M_O_noLineAwaitsBackorder 1 0 := ⟨⟨_, rfl, rfl⟩, rfl, (ev_tb 480 (by decide +kernel) (by decide +kernel)), (ev_tb 482 (by decide +kernel) (by decide +kernel)), (ev_tp 15 (by decide +kernel) (by decide +kernel)), (ev_tb 13 (by decide +kernel) (by decide +kernel)), (ev_tb 483 (by decide +kernel) (by decide +kernel)), ⟨by decide +kernel, by decide +kernel, by decide +kernel⟩, ⟨by decide, by decide⟩⟩
theorem kO_30 : ev_FL "OrderRows3$Order" 30 1 4 := ⟨_, _, "OrderRows3$Order", cls1, by decide, (ev_tb 223 (by decide +kernel) (by decide +kernel)), Or.inl rfl⟩
theorem wO_hasLiveLine_7 : ev_CV M_O_hasLiveLine 62 M_A_size 3 0 := ⟨⟨_, rfl, rfl⟩, rfl, (ev_tb 461 (by decide +kernel) (by decide +kernel)), (ev_tb 68 (by decide +kernel) (by decide +kernel)), (ev_tb 69 (by decide +kernel) (by decide +kernel)), (ev_tb 4 (by decide +kernel) (by decide +kernel)), (ev_tb 70 (by decide +kernel) (by decide +kernel)), ⟨by decide +kernel, by decide +kernel, by decide +kernel⟩, ⟨by decide, by decide⟩⟩
theorem wO_hasLiveLine_18 : ev_CV M_O_hasLiveLine 66 M_A_get 3 1 := ⟨⟨_, rfl, rfl⟩, rfl, (ev_tb 462 (by decide +kernel) (by decide +kernel)), (ev_tb 76 (by decide +kernel) (by decide +kernel)), (ev_tb 77 (by decide +kernel) (by decide +kernel)), (ev_tb 4 (by decide +kernel) (by decide +kernel)), (ev_tb 78 (by decide +kernel) (by decide +kernel)), ⟨by decide +kernel, by decide +kernel, by decide +kernel⟩, ⟨by decide, by decide⟩⟩
theorem cO_70 : ev_CC "OrderRows3$Order" 70 2 := ⟨_, rfl, (ev_tb 463 (by decide +kernel) (by decide +kernel))⟩
theorem kO_72 : ev_FL "OrderRows3$Order" 72 2 9 := ⟨_, _, "OrderRows3$Line", cls2, by decide, (ev_tb 397 (by decide +kernel) (by decide +kernel)), Or.inl rfl⟩
theorem wO_eachLiveLineIsReady_7 : ev_CV M_O_eachLiveLineIsReady 62 M_A_size 3 0 := ⟨⟨_, rfl, rfl⟩, rfl, (ev_tb 461 (by decide +kernel) (by decide +kernel)), (ev_tb 68 (by decide +kernel) (by decide +kernel)), (ev_tb 69 (by decide +kernel) (by decide +kernel)), (ev_tb 4 (by decide +kernel) (by decide +kernel)), (ev_tb 70 (by decide +kernel) (by decide +kernel)), ⟨by decide +kernel, by decide +kernel, by decide +kernel⟩, ⟨by decide, by decide⟩⟩
theorem wO_eachLiveLineIsReady_18 : ev_CV M_O_eachLiveLineIsReady 66 M_A_get 3 1 := ⟨⟨_, rfl, rfl⟩, rfl, (ev_tb 462 (by decide +kernel) (by decide +kernel)), (ev_tb 76 (by decide +kernel) (by decide +kernel)), (ev_tb 77 (by decide +kernel) (by decide +kernel)), (ev_tb 4 (by decide +kernel) (by decide +kernel)), (ev_tb 78 (by decide +kernel) (by decide +kernel)), ⟨by decide +kernel, by decide +kernel, by decide +kernel⟩, ⟨by decide, by decide⟩⟩
theorem wO_eachLiveLineIsReady_33 : ev_CV M_O_eachLiveLineIsReady 76 M_L_isReady 2 0 := ⟨⟨_, rfl, rfl⟩, rfl, (ev_tb 468 (by decide +kernel) (by decide +kernel)), (ev_tb 469 (by decide +kernel) (by decide +kernel)), (ev_tb 470 (by decide +kernel) (by decide +kernel)), (ev_tb 20 (by decide +kernel) (by decide +kernel)), (ev_tb 471 (by decide +kernel) (by decide +kernel)), ⟨by decide +kernel, by decide +kernel, by decide +kernel⟩, ⟨by decide, by decide⟩⟩
theorem wO_allHeldIsPicked_7 : ev_CV M_O_allHeldIsPicked 62 M_A_size 3 0 := ⟨⟨_, rfl, rfl⟩, rfl, (ev_tb 461 (by decide +kernel) (by decide +kernel)), (ev_tb 68 (by decide +kernel) (by decide +kernel)), (ev_tb 69 (by decide +kernel) (by decide +kernel)), (ev_tb 4 (by decide +kernel) (by decide +kernel)), (ev_tb 70 (by decide +kernel) (by decide +kernel)), ⟨by decide +kernel, by decide +kernel, by decide +kernel⟩, ⟨by decide, by decide⟩⟩
theorem wO_allHeldIsPicked_18 : ev_CV M_O_allHeldIsPicked 66 M_A_get 3 1 := ⟨⟨_, rfl, rfl⟩, rfl, (ev_tb 462 (by decide +kernel) (by decide +kernel)), (ev_tb 76 (by decide +kernel) (by decide +kernel)), (ev_tb 77 (by decide +kernel) (by decide +kernel)), (ev_tb 4 (by decide +kernel) (by decide +kernel)), (ev_tb 78 (by decide +kernel) (by decide +kernel)), ⟨by decide +kernel, by decide +kernel, by decide +kernel⟩, ⟨by decide, by decide⟩⟩
theorem kO_79 : ev_FL "OrderRows3$Order" 79 2 6 := ⟨_, _, "OrderRows3$Line", cls2, by decide, (ev_tb 389 (by decide +kernel) (by decide +kernel)), Or.inl rfl⟩
theorem kO_82 : ev_FL "OrderRows3$Order" 82 2 5 := ⟨_, _, "OrderRows3$Line", cls2, by decide, (ev_tb 386 (by decide +kernel) (by decide +kernel)), Or.inl rfl⟩
theorem wO_noLineAwaitsBackorder_7 : ev_CV M_O_noLineAwaitsBackorder 62 M_A_size 3 0 := ⟨⟨_, rfl, rfl⟩, rfl, (ev_tb 461 (by decide +kernel) (by decide +kernel)), (ev_tb 68 (by decide +kernel) (by decide +kernel)), (ev_tb 69 (by decide +kernel) (by decide +kernel)), (ev_tb 4 (by decide +kernel) (by decide +kernel)), (ev_tb 70 (by decide +kernel) (by decide +kernel)), ⟨by decide +kernel, by decide +kernel, by decide +kernel⟩, ⟨by decide, by decide⟩⟩
theorem wO_noLineAwaitsBackorder_18 : ev_CV M_O_noLineAwaitsBackorder 66 M_A_get 3 1 := ⟨⟨_, rfl, rfl⟩, rfl, (ev_tb 462 (by decide +kernel) (by decide +kernel)), (ev_tb 76 (by decide +kernel) (by decide +kernel)), (ev_tb 77 (by decide +kernel) (by decide +kernel)), (ev_tb 4 (by decide +kernel) (by decide +kernel)), (ev_tb 78 (by decide +kernel) (by decide +kernel)), ⟨by decide +kernel, by decide +kernel, by decide +kernel⟩, ⟨by decide, by decide⟩⟩
theorem wO_noLineAwaitsBackorder_24 : ev_CV M_O_noLineAwaitsBackorder 85 M_L_awaitsBackorder 2 0 := ⟨⟨_, rfl, rfl⟩, rfl, (ev_tb 484 (by decide +kernel) (by decide +kernel)), (ev_tb 485 (by decide +kernel) (by decide +kernel)), (ev_tb 486 (by decide +kernel) (by decide +kernel)), (ev_tb 20 (by decide +kernel) (by decide +kernel)), (ev_tb 487 (by decide +kernel) (by decide +kernel)), ⟨by decide +kernel, by decide +kernel, by decide +kernel⟩, ⟨by decide, by decide⟩⟩
theorem wO_shipAllPicked_7 : ev_CV M_O_shipAllPicked 62 M_A_size 3 0 := ⟨⟨_, rfl, rfl⟩, rfl, (ev_tb 461 (by decide +kernel) (by decide +kernel)), (ev_tb 68 (by decide +kernel) (by decide +kernel)), (ev_tb 69 (by decide +kernel) (by decide +kernel)), (ev_tb 4 (by decide +kernel) (by decide +kernel)), (ev_tb 70 (by decide +kernel) (by decide +kernel)), ⟨by decide +kernel, by decide +kernel, by decide +kernel⟩, ⟨by decide, by decide⟩⟩
theorem wO_shipAllPicked_18 : ev_CV M_O_shipAllPicked 66 M_A_get 3 1 := ⟨⟨_, rfl, rfl⟩, rfl, (ev_tb 462 (by decide +kernel) (by decide +kernel)), (ev_tb 76 (by decide +kernel) (by decide +kernel)), (ev_tb 77 (by decide +kernel) (by decide +kernel)), (ev_tb 4 (by decide +kernel) (by decide +kernel)), (ev_tb 78 (by decide +kernel) (by decide +kernel)), ⟨by decide +kernel, by decide +kernel, by decide +kernel⟩, ⟨by decide, by decide⟩⟩
theorem pO_88 : ev_FP "OrderRows3$Order" 88 2 7 (.int) := ⟨_, _, "OrderRows3$Line", cls2, by decide, (ev_tb 391 (by decide +kernel) (by decide +kernel)), Or.inl rfl, rfl, rfl⟩
theorem wO_takeLinesOf_7 : ev_CV M_O_takeLinesOf 62 M_A_size 3 0 := ⟨⟨_, rfl, rfl⟩, rfl, (ev_tb 461 (by decide +kernel) (by decide +kernel)), (ev_tb 68 (by decide +kernel) (by decide +kernel)), (ev_tb 69 (by decide +kernel) (by decide +kernel)), (ev_tb 4 (by decide +kernel) (by decide +kernel)), (ev_tb 70 (by decide +kernel) (by decide +kernel)), ⟨by decide +kernel, by decide +kernel, by decide +kernel⟩, ⟨by decide, by decide⟩⟩
theorem wO_takeLinesOf_18 : ev_CV M_O_takeLinesOf 66 M_A_get 3 1 := ⟨⟨_, rfl, rfl⟩, rfl, (ev_tb 462 (by decide +kernel) (by decide +kernel)), (ev_tb 76 (by decide +kernel) (by decide +kernel)), (ev_tb 77 (by decide +kernel) (by decide +kernel)), (ev_tb 4 (by decide +kernel) (by decide +kernel)), (ev_tb 78 (by decide +kernel) (by decide +kernel)), ⟨by decide +kernel, by decide +kernel, by decide +kernel⟩, ⟨by decide, by decide⟩⟩
theorem pO_91 : ev_FP "OrderRows3$Order" 91 2 2 (.object "OrderRows3$Order") := ⟨_, _, "OrderRows3$Line", cls2, by decide, (ev_tb 379 (by decide +kernel) (by decide +kernel)), Or.inl rfl, rfl, rfl⟩
theorem wO_takeLinesOf_35 : ev_CV M_O_takeLinesOf 95 M_A_add0 3 1 := ⟨⟨_, rfl, rfl⟩, rfl, (ev_tb 540 (by decide +kernel) (by decide +kernel)), (ev_tb 257 (by decide +kernel) (by decide +kernel)), (ev_tb 258 (by decide +kernel) (by decide +kernel)), (ev_tb 4 (by decide +kernel) (by decide +kernel)), (ev_tb 259 (by decide +kernel) (by decide +kernel)), ⟨by decide +kernel, by decide +kernel, by decide +kernel⟩, ⟨by decide, by decide⟩⟩
theorem wO_takeLinesOf_49 : ev_CV M_O_takeLinesOf 99 M_A_clear 3 0 := ⟨⟨_, rfl, rfl⟩, rfl, (ev_tb 541 (by decide +kernel) (by decide +kernel)), (ev_tb 542 (by decide +kernel) (by decide +kernel)), (ev_tb 543 (by decide +kernel) (by decide +kernel)), (ev_tb 4 (by decide +kernel) (by decide +kernel)), (ev_tb 544 (by decide +kernel) (by decide +kernel)), ⟨by decide +kernel, by decide +kernel, by decide +kernel⟩, ⟨by decide, by decide⟩⟩
theorem wO_missing_19 : ev_CV M_O_missing 62 M_A_size 3 0 := ⟨⟨_, rfl, rfl⟩, rfl, (ev_tb 461 (by decide +kernel) (by decide +kernel)), (ev_tb 68 (by decide +kernel) (by decide +kernel)), (ev_tb 69 (by decide +kernel) (by decide +kernel)), (ev_tb 4 (by decide +kernel) (by decide +kernel)), (ev_tb 70 (by decide +kernel) (by decide +kernel)), ⟨by decide +kernel, by decide +kernel, by decide +kernel⟩, ⟨by decide, by decide⟩⟩
theorem wO_missing_30 : ev_CV M_O_missing 66 M_A_get 3 1 := ⟨⟨_, rfl, rfl⟩, rfl, (ev_tb 462 (by decide +kernel) (by decide +kernel)), (ev_tb 76 (by decide +kernel) (by decide +kernel)), (ev_tb 77 (by decide +kernel) (by decide +kernel)), (ev_tb 4 (by decide +kernel) (by decide +kernel)), (ev_tb 78 (by decide +kernel) (by decide +kernel)), ⟨by decide +kernel, by decide +kernel, by decide +kernel⟩, ⟨by decide, by decide⟩⟩
theorem wO_missing_46 : ev_CV M_O_missing 102 M_L_missing 2 0 := ⟨⟨_, rfl, rfl⟩, rfl, (ev_tb 602 (by decide +kernel) (by decide +kernel)), (ev_tb 489 (by decide +kernel) (by decide +kernel)), (ev_tb 490 (by decide +kernel) (by decide +kernel)), (ev_tb 20 (by decide +kernel) (by decide +kernel)), (ev_tb 491 (by decide +kernel) (by decide +kernel)), ⟨by decide +kernel, by decide +kernel, by decide +kernel⟩, ⟨by decide, by decide⟩⟩
theorem iJi_265 : Cond.constant "java/lang/Integer" 265 1431655765 ∈ ev_TB := (ev_tb 555 (by decide +kernel) (by decide +kernel))
theorem iJi_266 : Cond.constant "java/lang/Integer" 266 858993459 ∈ ev_TB := (ev_tb 556 (by decide +kernel) (by decide +kernel))
theorem iJi_267 : Cond.constant "java/lang/Integer" 267 252645135 ∈ ev_TB := (ev_tb 557 (by decide +kernel) (by decide +kernel))
theorem oAc_1 : Cond.methodLink "java/util/AbstractCollection" 1 objectInit ∈ ev_TB ∧ Cond.instanceMethod objectInit ∈ ev_TB ∧ Cond.code objectInit ⟨#[0xb1]⟩ 1 none ∈ ev_TB := ⟨(ev_tb 41 (by decide +kernel) (by decide +kernel)), (ev_tb 28 (by decide +kernel) (by decide +kernel)), (ev_tb 29 (by decide +kernel) (by decide +kernel))⟩
theorem wAl_init_1 : ev_CI M_Al_init 1 M_Ac_init 0 := ⟨rfl, rfl, rfl, (ev_tb 38 (by decide +kernel) (by decide +kernel)), (ev_tb 39 (by decide +kernel) (by decide +kernel)), (ev_tb 2 (by decide +kernel) (by decide +kernel)), (ev_tb 40 (by decide +kernel) (by decide +kernel)), ⟨by decide +kernel, by decide +kernel, by decide +kernel⟩, ⟨by decide, by decide⟩⟩
theorem pAl_7 : ev_FP "java/util/AbstractList" 7 3 2 (.int) := ⟨_, _, "java/util/AbstractList", cls3, by decide, (ev_tb 46 (by decide +kernel) (by decide +kernel)), Or.inl rfl, rfl, rfl⟩
theorem wA_init_1 : ev_CI M_A_init 1 M_Al_init 0 := ⟨rfl, rfl, rfl, (ev_tb 35 (by decide +kernel) (by decide +kernel)), (ev_tb 36 (by decide +kernel) (by decide +kernel)), (ev_tb 3 (by decide +kernel) (by decide +kernel)), (ev_tb 37 (by decide +kernel) (by decide +kernel)), ⟨by decide +kernel, by decide +kernel, by decide +kernel⟩, ⟨by decide, by decide⟩⟩
theorem gA_39 : Cond.fieldLink "java/util/ArrayList" 39 "java/util/ArrayList" "DEFAULTCAPACITY_EMPTY_ELEMENTDATA" "[Ljava/lang/Object;" ∈ ev_TB := (ev_tb 42 (by decide +kernel) (by decide +kernel))
theorem pA_9 : ev_FP "java/util/ArrayList" 9 3 0 (.array (.object "java/lang/Object")) := ⟨_, _, "java/util/ArrayList", cls3, by decide, (ev_tb 44 (by decide +kernel) (by decide +kernel)), Or.inl rfl, rfl, rfl⟩
theorem kA_63 : ev_FL "java/util/ArrayList" 63 3 2 := ⟨_, _, "java/util/ArrayList", cls3, by decide, (ev_tb 47 (by decide +kernel) (by decide +kernel)), Or.inr (ev_tb 48 (by decide +kernel) (by decide +kernel))⟩
theorem pA_63 : ev_FP "java/util/ArrayList" 63 3 2 (.int) := ⟨_, _, "java/util/ArrayList", cls3, by decide, (ev_tb 47 (by decide +kernel) (by decide +kernel)), Or.inr (ev_tb 48 (by decide +kernel) (by decide +kernel)), rfl, rfl⟩
theorem kA_9 : ev_FL "java/util/ArrayList" 9 3 0 := ⟨_, _, "java/util/ArrayList", cls3, by decide, (ev_tb 44 (by decide +kernel) (by decide +kernel)), Or.inl rfl⟩
theorem kA_48 : ev_FL "java/util/ArrayList" 48 3 1 := ⟨_, _, "java/util/ArrayList", cls3, by decide, (ev_tb 45 (by decide +kernel) (by decide +kernel)), Or.inl rfl⟩
theorem wA_add0_20 : ev_CV M_A_add0 131 M_A_add1 3 3 := ⟨⟨_, rfl, rfl⟩, rfl, (ev_tb 260 (by decide +kernel) (by decide +kernel)), (ev_tb 262 (by decide +kernel) (by decide +kernel)), (ev_tp 6 (by decide +kernel) (by decide +kernel)), (ev_tb 4 (by decide +kernel) (by decide +kernel)), (ev_tb 263 (by decide +kernel) (by decide +kernel)), ⟨by decide +kernel, by decide +kernel, by decide +kernel⟩, ⟨by decide, by decide⟩⟩
theorem wA_add1_7 : ev_CV M_A_add1 129 M_A_grow0 3 0 := ⟨⟨_, rfl, rfl⟩, rfl, (ev_tb 264 (by decide +kernel) (by decide +kernel)), (ev_tb 266 (by decide +kernel) (by decide +kernel)), (ev_tp 7 (by decide +kernel) (by decide +kernel)), (ev_tb 4 (by decide +kernel) (by decide +kernel)), (ev_tb 267 (by decide +kernel) (by decide +kernel)), ⟨by decide +kernel, by decide +kernel, by decide +kernel⟩, ⟨by decide, by decide⟩⟩
theorem pA_48 : ev_FP "java/util/ArrayList" 48 3 1 (.int) := ⟨_, _, "java/util/ArrayList", cls3, by decide, (ev_tb 45 (by decide +kernel) (by decide +kernel)), Or.inl rfl, rfl, rfl⟩
theorem wA_get_5 : ev_CS M_A_get 118 M_Jo_checkIndex 2 := ⟨rfl, (ev_tb 79 (by decide +kernel) (by decide +kernel)), (ev_tb 80 (by decide +kernel) (by decide +kernel)), (ev_tb 10 (by decide +kernel) (by decide +kernel)), (ev_tb 81 (by decide +kernel) (by decide +kernel)), ⟨by decide +kernel, by decide +kernel, by decide +kernel⟩, ⟨by decide, by decide⟩⟩
theorem wA_get_11 : ev_CV M_A_get 123 M_A_elementData 3 1 := ⟨⟨_, rfl, rfl⟩, rfl, (ev_tb 85 (by decide +kernel) (by decide +kernel)), (ev_tb 86 (by decide +kernel) (by decide +kernel)), (ev_tb 87 (by decide +kernel) (by decide +kernel)), (ev_tb 4 (by decide +kernel) (by decide +kernel)), (ev_tb 88 (by decide +kernel) (by decide +kernel)), ⟨by decide +kernel, by decide +kernel, by decide +kernel⟩, ⟨by decide, by decide⟩⟩
theorem wA_grow0_7 : ev_CV M_A_grow0 69 M_A_grow1 3 1 := ⟨⟨_, rfl, rfl⟩, rfl, (ev_tb 268 (by decide +kernel) (by decide +kernel)), (ev_tb 270 (by decide +kernel) (by decide +kernel)), (ev_tp 8 (by decide +kernel) (by decide +kernel)), (ev_tb 4 (by decide +kernel) (by decide +kernel)), (ev_tb 271 (by decide +kernel) (by decide +kernel)), ⟨by decide +kernel, by decide +kernel, by decide +kernel⟩, ⟨by decide, by decide⟩⟩
theorem wJo_checkIndex_3 : ev_CS M_Jo_checkIndex 105 M_Jp_checkIndex 3 := ⟨rfl, (ev_tb 82 (by decide +kernel) (by decide +kernel)), (ev_tb 83 (by decide +kernel) (by decide +kernel)), (ev_tb 11 (by decide +kernel) (by decide +kernel)), (ev_tb 84 (by decide +kernel) (by decide +kernel)), ⟨by decide +kernel, by decide +kernel, by decide +kernel⟩, ⟨by decide, by decide⟩⟩
theorem yJs_194 : Cond.methodLink "jdk/internal/util/ArraysSupport" 194 Lib.Math.max.name ∈ ev_TB ∧ Cond.static Lib.Math.max.name ∈ ev_TB ∧ Cond.initialized "java/lang/Math" ∈ ev_TB ∧ Cond.code Lib.Math.max.name Lib.Math.max.code 2 (some .int) ∈ ev_TB := ⟨(ev_tb 275 (by decide +kernel) (by decide +kernel)), (ev_tb 276 (by decide +kernel) (by decide +kernel)), (ev_tb 15 (by decide +kernel) (by decide +kernel)), (ev_tb 277 (by decide +kernel) (by decide +kernel))⟩
theorem iJs_200 : Cond.constant "jdk/internal/util/ArraysSupport" 200 2147483639 ∈ ev_TB := (ev_tb 278 (by decide +kernel) (by decide +kernel))
end
section
/-! what the laws of helpers speak of -/
/-- the reference's array of the field f holds v at i -/
def ev_ar (h : ev_AH) (m f : Nat) (i v : Int32) : Prop := ∃ a : Nat, ev_f h m 4 f = some (.ref a) ∧ ¬ i < 0 ∧ ev_f h a (if f = 21 ∨ f = 22 then 101 else 100) i.toNatClampNeg = some (.int v)
/-- the list at a holds v at i -/
def ev_get (h : ev_AH) (a : Nat) (i : Int32) (v : Nat) : Prop := ∃ (n : Int32) (r : Nat), ev_f h a 3 1 = some (.int n) ∧ ¬ i < 0 ∧ i < n ∧ ev_f h a 3 0 = some (.ref r) ∧ ev_f h r 103 i.toNatClampNeg = some (.ref v)
/-- before: by the first pair, then the second, then the third -/
abbrev ev_lex (a b c d e f : Int32) : Prop := (¬ a = b ∧ a < b) ∨ (a = b ∧ ((¬ c = d ∧ c < d) ∨ (c = d ∧ e < f)))
theorem ev_b_nar (c : Prop) [Decidable c] : narrow .boolean (.int (ev_b c)) = .int (ev_b c) := by
  unfold ev_b
  split <;> rfl
end
section
/-! WALKS: the helpers -/
set_option maxRecDepth 20000 in
theorem vX_requireRange {l : Launch} {G : ev_G} {h : ev_AH} {P : ev_Post} {p0 : Int32} {p1 : Int32} {p2 : Int32} (V : ((p0 < p1 → P (.inr "java/lang/IllegalArgumentException") h) ∧ (¬ p0 < p1 → ((p0 ≤ p2 → P (.inl none) h) ∧ (¬ p0 ≤ p2 → P (.inr "java/lang/IllegalArgumentException") h))))) : Mt l G M_X_requireRange [.int p0, .int p1, .int p2] h P := by
  refine Mt.of rfl rfl (Nat.le_of_ble_eq_true rfl) ?_
  show Ev l G M_X_requireRange 0 [(0, .int p0), (1, .int p1), (2, .int p2)] [] h 1 6 (ev_fin G M_X_requireRange P)
  refine e_iload_n fX_requireRange_0 rfl 0 rfl ?_
  refine e_iload_n fX_requireRange_1 rfl 1 rfl ?_
  refine e_icmp_lt (tgt := 10) fX_requireRange_2 (by decide) (fun z => ?_) (fun z => ?_)
  · have V := V.1 z
    exact e_throwS fX_requireRange_10 fX_requireRange_13 fX_requireRange_14 fX_requireRange_16 fX_requireRange_19 tX_requireRange_10 (by decide) (by decide) V
  · have V := V.2 z
    refine e_iload_n fX_requireRange_5 rfl 0 rfl ?_
    refine e_iload_n fX_requireRange_6 rfl 2 rfl ?_
    refine e_icmp_le (tgt := 20) fX_requireRange_7 (by decide) (fun z => ?_) (fun z => ?_)
    · have V := V.1 z
      exact e_vret fX_requireRange_20 rfl V
    · have V := V.2 z
      exact e_throwS fX_requireRange_10 fX_requireRange_13 fX_requireRange_14 fX_requireRange_16 fX_requireRange_19 tX_requireRange_10 (by decide) (by decide) V
set_option maxRecDepth 20000 in
theorem vX_requireNotNegative {l : Launch} {G : ev_G} {h : ev_AH} {P : ev_Post} {p0 : Int32} (V : ((0 ≤ p0 → P (.inl none) h) ∧ (¬ 0 ≤ p0 → P (.inr "java/lang/IllegalArgumentException") h))) : Mt l G M_X_requireNotNegative [.int p0] h P := by
  refine Mt.of rfl rfl (Nat.le_of_ble_eq_true rfl) ?_
  show Ev l G M_X_requireNotNegative 0 [(0, .int p0)] [] h 1 6 (ev_fin G M_X_requireNotNegative P)
  refine e_iload_n fX_requireNotNegative_0 rfl 0 rfl ?_
  refine e_if_ge (tgt := 14) fX_requireNotNegative_1 (by decide) (fun z => ?_) (fun z => ?_)
  · have V := V.1 z
    exact e_vret fX_requireNotNegative_14 rfl V
  · have V := V.2 z
    exact e_throwS fX_requireNotNegative_4 fX_requireNotNegative_7 fX_requireNotNegative_8 fX_requireNotNegative_10 fX_requireNotNegative_13 tX_requireNotNegative_4 (by decide) (by decide) V
set_option maxRecDepth 20000 in
theorem vX_requireState {l : Launch} {G : ev_G} {h : ev_AH} {P : ev_Post} {p0 : Int32} (V : ((¬ p0 = 0 → P (.inl none) h) ∧ (p0 = 0 → P (.inr "java/lang/IllegalStateException") h))) : Mt l G M_X_requireState [.int p0] h P := by
  refine Mt.of rfl rfl (Nat.le_of_ble_eq_true rfl) ?_
  show Ev l G M_X_requireState 0 [(0, .int p0)] [] h 1 6 (ev_fin G M_X_requireState P)
  refine e_iload_n fX_requireState_0 rfl 0 rfl ?_
  refine e_if_ne (tgt := 14) fX_requireState_1 (by decide) (fun z => ?_) (fun z => ?_)
  · have V := V.1 z
    exact e_vret fX_requireState_14 rfl V
  · have V := V.2 z
    exact e_throwS fX_requireState_4 fX_requireState_7 fX_requireState_8 fX_requireState_10 fX_requireState_13 tX_requireState_4 (by decide) (by decide) V
set_option maxRecDepth 20000 in
theorem vX_requireRoom {l : Launch} {G : ev_G} {h : ev_AH} {P : ev_Post} {p0 : Int32} (V : ((¬ p0 = 0 → P (.inl none) h) ∧ (p0 = 0 → P (.inr "java/lang/UnsupportedOperationException") h))) : Mt l G M_X_requireRoom [.int p0] h P := by
  refine Mt.of rfl rfl (Nat.le_of_ble_eq_true rfl) ?_
  show Ev l G M_X_requireRoom 0 [(0, .int p0)] [] h 1 6 (ev_fin G M_X_requireRoom P)
  refine e_iload_n fX_requireRoom_0 rfl 0 rfl ?_
  refine e_if_ne (tgt := 14) fX_requireRoom_1 (by decide) (fun z => ?_) (fun z => ?_)
  · have V := V.1 z
    exact e_vret fX_requireRoom_14 rfl V
  · have V := V.2 z
    exact e_throwS fX_requireRoom_4 fX_requireRoom_7 fX_requireRoom_8 fX_requireRoom_10 fX_requireRoom_13 tX_requireRoom_4 (by decide) (by decide) V
set_option maxRecDepth 20000 in
theorem vR_in {l : Launch} {G : ev_G} {h : ev_AH} {P : ev_Post} {p0 : Int32} {p1 : Int32} {p2 : Int32} (V : ((p0 < p1 → P (.inl (some (.int 0))) h) ∧ (¬ p0 < p1 → ((p2 < p0 → P (.inl (some (.int 0))) h) ∧ (¬ p2 < p0 → P (.inl (some (.int 1))) h))))) : Mt l G M_R_in [.int p0, .int p1, .int p2] h P := by
  refine Mt.of rfl rfl (Nat.le_of_ble_eq_true rfl) ?_
  show Ev l G M_R_in 0 [(0, .int p0), (1, .int p1), (2, .int p2)] [] h 0 0 (ev_fin G M_R_in P)
  refine e_iload_n fR_in_0 rfl 0 rfl ?_
  refine e_iload_n fR_in_1 rfl 1 rfl ?_
  refine e_icmp_lt (tgt := 14) fR_in_2 (by decide) (fun z => ?_) (fun z => ?_)
  · have V := V.1 z
    refine e_iconst (v := 0) fR_in_14 (by decide) ?_
    exact e_zret fR_in_15 rfl rfl V
  · have V := V.2 z
    refine e_iload_n fR_in_5 rfl 0 rfl ?_
    refine e_iload_n fR_in_6 rfl 2 rfl ?_
    refine e_icmp_gt (tgt := 14) fR_in_7 (by decide) (fun z => ?_) (fun z => ?_)
    · have V := V.1 z
      refine e_iconst (v := 0) fR_in_14 (by decide) ?_
      exact e_zret fR_in_15 rfl rfl V
    · have V := V.2 z
      refine e_iconst (v := 1) fR_in_10 (by decide) ?_
      refine e_goto (tgt := 15) fR_in_11 (by decide) ?_
      exact e_zret fR_in_15 rfl rfl V
set_option maxRecDepth 20000 in
theorem vO_isBlocked {l : Launch} {G : ev_G} {h : ev_AH} {P : ev_Post} {p0 : Nat} (V : ∃ v1 : Int32, ev_f h p0 1 7 = some (.int v1) ∧ ((v1 = 0 → P (.inl (some (.int 0))) h) ∧ (¬ v1 = 0 → P (.inl (some (.int 1))) h))) : Mt l G M_O_isBlocked [.ref p0] h P := by
  refine Mt.of rfl rfl (Nat.le_of_ble_eq_true rfl) ?_
  show Ev l G M_O_isBlocked 0 [(0, .ref p0)] [] h 0 0 (ev_fin G M_O_isBlocked P)
  refine e_aload_n fO_isBlocked_0 rfl 0 rfl ?_
  obtain ⟨v1, gv1, V⟩ := V
  refine e_get fO_isBlocked_1 kO_37 gv1 ?_
  refine e_if_eq (tgt := 11) fO_isBlocked_4 (by decide) (fun z => ?_) (fun z => ?_)
  · have V := V.1 z
    refine e_iconst (v := 0) fO_isBlocked_11 (by decide) ?_
    exact e_zret fO_isBlocked_12 rfl rfl V
  · have V := V.2 z
    refine e_iconst (v := 1) fO_isBlocked_7 (by decide) ?_
    refine e_goto (tgt := 12) fO_isBlocked_8 (by decide) ?_
    exact e_zret fO_isBlocked_12 rfl rfl V
set_option maxRecDepth 20000 in
theorem vL_hasRule {l : Launch} {G : ev_G} {h : ev_AH} {P : ev_Post} {p0 : Nat} {p1 : Int32} (V : ∃ v1 : Int32, ev_f h p0 2 4 = some (.int v1) ∧ (((v1 &&& p1) = 0 → P (.inl (some (.int 0))) h) ∧ (¬ (v1 &&& p1) = 0 → P (.inl (some (.int 1))) h))) : Mt l G M_L_hasRule [.ref p0, .int p1] h P := by
  refine Mt.of rfl rfl (Nat.le_of_ble_eq_true rfl) ?_
  show Ev l G M_L_hasRule 0 [(0, .ref p0), (1, .int p1)] [] h 0 0 (ev_fin G M_L_hasRule P)
  refine e_aload_n fL_hasRule_0 rfl 0 rfl ?_
  obtain ⟨v1, gv1, V⟩ := V
  refine e_get fL_hasRule_1 kL_25 gv1 ?_
  refine e_iload_n fL_hasRule_4 rfl 1 rfl ?_
  refine e_iand fL_hasRule_5 ?_
  refine e_if_eq (tgt := 13) fL_hasRule_6 (by decide) (fun z => ?_) (fun z => ?_)
  · have V := V.1 z
    refine e_iconst (v := 0) fL_hasRule_13 (by decide) ?_
    exact e_zret fL_hasRule_14 rfl rfl V
  · have V := V.2 z
    refine e_iconst (v := 1) fL_hasRule_9 (by decide) ?_
    refine e_goto (tgt := 14) fL_hasRule_10 (by decide) ?_
    exact e_zret fL_hasRule_14 rfl rfl V
set_option maxRecDepth 20000 in
theorem vL_missing {l : Launch} {G : ev_G} {h : ev_AH} {P : ev_Post} {p0 : Nat} (V : ∃ v1 : Int32, ev_f h p0 2 3 = some (.int v1) ∧ ∃ v2 : Int32, ev_f h p0 2 7 = some (.int v2) ∧ P (.inl (some (.int (v1 - v2)))) h) : Mt l G M_L_missing [.ref p0] h P := by
  refine Mt.of rfl rfl (Nat.le_of_ble_eq_true rfl) ?_
  show Ev l G M_L_missing 0 [(0, .ref p0)] [] h 0 0 (ev_fin G M_L_missing P)
  refine e_aload_n fL_missing_0 rfl 0 rfl ?_
  obtain ⟨v1, gv1, V⟩ := V
  refine e_get fL_missing_1 kL_22 gv1 ?_
  refine e_aload_n fL_missing_4 rfl 0 rfl ?_
  obtain ⟨v2, gv2, V⟩ := V
  refine e_get fL_missing_5 kL_34 gv2 ?_
  refine e_isub fL_missing_8 ?_
  exact e_iret fL_missing_9 rfl V
set_option maxRecDepth 20000 in
theorem vX_phaseLetsChange {l : Launch} {G : ev_G} {h : ev_AH} {P : ev_Post} {p0 : Int32} {p1 : Int32} (V : ((p0 = 0 → P (.inl (some (.int 1))) h) ∧ (¬ p0 = 0 → ((¬ p0 = 1 → P (.inl (some (.int 0))) h) ∧ (p0 = 1 → ((¬ p1 = 2 → P (.inl (some (.int 0))) h) ∧ (p1 = 2 → P (.inl (some (.int 1))) h))))))) : Mt l G M_X_phaseLetsChange [.int p0, .int p1] h P := by
  refine Mt.of rfl rfl (Nat.le_of_ble_eq_true rfl) ?_
  show Ev l G M_X_phaseLetsChange 0 [(0, .int p0), (1, .int p1)] [] h 0 0 (ev_fin G M_X_phaseLetsChange P)
  refine e_iload_n fX_phaseLetsChange_0 rfl 0 rfl ?_
  refine e_if_eq (tgt := 14) fX_phaseLetsChange_1 (by decide) (fun z => ?_) (fun z => ?_)
  · have V := V.1 z
    refine e_iconst (v := 1) fX_phaseLetsChange_14 (by decide) ?_
    refine e_goto (tgt := 19) fX_phaseLetsChange_15 (by decide) ?_
    exact e_zret fX_phaseLetsChange_19 rfl rfl V
  · have V := V.2 z
    refine e_iload_n fX_phaseLetsChange_4 rfl 0 rfl ?_
    refine e_iconst (v := 1) fX_phaseLetsChange_5 (by decide) ?_
    refine e_icmp_ne (tgt := 18) fX_phaseLetsChange_6 (by decide) (fun z => ?_) (fun z => ?_)
    · have V := V.1 z
      refine e_iconst (v := 0) fX_phaseLetsChange_18 (by decide) ?_
      exact e_zret fX_phaseLetsChange_19 rfl rfl V
    · have V := V.2 z
      refine e_iload_n fX_phaseLetsChange_9 rfl 1 rfl ?_
      refine e_iconst (v := 2) fX_phaseLetsChange_10 (by decide) ?_
      refine e_icmp_ne (tgt := 18) fX_phaseLetsChange_11 (by decide) (fun z => ?_) (fun z => ?_)
      · have V := V.1 z
        refine e_iconst (v := 0) fX_phaseLetsChange_18 (by decide) ?_
        exact e_zret fX_phaseLetsChange_19 rfl rfl V
      · have V := V.2 z
        refine e_iconst (v := 1) fX_phaseLetsChange_14 (by decide) ?_
        refine e_goto (tgt := 19) fX_phaseLetsChange_15 (by decide) ?_
        exact e_zret fX_phaseLetsChange_19 rfl rfl V
end
section
/-! LAWS of the helpers -/
section S1
variable {l : Launch} {G : ev_G} {h : ev_AH}
theorem sp_X_requireRange {v lo hi : Int32} : Mt l G M_X_requireRange [.int v, .int lo, .int hi] h (ev_pv (fun h' => h = h' ∧ (¬ v < lo ∧ ¬ hi < v)) (fun E h' => h = h' ∧ (v < lo ∨ hi < v) ∧ "java/lang/IllegalArgumentException" = E)) :=
  vX_requireRange ⟨fun z => ⟨rfl, Or.inl z, rfl⟩, fun z => ⟨fun y => ⟨rfl, z, Int32.not_lt.mpr y⟩, fun y => ⟨rfl, Or.inr (Int32.not_le.mp y), rfl⟩⟩⟩
theorem sp_X_requireNotNegative {v : Int32} : Mt l G M_X_requireNotNegative [.int v] h (ev_pv (fun h' => h = h' ∧ ¬ v < 0) (fun E h' => h = h' ∧ v < 0 ∧ "java/lang/IllegalArgumentException" = E)) :=
  vX_requireNotNegative ⟨fun y => ⟨rfl, Int32.not_lt.mpr y⟩, fun y => ⟨rfl, Int32.not_le.mp y, rfl⟩⟩
theorem sp_X_requireState {v : Int32} : Mt l G M_X_requireState [.int v] h (ev_pv (fun h' => h = h' ∧ ¬ v = 0) (fun E h' => h = h' ∧ v = 0 ∧ "java/lang/IllegalStateException" = E)) :=
  vX_requireState ⟨fun y => ⟨rfl, y⟩, fun y => ⟨rfl, y, rfl⟩⟩
theorem sp_X_requireRoom {v : Int32} : Mt l G M_X_requireRoom [.int v] h (ev_pv (fun h' => h = h' ∧ ¬ v = 0) (fun E h' => h = h' ∧ v = 0 ∧ "java/lang/UnsupportedOperationException" = E)) :=
  vX_requireRoom ⟨fun y => ⟨rfl, y⟩, fun y => ⟨rfl, y, rfl⟩⟩
theorem sp_R_in {v lo hi : Int32} : Mt l G M_R_in [.int v, .int lo, .int hi] h (ev_pi (fun r h' => h = h' ∧ r = ev_b (lo ≤ v ∧ v ≤ hi)) (fun _ _ => False)) := by
  refine vR_in ?_
  unfold ev_b
  refine ⟨fun z => ⟨rfl, ?_⟩, fun z => ⟨fun y => ⟨rfl, ?_⟩, fun y => ⟨rfl, ?_⟩⟩⟩
  · rw [if_neg (fun q => absurd q.1 (Int32.not_le.mpr z))]
  · rw [if_neg (fun q => absurd q.2 (Int32.not_le.mpr y))]
  · rw [if_pos ⟨Int32.not_lt.mp z, Int32.not_lt.mp y⟩]
theorem sp_O_isBlocked {a : Nat} {b : Int32} (g : ev_f h a 1 7 = some (.int b)) : Mt l G M_O_isBlocked [.ref a] h (ev_pi (fun r h' => h = h' ∧ r = ev_b (¬ b = 0)) (fun _ _ => False)) := by
  refine vO_isBlocked ⟨b, g, fun z => ⟨rfl, ?_⟩, fun z => ⟨rfl, ?_⟩⟩ <;> simp [ev_b, z]
theorem sp_L_hasRule {a : Nat} {b k : Int32} (g : ev_f h a 2 4 = some (.int b)) : Mt l G M_L_hasRule [.ref a, .int k] h (ev_pi (fun r h' => h = h' ∧ r = ev_b (¬ (b &&& k) = 0)) (fun _ _ => False)) := by
  refine vL_hasRule ⟨b, g, fun z => ⟨rfl, ?_⟩, fun z => ⟨rfl, ?_⟩⟩ <;> simp [ev_b, z]
theorem sp_L_missing {a : Nat} {w s : Int32} (g : ev_f h a 2 3 = some (.int w)) (g' : ev_f h a 2 7 = some (.int s)) : Mt l G M_L_missing [.ref a] h (ev_pi (fun r h' => h = h' ∧ r = w - s) (fun _ _ => False)) :=
  vL_missing ⟨w, g, s, g', rfl, rfl⟩
theorem sp_X_phaseLetsChange {p w : Int32} : Mt l G M_X_phaseLetsChange [.int p, .int w] h (ev_pi (fun r h' => h = h' ∧ r = ev_b (p = 0 ∨ (p = 1 ∧ w = 2))) (fun _ _ => False)) := by
  refine vX_phaseLetsChange ?_
  simp only [ev_b]
  grind
end S1
end
section
/-! WALKS: the helpers of helpers -/
set_option maxRecDepth 20000 in
theorem vO_isWaiting {l : Launch} {G : ev_G} {h : ev_AH} {P : ev_Post} {p0 : Nat} (V : ∃ v1 : Int32, ev_f h p0 1 6 = some (.int v1) ∧ ((v1 = 0 → ∃ v3 : Int32, ev_f h p0 1 7 = some (.int v3) ∧ (∃ fs : List Value, h p0 = some (1, fs)) ∧ ((¬ (ev_b (¬ v3 = 0)) = 0 → P (.inl (some (.int 0))) h) ∧ ((ev_b (¬ v3 = 0)) = 0 → P (.inl (some (.int 1))) h))) ∧ (¬ v1 = 0 → ∃ v6 : Int32, ev_f h p0 1 6 = some (.int v6) ∧ ((¬ v6 = 1 → P (.inl (some (.int 0))) h) ∧ (v6 = 1 → ∃ v8 : Int32, ev_f h p0 1 7 = some (.int v8) ∧ (∃ fs : List Value, h p0 = some (1, fs)) ∧ ((¬ (ev_b (¬ v8 = 0)) = 0 → P (.inl (some (.int 0))) h) ∧ ((ev_b (¬ v8 = 0)) = 0 → P (.inl (some (.int 1))) h))))))) : Mt l G M_O_isWaiting [.ref p0] h P := by
  refine Mt.of rfl rfl (Nat.le_of_ble_eq_true rfl) ?_
  show Ev l G M_O_isWaiting 0 [(0, .ref p0)] [] h 0 0 (ev_fin G M_O_isWaiting P)
  refine e_aload_n fO_isWaiting_0 rfl 0 rfl ?_
  obtain ⟨v1, gv1, V⟩ := V
  refine e_get fO_isWaiting_1 kO_34 gv1 ?_
  refine e_if_eq (tgt := 15) fO_isWaiting_4 (by decide) (fun z => ?_) (fun z => ?_)
  · have V := V.1 z
    refine e_aload_n fO_isWaiting_15 rfl 0 rfl ?_
    obtain ⟨v3, gv3, V⟩ := V
    obtain ⟨gc, V⟩ := V
    refine e_callVi (uc' := 0) (us' := 0) (st := []) fO_isWaiting_16 wO_isWaiting_16 rfl rfl gc (sp_O_isBlocked gv3) (Nat.le_of_ble_eq_true rfl) (by decide) (by decide) (fun r5 h4 ga => ?_) (fun E h4 gx => False.elim gx)
    obtain ⟨rfl, rfl⟩ := ga
    refine e_if_ne (tgt := 26) fO_isWaiting_19 (by decide) (fun z => ?_) (fun z => ?_)
    · have V := V.1 z
      refine e_iconst (v := 0) fO_isWaiting_26 (by decide) ?_
      exact e_zret fO_isWaiting_27 rfl rfl V
    · have V := V.2 z
      refine e_iconst (v := 1) fO_isWaiting_22 (by decide) ?_
      refine e_goto (tgt := 27) fO_isWaiting_23 (by decide) ?_
      exact e_zret fO_isWaiting_27 rfl rfl V
  · have V := V.2 z
    refine e_aload_n fO_isWaiting_7 rfl 0 rfl ?_
    obtain ⟨v6, gv6, V⟩ := V
    refine e_get fO_isWaiting_8 kO_34 gv6 ?_
    refine e_iconst (v := 1) fO_isWaiting_11 (by decide) ?_
    refine e_icmp_ne (tgt := 26) fO_isWaiting_12 (by decide) (fun z => ?_) (fun z => ?_)
    · have V := V.1 z
      refine e_iconst (v := 0) fO_isWaiting_26 (by decide) ?_
      exact e_zret fO_isWaiting_27 rfl rfl V
    · have V := V.2 z
      refine e_aload_n fO_isWaiting_15 rfl 0 rfl ?_
      obtain ⟨v8, gv8, V⟩ := V
      obtain ⟨gc, V⟩ := V
      refine e_callVi (uc' := 0) (us' := 0) (st := []) fO_isWaiting_16 wO_isWaiting_16 rfl rfl gc (sp_O_isBlocked gv8) (Nat.le_of_ble_eq_true rfl) (by decide) (by decide) (fun r10 h9 ga => ?_) (fun E h9 gx => False.elim gx)
      obtain ⟨rfl, rfl⟩ := ga
      refine e_if_ne (tgt := 26) fO_isWaiting_19 (by decide) (fun z => ?_) (fun z => ?_)
      · have V := V.1 z
        refine e_iconst (v := 0) fO_isWaiting_26 (by decide) ?_
        exact e_zret fO_isWaiting_27 rfl rfl V
      · have V := V.2 z
        refine e_iconst (v := 1) fO_isWaiting_22 (by decide) ?_
        refine e_goto (tgt := 27) fO_isWaiting_23 (by decide) ?_
        exact e_zret fO_isWaiting_27 rfl rfl V
set_option maxRecDepth 20000 in
theorem vL_isReady {l : Launch} {G : ev_G} {h : ev_AH} {P : ev_Post} {p0 : Nat} (V : ∃ v1 : Int32, ev_f h p0 2 5 = some (.int v1) ∧ ∃ v2 : Int32, ev_f h p0 2 3 = some (.int v2) ∧ ((v1 = v2 → P (.inl (some (.int 1))) h) ∧ (¬ v1 = v2 → ∃ v4 : Int32, ev_f h p0 2 4 = some (.int v4) ∧ (∃ fs : List Value, h p0 = some (2, fs)) ∧ (((ev_b (¬ (v4 &&& 1) = 0)) = 0 → ∃ v8 : Int32, ev_f h p0 2 4 = some (.int v8) ∧ (∃ fs : List Value, h p0 = some (2, fs)) ∧ (((ev_b (¬ (v8 &&& 4) = 0)) = 0 → P (.inl (some (.int 0))) h) ∧ (¬ (ev_b (¬ (v8 &&& 4) = 0)) = 0 → P (.inl (some (.int 1))) h))) ∧ (¬ (ev_b (¬ (v4 &&& 1) = 0)) = 0 → ∃ v11 : Int32, ev_f h p0 2 5 = some (.int v11) ∧ ((0 < v11 → P (.inl (some (.int 1))) h) ∧ (¬ 0 < v11 → ∃ v13 : Int32, ev_f h p0 2 4 = some (.int v13) ∧ (∃ fs : List Value, h p0 = some (2, fs)) ∧ (((ev_b (¬ (v13 &&& 4) = 0)) = 0 → P (.inl (some (.int 0))) h) ∧ (¬ (ev_b (¬ (v13 &&& 4) = 0)) = 0 → P (.inl (some (.int 1))) h))))))))) : Mt l G M_L_isReady [.ref p0] h P := by
  refine Mt.of rfl rfl (Nat.le_of_ble_eq_true rfl) ?_
  show Ev l G M_L_isReady 0 [(0, .ref p0)] [] h 0 0 (ev_fin G M_L_isReady P)
  refine e_aload_n fL_isReady_0 rfl 0 rfl ?_
  obtain ⟨v1, gv1, V⟩ := V
  refine e_get fL_isReady_1 kL_28 gv1 ?_
  refine e_aload_n fL_isReady_4 rfl 0 rfl ?_
  obtain ⟨v2, gv2, V⟩ := V
  refine e_get fL_isReady_5 kL_22 gv2 ?_
  refine e_icmp_eq (tgt := 34) fL_isReady_8 (by decide) (fun z => ?_) (fun z => ?_)
  · have V := V.1 z
    refine e_iconst (v := 1) fL_isReady_34 (by decide) ?_
    refine e_goto (tgt := 39) fL_isReady_35 (by decide) ?_
    exact e_zret fL_isReady_39 rfl rfl V
  · have V := V.2 z
    refine e_aload_n fL_isReady_11 rfl 0 rfl ?_
    refine e_iconst (v := 1) fL_isReady_12 (by decide) ?_
    obtain ⟨v4, gv4, V⟩ := V
    obtain ⟨gc, V⟩ := V
    refine e_callVi (uc' := 0) (us' := 0) (st := []) fL_isReady_13 wL_isReady_13 rfl rfl gc (sp_L_hasRule gv4) (Nat.le_of_ble_eq_true rfl) (by decide) (by decide) (fun r6 h5 ga => ?_) (fun E h5 gx => False.elim gx)
    obtain ⟨rfl, rfl⟩ := ga
    refine e_if_eq (tgt := 26) fL_isReady_16 (by decide) (fun z => ?_) (fun z => ?_)
    · have V := V.1 z
      refine e_aload_n fL_isReady_26 rfl 0 rfl ?_
      refine e_iconst (v := 4) fL_isReady_27 (by decide) ?_
      obtain ⟨v8, gv8, V⟩ := V
      obtain ⟨gc, V⟩ := V
      refine e_callVi (uc' := 0) (us' := 0) (st := []) fL_isReady_28 wL_isReady_28 rfl rfl gc (sp_L_hasRule gv8) (Nat.le_of_ble_eq_true rfl) (by decide) (by decide) (fun r10 h9 ga => ?_) (fun E h9 gx => False.elim gx)
      obtain ⟨rfl, rfl⟩ := ga
      refine e_if_eq (tgt := 38) fL_isReady_31 (by decide) (fun z => ?_) (fun z => ?_)
      · have V := V.1 z
        refine e_iconst (v := 0) fL_isReady_38 (by decide) ?_
        exact e_zret fL_isReady_39 rfl rfl V
      · have V := V.2 z
        refine e_iconst (v := 1) fL_isReady_34 (by decide) ?_
        refine e_goto (tgt := 39) fL_isReady_35 (by decide) ?_
        exact e_zret fL_isReady_39 rfl rfl V
    · have V := V.2 z
      refine e_aload_n fL_isReady_19 rfl 0 rfl ?_
      obtain ⟨v11, gv11, V⟩ := V
      refine e_get fL_isReady_20 kL_28 gv11 ?_
      refine e_if_gt (tgt := 34) fL_isReady_23 (by decide) (fun z => ?_) (fun z => ?_)
      · have V := V.1 z
        refine e_iconst (v := 1) fL_isReady_34 (by decide) ?_
        refine e_goto (tgt := 39) fL_isReady_35 (by decide) ?_
        exact e_zret fL_isReady_39 rfl rfl V
      · have V := V.2 z
        refine e_aload_n fL_isReady_26 rfl 0 rfl ?_
        refine e_iconst (v := 4) fL_isReady_27 (by decide) ?_
        obtain ⟨v13, gv13, V⟩ := V
        obtain ⟨gc, V⟩ := V
        refine e_callVi (uc' := 0) (us' := 0) (st := []) fL_isReady_28 wL_isReady_28 rfl rfl gc (sp_L_hasRule gv13) (Nat.le_of_ble_eq_true rfl) (by decide) (by decide) (fun r15 h14 ga => ?_) (fun E h14 gx => False.elim gx)
        obtain ⟨rfl, rfl⟩ := ga
        refine e_if_eq (tgt := 38) fL_isReady_31 (by decide) (fun z => ?_) (fun z => ?_)
        · have V := V.1 z
          refine e_iconst (v := 0) fL_isReady_38 (by decide) ?_
          exact e_zret fL_isReady_39 rfl rfl V
        · have V := V.2 z
          refine e_iconst (v := 1) fL_isReady_34 (by decide) ?_
          refine e_goto (tgt := 39) fL_isReady_35 (by decide) ?_
          exact e_zret fL_isReady_39 rfl rfl V
set_option maxRecDepth 20000 in
theorem vL_awaitsBackorder {l : Launch} {G : ev_G} {h : ev_AH} {P : ev_Post} {p0 : Nat} (V : ∃ v1 : Int32, ev_f h p0 2 9 = some (.int v1) ∧ ((v1 = 0 → P (.inl (some (.int 0))) h) ∧ (¬ v1 = 0 → ∃ v3 : Int32, ev_f h p0 2 4 = some (.int v3) ∧ (∃ fs : List Value, h p0 = some (2, fs)) ∧ (((ev_b (¬ (v3 &&& 4) = 0)) = 0 → P (.inl (some (.int 0))) h) ∧ (¬ (ev_b (¬ (v3 &&& 4) = 0)) = 0 → ∃ v7 : Int32, ev_f h p0 2 3 = some (.int v7) ∧ ∃ v8 : Int32, ev_f h p0 2 7 = some (.int v8) ∧ (∃ fs : List Value, h p0 = some (2, fs)) ∧ (((v7 - v8) ≤ 0 → P (.inl (some (.int 0))) h) ∧ (¬ (v7 - v8) ≤ 0 → ∃ v11 : Int32, ev_f h p0 2 10 = some (.int v11) ∧ ((¬ v11 = 0 → P (.inl (some (.int 0))) h) ∧ (v11 = 0 → P (.inl (some (.int 1))) h))))))))) : Mt l G M_L_awaitsBackorder [.ref p0] h P := by
  refine Mt.of rfl rfl (Nat.le_of_ble_eq_true rfl) ?_
  show Ev l G M_L_awaitsBackorder 0 [(0, .ref p0)] [] h 0 0 (ev_fin G M_L_awaitsBackorder P)
  refine e_aload_n fL_awaitsBackorder_0 rfl 0 rfl ?_
  obtain ⟨v1, gv1, V⟩ := V
  refine e_get fL_awaitsBackorder_1 kL_40 gv1 ?_
  refine e_if_eq (tgt := 33) fL_awaitsBackorder_4 (by decide) (fun z => ?_) (fun z => ?_)
  · have V := V.1 z
    refine e_iconst (v := 0) fL_awaitsBackorder_33 (by decide) ?_
    exact e_zret fL_awaitsBackorder_34 rfl rfl V
  · have V := V.2 z
    refine e_aload_n fL_awaitsBackorder_7 rfl 0 rfl ?_
    refine e_iconst (v := 4) fL_awaitsBackorder_8 (by decide) ?_
    obtain ⟨v3, gv3, V⟩ := V
    obtain ⟨gc, V⟩ := V
    refine e_callVi (uc' := 0) (us' := 0) (st := []) fL_awaitsBackorder_9 wL_awaitsBackorder_9 rfl rfl gc (sp_L_hasRule gv3) (Nat.le_of_ble_eq_true rfl) (by decide) (by decide) (fun r5 h4 ga => ?_) (fun E h4 gx => False.elim gx)
    obtain ⟨rfl, rfl⟩ := ga
    refine e_if_eq (tgt := 33) fL_awaitsBackorder_12 (by decide) (fun z => ?_) (fun z => ?_)
    · have V := V.1 z
      refine e_iconst (v := 0) fL_awaitsBackorder_33 (by decide) ?_
      exact e_zret fL_awaitsBackorder_34 rfl rfl V
    · have V := V.2 z
      refine e_aload_n fL_awaitsBackorder_15 rfl 0 rfl ?_
      obtain ⟨v7, gv7, V⟩ := V
      obtain ⟨v8, gv8, V⟩ := V
      obtain ⟨gc, V⟩ := V
      refine e_callVi (uc' := 0) (us' := 0) (st := []) fL_awaitsBackorder_16 wL_awaitsBackorder_16 rfl rfl gc (sp_L_missing gv7 gv8) (Nat.le_of_ble_eq_true rfl) (by decide) (by decide) (fun r10 h9 ga => ?_) (fun E h9 gx => False.elim gx)
      obtain ⟨rfl, rfl⟩ := ga
      refine e_if_le (tgt := 33) fL_awaitsBackorder_19 (by decide) (fun z => ?_) (fun z => ?_)
      · have V := V.1 z
        refine e_iconst (v := 0) fL_awaitsBackorder_33 (by decide) ?_
        exact e_zret fL_awaitsBackorder_34 rfl rfl V
      · have V := V.2 z
        refine e_aload_n fL_awaitsBackorder_22 rfl 0 rfl ?_
        obtain ⟨v11, gv11, V⟩ := V
        refine e_get fL_awaitsBackorder_23 kL_44 gv11 ?_
        refine e_if_ne (tgt := 33) fL_awaitsBackorder_26 (by decide) (fun z => ?_) (fun z => ?_)
        · have V := V.1 z
          refine e_iconst (v := 0) fL_awaitsBackorder_33 (by decide) ?_
          exact e_zret fL_awaitsBackorder_34 rfl rfl V
        · have V := V.2 z
          refine e_iconst (v := 1) fL_awaitsBackorder_29 (by decide) ?_
          refine e_goto (tgt := 34) fL_awaitsBackorder_30 (by decide) ?_
          exact e_zret fL_awaitsBackorder_34 rfl rfl V
end
section
/-! LAWS of the helpers of helpers -/
section S2
variable {l : Launch} {G : ev_G} {h : ev_AH}
theorem sp_O_isWaiting {a : Nat} {ph b : Int32} (g6 : ev_f h a 1 6 = some (.int ph)) (g7 : ev_f h a 1 7 = some (.int b)) : Mt l G M_O_isWaiting [.ref a] h (ev_pi (fun r h' => h = h' ∧ r = ev_b ((ph = 0 ∨ ph = 1) ∧ b = 0)) (fun _ _ => False)) := by
  obtain ⟨fs, hfs, -⟩ := ev_f_of g6
  refine vO_isWaiting ?_
  simp only [g6, g7, hfs, Option.some.injEq, Value.int.injEq, Prod.mk.injEq, exists_eq_left', true_and, exists_eq', ev_b]
  grind
theorem sp_L_isReady {a : Nat} {w ru he : Int32} (g3 : ev_f h a 2 3 = some (.int w)) (g4 : ev_f h a 2 4 = some (.int ru)) (g5 : ev_f h a 2 5 = some (.int he)) : Mt l G M_L_isReady [.ref a] h (ev_pi (fun r h' => h = h' ∧ r = ev_b (he = w ∨ (¬ (ru &&& 1) = 0 ∧ 0 < he) ∨ ¬ (ru &&& 4) = 0)) (fun _ _ => False)) := by
  obtain ⟨fs, hfs, -⟩ := ev_f_of g3
  refine vL_isReady ?_
  simp only [g3, g4, g5, hfs, Option.some.injEq, Value.int.injEq, Prod.mk.injEq, exists_eq_left', true_and, exists_eq', ev_b]
  grind
theorem sp_L_awaitsBackorder {a : Nat} {w ru sh li ba : Int32} (g3 : ev_f h a 2 3 = some (.int w)) (g4 : ev_f h a 2 4 = some (.int ru)) (g7 : ev_f h a 2 7 = some (.int sh)) (g9 : ev_f h a 2 9 = some (.int li)) (g10 : ev_f h a 2 10 = some (.int ba)) : Mt l G M_L_awaitsBackorder [.ref a] h (ev_pi (fun r h' => h = h' ∧ r = ev_b (¬ li = 0 ∧ ¬ (ru &&& 4) = 0 ∧ 0 < w - sh ∧ ba = 0)) (fun _ _ => False)) := by
  obtain ⟨fs, hfs, -⟩ := ev_f_of g3
  refine vL_awaitsBackorder ?_
  simp only [g3, g4, g7, g9, g10, hfs, Option.some.injEq, Value.int.injEq, Prod.mk.injEq, exists_eq_left', true_and, exists_eq', ev_b, ← Int32.not_lt (a := 0) (b := w - sh)]
  grind
end S2
end
section
/-! WALKS: more helpers -/
set_option maxRecDepth 20000 in
theorem vA_size {l : Launch} {G : ev_G} {h : ev_AH} {P : ev_Post} {p0 : Nat} (V : ∃ v1 : Int32, ev_f h p0 3 1 = some (.int v1) ∧ P (.inl (some (.int v1))) h) : Mt l G M_A_size [.ref p0] h P := by
  refine Mt.ofJ rfl rfl (Nat.le_of_ble_eq_true rfl) ?_
  show Ev l G M_A_size 0 [(0, .ref p0)] [] h 0 0 (ev_fin G M_A_size P)
  refine e_aload_n fA_size_0 rfl 0 rfl ?_
  obtain ⟨v1, gv1, V⟩ := V
  refine e_get fA_size_1 kA_48 gv1 ?_
  exact e_iret fA_size_4 rfl V
set_option maxRecDepth 20000 in
theorem vJp_checkIndex {l : Launch} {G : ev_G} {h : ev_AH} {P : ev_Post} {p0 : Int32} {p1 : Int32} (V : ((p0 < 0 → False) ∧ (¬ p0 < 0 → ((p0 < p1 → P (.inl (some (.int p0))) h) ∧ (¬ p0 < p1 → False))))) : Mt l G M_Jp_checkIndex [.int p0, .int p1, .null] h P := by
  refine Mt.ofJ rfl rfl (Nat.le_of_ble_eq_true rfl) ?_
  show Ev l G M_Jp_checkIndex 0 [(0, .int p0), (1, .int p1), (2, .null)] [] h 0 0 (ev_fin G M_Jp_checkIndex P)
  refine e_iload_n fJp_checkIndex_0 rfl 0 rfl ?_
  refine e_if_lt (tgt := 9) fJp_checkIndex_1 (by decide) (fun z => ?_) (fun z => ?_)
  · have V := V.1 z
    exact V.elim
  · have V := V.2 z
    refine e_iload_n fJp_checkIndex_4 rfl 0 rfl ?_
    refine e_iload_n fJp_checkIndex_5 rfl 1 rfl ?_
    refine e_icmp_lt (tgt := 16) fJp_checkIndex_6 (by decide) (fun z => ?_) (fun z => ?_)
    · have V := V.1 z
      refine e_iload_n fJp_checkIndex_16 rfl 0 rfl ?_
      exact e_iret fJp_checkIndex_17 rfl V
    · have V := V.2 z
      exact V.elim
set_option maxRecDepth 20000 in
theorem vJo_checkIndex {l : Launch} {G : ev_G} {h : ev_AH} {P : ev_Post} {p0 : Int32} {p1 : Int32} (V : ∃ (A : Int32 → ev_AH → Prop) (X : String → ev_AH → Prop), Mt l G M_Jp_checkIndex [.int p0, .int p1, .null] h (ev_pi A X) ∧ (∀ (r2 : Int32) (h1 : ev_AH), A r2 h1 → P (.inl (some (.int r2))) h1) ∧ (∀ (E : String) (h9 : ev_AH), X E h9 → P (.inr E) h9)) : Mt l G M_Jo_checkIndex [.int p0, .int p1] h P := by
  refine Mt.ofJ rfl rfl (Nat.le_of_ble_eq_true rfl) ?_
  show Ev l G M_Jo_checkIndex 0 [(0, .int p0), (1, .int p1)] [] h 0 0 (ev_fin G M_Jo_checkIndex P)
  refine e_iload_n fJo_checkIndex_0 rfl 0 rfl ?_
  refine e_iload_n fJo_checkIndex_1 rfl 1 rfl ?_
  refine e_null fJo_checkIndex_2 ?_
  obtain ⟨A, X, hm, V, VX⟩ := V
  refine e_callSi (uc' := 0) (us' := 0) (st := []) fJo_checkIndex_3 wJo_checkIndex_3 rfl rfl hm (Nat.le_of_ble_eq_true rfl) (by decide) (by decide) (fun r2 h1 ga => ?_) (fun E h1 gx => ?_)
  · have V := V _ _ ga
    exact e_iret fJo_checkIndex_6 rfl V
  · exact e_out (by decide) (VX E _ gx)
set_option maxRecDepth 20000 in
theorem vA_elementData {l : Launch} {G : ev_G} {h : ev_AH} {P : ev_Post} {p0 : Nat} {p1 : Int32} (V : ∃ v1 : Nat, ev_f h p0 3 0 = some (.ref v1) ∧ ∃ v2 : Nat, ¬ p1 < 0 ∧ ev_f h v1 103 (Int32.toNatClampNeg p1) = some (.ref v2) ∧ P (.inl (some (.ref v2))) h) : Mt l G M_A_elementData [.ref p0, .int p1] h P := by
  refine Mt.ofJ rfl rfl (Nat.le_of_ble_eq_true rfl) ?_
  show Ev l G M_A_elementData 0 [(0, .ref p0), (1, .int p1)] [] h 0 0 (ev_fin G M_A_elementData P)
  refine e_aload_n fA_elementData_0 rfl 0 rfl ?_
  obtain ⟨v1, gv1, V⟩ := V
  refine e_get fA_elementData_1 kA_9 gv1 ?_
  refine e_iload_n fA_elementData_4 rfl 1 rfl ?_
  obtain ⟨v2, g0, gv2, V⟩ := V
  refine e_aald fA_elementData_5 g0 gv2 ?_
  exact e_aret fA_elementData_6 rfl (Or.inl ⟨_, rfl⟩) V
set_option maxRecDepth 20000 in
theorem vO_comesBefore {l : Launch} {G : ev_G} {h : ev_AH} {P : ev_Post} {p0 : Nat} {p1 : Nat} (V : ∃ v1 : Int32, ev_f h p0 1 3 = some (.int v1) ∧ ∃ v2 : Int32, ev_f h p1 1 3 = some (.int v2) ∧ ((v1 = v2 → ∃ v3 : Int32, ev_f h p0 1 5 = some (.int v3) ∧ ∃ v4 : Int32, ev_f h p1 1 5 = some (.int v4) ∧ ((v3 = v4 → ∃ v5 : Int32, ev_f h p0 1 0 = some (.int v5) ∧ ∃ v6 : Int32, ev_f h p1 1 0 = some (.int v6) ∧ ((v6 ≤ v5 → P (.inl (some (.int 0))) h) ∧ (¬ v6 ≤ v5 → P (.inl (some (.int 1))) h))) ∧ (¬ v3 = v4 → ∃ v7 : Int32, ev_f h p0 1 5 = some (.int v7) ∧ ∃ v8 : Int32, ev_f h p1 1 5 = some (.int v8) ∧ ((v8 ≤ v7 → P (.inl (some (.int 0))) h) ∧ (¬ v8 ≤ v7 → P (.inl (some (.int 1))) h))))) ∧ (¬ v1 = v2 → ∃ v9 : Int32, ev_f h p0 1 3 = some (.int v9) ∧ ∃ v10 : Int32, ev_f h p1 1 3 = some (.int v10) ∧ ((v10 ≤ v9 → P (.inl (some (.int 0))) h) ∧ (¬ v10 ≤ v9 → P (.inl (some (.int 1))) h))))) : Mt l G M_O_comesBefore [.ref p0, .ref p1] h P := by
  refine Mt.of rfl rfl (Nat.le_of_ble_eq_true rfl) ?_
  show Ev l G M_O_comesBefore 0 [(0, .ref p0), (1, .ref p1)] [] h 0 0 (ev_fin G M_O_comesBefore P)
  refine e_aload_n fO_comesBefore_0 rfl 0 rfl ?_
  obtain ⟨v1, gv1, V⟩ := V
  refine e_get fO_comesBefore_1 kO_21 gv1 ?_
  refine e_aload_n fO_comesBefore_4 rfl 1 rfl ?_
  obtain ⟨v2, gv2, V⟩ := V
  refine e_get fO_comesBefore_5 kO_21 gv2 ?_
  refine e_icmp_eq (tgt := 28) fO_comesBefore_8 (by decide) (fun z => ?_) (fun z => ?_)
  · have V := V.1 z
    refine e_aload_n fO_comesBefore_28 rfl 0 rfl ?_
    obtain ⟨v3, gv3, V⟩ := V
    refine e_get fO_comesBefore_29 kO_24 gv3 ?_
    refine e_aload_n fO_comesBefore_32 rfl 1 rfl ?_
    obtain ⟨v4, gv4, V⟩ := V
    refine e_get fO_comesBefore_33 kO_24 gv4 ?_
    refine e_icmp_eq (tgt := 56) fO_comesBefore_36 (by decide) (fun z => ?_) (fun z => ?_)
    · have V := V.1 z
      refine e_aload_n fO_comesBefore_56 rfl 0 rfl ?_
      obtain ⟨v5, gv5, V⟩ := V
      refine e_get fO_comesBefore_57 kO_9 gv5 ?_
      refine e_aload_n fO_comesBefore_60 rfl 1 rfl ?_
      obtain ⟨v6, gv6, V⟩ := V
      refine e_get fO_comesBefore_61 kO_9 gv6 ?_
      refine e_icmp_ge (tgt := 71) fO_comesBefore_64 (by decide) (fun z => ?_) (fun z => ?_)
      · have V := V.1 z
        refine e_iconst (v := 0) fO_comesBefore_71 (by decide) ?_
        exact e_zret fO_comesBefore_72 rfl rfl V
      · have V := V.2 z
        refine e_iconst (v := 1) fO_comesBefore_67 (by decide) ?_
        refine e_goto (tgt := 72) fO_comesBefore_68 (by decide) ?_
        exact e_zret fO_comesBefore_72 rfl rfl V
    · have V := V.2 z
      refine e_aload_n fO_comesBefore_39 rfl 0 rfl ?_
      obtain ⟨v7, gv7, V⟩ := V
      refine e_get fO_comesBefore_40 kO_24 gv7 ?_
      refine e_aload_n fO_comesBefore_43 rfl 1 rfl ?_
      obtain ⟨v8, gv8, V⟩ := V
      refine e_get fO_comesBefore_44 kO_24 gv8 ?_
      refine e_icmp_ge (tgt := 54) fO_comesBefore_47 (by decide) (fun z => ?_) (fun z => ?_)
      · have V := V.1 z
        refine e_iconst (v := 0) fO_comesBefore_54 (by decide) ?_
        exact e_zret fO_comesBefore_55 rfl rfl V
      · have V := V.2 z
        refine e_iconst (v := 1) fO_comesBefore_50 (by decide) ?_
        refine e_goto (tgt := 55) fO_comesBefore_51 (by decide) ?_
        exact e_zret fO_comesBefore_55 rfl rfl V
  · have V := V.2 z
    refine e_aload_n fO_comesBefore_11 rfl 0 rfl ?_
    obtain ⟨v9, gv9, V⟩ := V
    refine e_get fO_comesBefore_12 kO_21 gv9 ?_
    refine e_aload_n fO_comesBefore_15 rfl 1 rfl ?_
    obtain ⟨v10, gv10, V⟩ := V
    refine e_get fO_comesBefore_16 kO_21 gv10 ?_
    refine e_icmp_ge (tgt := 26) fO_comesBefore_19 (by decide) (fun z => ?_) (fun z => ?_)
    · have V := V.1 z
      refine e_iconst (v := 0) fO_comesBefore_26 (by decide) ?_
      exact e_zret fO_comesBefore_27 rfl rfl V
    · have V := V.2 z
      refine e_iconst (v := 1) fO_comesBefore_22 (by decide) ?_
      refine e_goto (tgt := 27) fO_comesBefore_23 (by decide) ?_
      exact e_zret fO_comesBefore_27 rfl rfl V
set_option maxRecDepth 20000 in
theorem vR_thrown {l : Launch} {G : ev_G} {h : ev_AH} {P : ev_Post} {p0 : Nat} (V : ∃ v1 : Int32, ev_f h p0 4 0 = some (.int v1) ∧ P (.inl (some (.int v1))) h) : Mt l G M_R_thrown [.ref p0] h P := by
  refine Mt.of rfl rfl (Nat.le_of_ble_eq_true rfl) ?_
  show Ev l G M_R_thrown 0 [(0, .ref p0)] [] h 0 0 (ev_fin G M_R_thrown P)
  refine e_aload_n fR_thrown_0 rfl 0 rfl ?_
  obtain ⟨v1, gv1, V⟩ := V
  refine e_get fR_thrown_1 kR_71 gv1 ?_
  exact e_iret fR_thrown_4 rfl V
set_option maxRecDepth 20000 in
theorem vR_isOrder {l : Launch} {G : ev_G} {h : ev_AH} {P : ev_Post} {p0 : Nat} {p1 : Int32} (V : ∃ v1 : Int32, ev_f h p0 4 1 = some (.int v1) ∧ narrow .boolean (.int (ev_b (0 ≤ p1 ∧ p1 ≤ (v1 - 1)))) = .int (ev_b (0 ≤ p1 ∧ p1 ≤ (v1 - 1))) ∧ P (.inl (some (.int (ev_b (0 ≤ p1 ∧ p1 ≤ (v1 - 1)))))) h) : Mt l G M_R_isOrder [.ref p0, .int p1] h P := by
  refine Mt.of rfl rfl (Nat.le_of_ble_eq_true rfl) ?_
  show Ev l G M_R_isOrder 0 [(0, .ref p0), (1, .int p1)] [] h 0 0 (ev_fin G M_R_isOrder P)
  refine e_iload_n fR_isOrder_0 rfl 1 rfl ?_
  refine e_iconst (v := 0) fR_isOrder_1 (by decide) ?_
  refine e_aload_n fR_isOrder_2 rfl 0 rfl ?_
  obtain ⟨v1, gv1, V⟩ := V
  refine e_get fR_isOrder_3 kR_75 gv1 ?_
  refine e_iconst (v := 1) fR_isOrder_6 (by decide) ?_
  refine e_isub fR_isOrder_7 ?_
  refine e_callSi (uc' := 0) (us' := 0) (st := []) fR_isOrder_8 wR_isOrder_8 rfl rfl sp_R_in (Nat.le_of_ble_eq_true rfl) (by decide) (by decide) (fun r4 h3 ga => ?_) (fun E h3 gx => False.elim gx)
  obtain ⟨rfl, rfl⟩ := ga
  exact e_zret fR_isOrder_11 rfl V.1 V.2
set_option maxRecDepth 20000 in
theorem vR_isLine {l : Launch} {G : ev_G} {h : ev_AH} {P : ev_Post} {p0 : Nat} {p1 : Int32} (V : ∃ v1 : Int32, ev_f h p0 4 12 = some (.int v1) ∧ narrow .boolean (.int (ev_b (0 ≤ p1 ∧ p1 ≤ (v1 - 1)))) = .int (ev_b (0 ≤ p1 ∧ p1 ≤ (v1 - 1))) ∧ P (.inl (some (.int (ev_b (0 ≤ p1 ∧ p1 ≤ (v1 - 1)))))) h) : Mt l G M_R_isLine [.ref p0, .int p1] h P := by
  refine Mt.of rfl rfl (Nat.le_of_ble_eq_true rfl) ?_
  show Ev l G M_R_isLine 0 [(0, .ref p0), (1, .int p1)] [] h 0 0 (ev_fin G M_R_isLine P)
  refine e_iload_n fR_isLine_0 rfl 1 rfl ?_
  refine e_iconst (v := 0) fR_isLine_1 (by decide) ?_
  refine e_aload_n fR_isLine_2 rfl 0 rfl ?_
  obtain ⟨v1, gv1, V⟩ := V
  refine e_get fR_isLine_3 kR_82 gv1 ?_
  refine e_iconst (v := 1) fR_isLine_6 (by decide) ?_
  refine e_isub fR_isLine_7 ?_
  refine e_callSi (uc' := 0) (us' := 0) (st := []) fR_isLine_8 wR_isLine_8 rfl rfl sp_R_in (Nat.le_of_ble_eq_true rfl) (by decide) (by decide) (fun r4 h3 ga => ?_) (fun E h3 gx => False.elim gx)
  obtain ⟨rfl, rfl⟩ := ga
  exact e_zret fR_isLine_11 rfl V.1 V.2
set_option maxRecDepth 20000 in
theorem vR_has {l : Launch} {G : ev_G} {h : ev_AH} {P : ev_Post} {p0 : Nat} {p1 : Int32} {p2 : Int32} (V : ∃ v1 : Nat, ev_f h p0 4 16 = some (.ref v1) ∧ ∃ v2 : Int32, ¬ p1 < 0 ∧ ev_f h v1 100 (Int32.toNatClampNeg p1) = some (.int v2) ∧ (((v2 &&& p2) = 0 → P (.inl (some (.int 0))) h) ∧ (¬ (v2 &&& p2) = 0 → P (.inl (some (.int 1))) h))) : Mt l G M_R_has [.ref p0, .int p1, .int p2] h P := by
  refine Mt.of rfl rfl (Nat.le_of_ble_eq_true rfl) ?_
  show Ev l G M_R_has 0 [(0, .ref p0), (1, .int p1), (2, .int p2)] [] h 0 0 (ev_fin G M_R_has P)
  refine e_aload_n fR_has_0 rfl 0 rfl ?_
  obtain ⟨v1, gv1, V⟩ := V
  refine e_get fR_has_1 kR_49 gv1 ?_
  refine e_iload_n fR_has_4 rfl 1 rfl ?_
  obtain ⟨v2, g0, gv2, V⟩ := V
  refine e_iald fR_has_5 g0 gv2 ?_
  refine e_iload_n fR_has_6 rfl 2 rfl ?_
  refine e_iand fR_has_7 ?_
  refine e_if_eq (tgt := 15) fR_has_8 (by decide) (fun z => ?_) (fun z => ?_)
  · have V := V.1 z
    refine e_iconst (v := 0) fR_has_15 (by decide) ?_
    exact e_zret fR_has_16 rfl rfl V
  · have V := V.2 z
    refine e_iconst (v := 1) fR_has_11 (by decide) ?_
    refine e_goto (tgt := 16) fR_has_12 (by decide) ?_
    exact e_zret fR_has_16 rfl rfl V
set_option maxRecDepth 20000 in
theorem vR_lineAt {l : Launch} {G : ev_G} {h : ev_AH} {P : ev_Post} {p0 : Nat} {p1 : Int32} {p2 : Int32} (V : ∃ v1 : Nat, ev_f h p0 4 11 = some (.ref v1) ∧ ∃ v2 : Int32, ¬ ((8 * p1) + p2) < 0 ∧ ev_f h v1 100 (Int32.toNatClampNeg ((8 * p1) + p2)) = some (.int v2) ∧ P (.inl (some (.int v2))) h) : Mt l G M_R_lineAt [.ref p0, .int p1, .int p2] h P := by
  refine Mt.of rfl rfl (Nat.le_of_ble_eq_true rfl) ?_
  show Ev l G M_R_lineAt 0 [(0, .ref p0), (1, .int p1), (2, .int p2)] [] h 0 0 (ev_fin G M_R_lineAt P)
  refine e_aload_n fR_lineAt_0 rfl 0 rfl ?_
  obtain ⟨v1, gv1, V⟩ := V
  refine e_get fR_lineAt_1 kR_37 gv1 ?_
  refine e_bipush (v := 8) fR_lineAt_4 (by decide) ?_
  refine e_iload_n fR_lineAt_6 rfl 1 rfl ?_
  refine e_imul fR_lineAt_7 ?_
  refine e_iload_n fR_lineAt_8 rfl 2 rfl ?_
  refine e_iadd fR_lineAt_9 ?_
  obtain ⟨v2, g0, gv2, V⟩ := V
  refine e_iald fR_lineAt_10 g0 gv2 ?_
  exact e_iret fR_lineAt_11 rfl V
set_option maxRecDepth 20000 in
theorem vR_isWaiting {l : Launch} {G : ev_G} {h : ev_AH} {P : ev_Post} {p0 : Nat} {p1 : Int32} (V : ∃ v1 : Nat, ev_f h p0 4 6 = some (.ref v1) ∧ ∃ v2 : Int32, ¬ p1 < 0 ∧ ev_f h v1 100 (Int32.toNatClampNeg p1) = some (.int v2) ∧ ((1 < v2 → P (.inl (some (.int 0))) h) ∧ (¬ 1 < v2 → ∃ v3 : Nat, ev_f h p0 4 7 = some (.ref v3) ∧ ∃ v4 : Int32, ¬ p1 < 0 ∧ ev_f h v3 100 (Int32.toNatClampNeg p1) = some (.int v4) ∧ ((¬ v4 = 0 → P (.inl (some (.int 0))) h) ∧ (v4 = 0 → P (.inl (some (.int 1))) h))))) : Mt l G M_R_isWaiting [.ref p0, .int p1] h P := by
  refine Mt.of rfl rfl (Nat.le_of_ble_eq_true rfl) ?_
  show Ev l G M_R_isWaiting 0 [(0, .ref p0), (1, .int p1)] [] h 0 0 (ev_fin G M_R_isWaiting P)
  refine e_aload_n fR_isWaiting_0 rfl 0 rfl ?_
  obtain ⟨v1, gv1, V⟩ := V
  refine e_get fR_isWaiting_1 kR_22 gv1 ?_
  refine e_iload_n fR_isWaiting_4 rfl 1 rfl ?_
  obtain ⟨v2, g0, gv2, V⟩ := V
  refine e_iald fR_isWaiting_5 g0 gv2 ?_
  refine e_iconst (v := 1) fR_isWaiting_6 (by decide) ?_
  refine e_icmp_gt (tgt := 23) fR_isWaiting_7 (by decide) (fun z => ?_) (fun z => ?_)
  · have V := V.1 z
    refine e_iconst (v := 0) fR_isWaiting_23 (by decide) ?_
    exact e_zret fR_isWaiting_24 rfl rfl V
  · have V := V.2 z
    refine e_aload_n fR_isWaiting_10 rfl 0 rfl ?_
    obtain ⟨v3, gv3, V⟩ := V
    refine e_get fR_isWaiting_11 kR_25 gv3 ?_
    refine e_iload_n fR_isWaiting_14 rfl 1 rfl ?_
    obtain ⟨v4, g0, gv4, V⟩ := V
    refine e_iald fR_isWaiting_15 g0 gv4 ?_
    refine e_if_ne (tgt := 23) fR_isWaiting_16 (by decide) (fun z => ?_) (fun z => ?_)
    · have V := V.1 z
      refine e_iconst (v := 0) fR_isWaiting_23 (by decide) ?_
      exact e_zret fR_isWaiting_24 rfl rfl V
    · have V := V.2 z
      refine e_iconst (v := 1) fR_isWaiting_19 (by decide) ?_
      refine e_goto (tgt := 24) fR_isWaiting_20 (by decide) ?_
      exact e_zret fR_isWaiting_24 rfl rfl V
set_option maxRecDepth 20000 in
theorem vR_isBefore {l : Launch} {G : ev_G} {h : ev_AH} {P : ev_Post} {p0 : Nat} {p1 : Int32} {p2 : Int32} (V : ∃ v1 : Nat, ev_f h p0 4 4 = some (.ref v1) ∧ ∃ v2 : Int32, ¬ p1 < 0 ∧ ev_f h v1 100 (Int32.toNatClampNeg p1) = some (.int v2) ∧ ∃ v3 : Nat, ev_f h p0 4 4 = some (.ref v3) ∧ ∃ v4 : Int32, ¬ p2 < 0 ∧ ev_f h v3 100 (Int32.toNatClampNeg p2) = some (.int v4) ∧ ((v2 = v4 → ∃ v5 : Nat, ev_f h p0 4 5 = some (.ref v5) ∧ ∃ v6 : Int32, ¬ p1 < 0 ∧ ev_f h v5 100 (Int32.toNatClampNeg p1) = some (.int v6) ∧ ∃ v7 : Nat, ev_f h p0 4 5 = some (.ref v7) ∧ ∃ v8 : Int32, ¬ p2 < 0 ∧ ev_f h v7 100 (Int32.toNatClampNeg p2) = some (.int v8) ∧ ((v6 = v8 → ((p2 ≤ p1 → P (.inl (some (.int 0))) h) ∧ (¬ p2 ≤ p1 → P (.inl (some (.int 1))) h))) ∧ (¬ v6 = v8 → ∃ v9 : Nat, ev_f h p0 4 5 = some (.ref v9) ∧ ∃ v10 : Int32, ¬ p1 < 0 ∧ ev_f h v9 100 (Int32.toNatClampNeg p1) = some (.int v10) ∧ ∃ v11 : Nat, ev_f h p0 4 5 = some (.ref v11) ∧ ∃ v12 : Int32, ¬ p2 < 0 ∧ ev_f h v11 100 (Int32.toNatClampNeg p2) = some (.int v12) ∧ ((v12 ≤ v10 → P (.inl (some (.int 0))) h) ∧ (¬ v12 ≤ v10 → P (.inl (some (.int 1))) h))))) ∧ (¬ v2 = v4 → ∃ v13 : Nat, ev_f h p0 4 4 = some (.ref v13) ∧ ∃ v14 : Int32, ¬ p1 < 0 ∧ ev_f h v13 100 (Int32.toNatClampNeg p1) = some (.int v14) ∧ ∃ v15 : Nat, ev_f h p0 4 4 = some (.ref v15) ∧ ∃ v16 : Int32, ¬ p2 < 0 ∧ ev_f h v15 100 (Int32.toNatClampNeg p2) = some (.int v16) ∧ ((v16 ≤ v14 → P (.inl (some (.int 0))) h) ∧ (¬ v16 ≤ v14 → P (.inl (some (.int 1))) h))))) : Mt l G M_R_isBefore [.ref p0, .int p1, .int p2] h P := by
  refine Mt.of rfl rfl (Nat.le_of_ble_eq_true rfl) ?_
  show Ev l G M_R_isBefore 0 [(0, .ref p0), (1, .int p1), (2, .int p2)] [] h 0 0 (ev_fin G M_R_isBefore P)
  refine e_aload_n fR_isBefore_0 rfl 0 rfl ?_
  obtain ⟨v1, gv1, V⟩ := V
  refine e_get fR_isBefore_1 kR_16 gv1 ?_
  refine e_iload_n fR_isBefore_4 rfl 1 rfl ?_
  obtain ⟨v2, g0, gv2, V⟩ := V
  refine e_iald fR_isBefore_5 g0 gv2 ?_
  refine e_aload_n fR_isBefore_6 rfl 0 rfl ?_
  obtain ⟨v3, gv3, V⟩ := V
  refine e_get fR_isBefore_7 kR_16 gv3 ?_
  refine e_iload_n fR_isBefore_10 rfl 2 rfl ?_
  obtain ⟨v4, g0, gv4, V⟩ := V
  refine e_iald fR_isBefore_11 g0 gv4 ?_
  refine e_icmp_eq (tgt := 36) fR_isBefore_12 (by decide) (fun z => ?_) (fun z => ?_)
  · have V := V.1 z
    refine e_aload_n fR_isBefore_36 rfl 0 rfl ?_
    obtain ⟨v5, gv5, V⟩ := V
    refine e_get fR_isBefore_37 kR_19 gv5 ?_
    refine e_iload_n fR_isBefore_40 rfl 1 rfl ?_
    obtain ⟨v6, g0, gv6, V⟩ := V
    refine e_iald fR_isBefore_41 g0 gv6 ?_
    refine e_aload_n fR_isBefore_42 rfl 0 rfl ?_
    obtain ⟨v7, gv7, V⟩ := V
    refine e_get fR_isBefore_43 kR_19 gv7 ?_
    refine e_iload_n fR_isBefore_46 rfl 2 rfl ?_
    obtain ⟨v8, g0, gv8, V⟩ := V
    refine e_iald fR_isBefore_47 g0 gv8 ?_
    refine e_icmp_eq (tgt := 74) fR_isBefore_48 (by decide) (fun z => ?_) (fun z => ?_)
    · have V := V.1 z
      refine e_iload_n fR_isBefore_74 rfl 1 rfl ?_
      refine e_iload_n fR_isBefore_75 rfl 2 rfl ?_
      refine e_icmp_ge (tgt := 83) fR_isBefore_76 (by decide) (fun z => ?_) (fun z => ?_)
      · have V := V.1 z
        refine e_iconst (v := 0) fR_isBefore_83 (by decide) ?_
        exact e_zret fR_isBefore_84 rfl rfl V
      · have V := V.2 z
        refine e_iconst (v := 1) fR_isBefore_79 (by decide) ?_
        refine e_goto (tgt := 84) fR_isBefore_80 (by decide) ?_
        exact e_zret fR_isBefore_84 rfl rfl V
    · have V := V.2 z
      refine e_aload_n fR_isBefore_51 rfl 0 rfl ?_
      obtain ⟨v9, gv9, V⟩ := V
      refine e_get fR_isBefore_52 kR_19 gv9 ?_
      refine e_iload_n fR_isBefore_55 rfl 1 rfl ?_
      obtain ⟨v10, g0, gv10, V⟩ := V
      refine e_iald fR_isBefore_56 g0 gv10 ?_
      refine e_aload_n fR_isBefore_57 rfl 0 rfl ?_
      obtain ⟨v11, gv11, V⟩ := V
      refine e_get fR_isBefore_58 kR_19 gv11 ?_
      refine e_iload_n fR_isBefore_61 rfl 2 rfl ?_
      obtain ⟨v12, g0, gv12, V⟩ := V
      refine e_iald fR_isBefore_62 g0 gv12 ?_
      refine e_icmp_ge (tgt := 70) fR_isBefore_63 (by decide) (fun z => ?_) (fun z => ?_)
      · have V := V.1 z
        refine e_iconst (v := 0) fR_isBefore_70 (by decide) ?_
        refine e_goto (tgt := 84) fR_isBefore_71 (by decide) ?_
        exact e_zret fR_isBefore_84 rfl rfl V
      · have V := V.2 z
        refine e_iconst (v := 1) fR_isBefore_66 (by decide) ?_
        refine e_goto (tgt := 84) fR_isBefore_67 (by decide) ?_
        exact e_zret fR_isBefore_84 rfl rfl V
  · have V := V.2 z
    refine e_aload_n fR_isBefore_15 rfl 0 rfl ?_
    obtain ⟨v13, gv13, V⟩ := V
    refine e_get fR_isBefore_16 kR_16 gv13 ?_
    refine e_iload_n fR_isBefore_19 rfl 1 rfl ?_
    obtain ⟨v14, g0, gv14, V⟩ := V
    refine e_iald fR_isBefore_20 g0 gv14 ?_
    refine e_aload_n fR_isBefore_21 rfl 0 rfl ?_
    obtain ⟨v15, gv15, V⟩ := V
    refine e_get fR_isBefore_22 kR_16 gv15 ?_
    refine e_iload_n fR_isBefore_25 rfl 2 rfl ?_
    obtain ⟨v16, g0, gv16, V⟩ := V
    refine e_iald fR_isBefore_26 g0 gv16 ?_
    refine e_icmp_ge (tgt := 34) fR_isBefore_27 (by decide) (fun z => ?_) (fun z => ?_)
    · have V := V.1 z
      refine e_iconst (v := 0) fR_isBefore_34 (by decide) ?_
      exact e_zret fR_isBefore_35 rfl rfl V
    · have V := V.2 z
      refine e_iconst (v := 1) fR_isBefore_30 (by decide) ?_
      refine e_goto (tgt := 35) fR_isBefore_31 (by decide) ?_
      exact e_zret fR_isBefore_35 rfl rfl V
set_option maxRecDepth 20000 in
theorem vR_shortOf {l : Launch} {G : ev_G} {h : ev_AH} {P : ev_Post} {p0 : Nat} {p1 : Int32} (V : ∃ v1 : Nat, ev_f h p0 4 21 = some (.ref v1) ∧ ∃ v2 : Int32, ¬ p1 < 0 ∧ ev_f h v1 101 (Int32.toNatClampNeg p1) = some (.int v2) ∧ ((v2 = 0 → P (.inl (some (.int 0))) h) ∧ (¬ v2 = 0 → ∃ v3 : Nat, ev_f h p0 4 17 = some (.ref v3) ∧ ∃ v4 : Int32, ¬ p1 < 0 ∧ ev_f h v3 100 (Int32.toNatClampNeg p1) = some (.int v4) ∧ ∃ v5 : Nat, ev_f h p0 4 20 = some (.ref v5) ∧ ∃ v6 : Int32, ¬ p1 < 0 ∧ ev_f h v5 100 (Int32.toNatClampNeg p1) = some (.int v6) ∧ P (.inl (some (.int (v4 - v6)))) h))) : Mt l G M_R_shortOf [.ref p0, .int p1] h P := by
  refine Mt.of rfl rfl (Nat.le_of_ble_eq_true rfl) ?_
  show Ev l G M_R_shortOf 0 [(0, .ref p0), (1, .int p1)] [] h 0 0 (ev_fin G M_R_shortOf P)
  refine e_aload_n fR_shortOf_0 rfl 0 rfl ?_
  obtain ⟨v1, gv1, V⟩ := V
  refine e_get fR_shortOf_1 kR_64 gv1 ?_
  refine e_iload_n fR_shortOf_4 rfl 1 rfl ?_
  obtain ⟨v2, g0, gv2, V⟩ := V
  refine e_zald fR_shortOf_5 g0 gv2 ?_
  refine e_if_eq (tgt := 25) fR_shortOf_6 (by decide) (fun z => ?_) (fun z => ?_)
  · have V := V.1 z
    refine e_iconst (v := 0) fR_shortOf_25 (by decide) ?_
    exact e_iret fR_shortOf_26 rfl V
  · have V := V.2 z
    refine e_aload_n fR_shortOf_9 rfl 0 rfl ?_
    obtain ⟨v3, gv3, V⟩ := V
    refine e_get fR_shortOf_10 kR_52 gv3 ?_
    refine e_iload_n fR_shortOf_13 rfl 1 rfl ?_
    obtain ⟨v4, g0, gv4, V⟩ := V
    refine e_iald fR_shortOf_14 g0 gv4 ?_
    refine e_aload_n fR_shortOf_15 rfl 0 rfl ?_
    obtain ⟨v5, gv5, V⟩ := V
    refine e_get fR_shortOf_16 kR_61 gv5 ?_
    refine e_iload_n fR_shortOf_19 rfl 1 rfl ?_
    obtain ⟨v6, g0, gv6, V⟩ := V
    refine e_iald fR_shortOf_20 g0 gv6 ?_
    refine e_isub fR_shortOf_21 ?_
    refine e_goto (tgt := 26) fR_shortOf_22 (by decide) ?_
    exact e_iret fR_shortOf_26 rfl V
end
section
/-! LAWS of more helpers -/
section S3
variable {l : Launch} {G : ev_G} {h : ev_AH}
theorem sp_A_size {a : Nat} {n : Int32} (g : ev_f h a 3 1 = some (.int n)) : Mt l G M_A_size [.ref a] h (ev_pi (fun r h' => h = h' ∧ r = n) (fun _ _ => False)) := vA_size ⟨n, g, rfl, rfl⟩
theorem sp_Jp_checkIndex {i n : Int32} (h0 : ¬ i < 0) (h1 : i < n) : Mt l G M_Jp_checkIndex [.int i, .int n, .null] h (ev_pi (fun r h' => h = h' ∧ r = i) (fun _ _ => False)) := vJp_checkIndex ⟨fun z => absurd z h0, fun _ => ⟨fun _ => ⟨rfl, rfl⟩, fun z => absurd h1 z⟩⟩
theorem sp_Jo_checkIndex {i n : Int32} (h0 : ¬ i < 0) (h1 : i < n) : Mt l G M_Jo_checkIndex [.int i, .int n] h (ev_pi (fun r h' => h = h' ∧ r = i) (fun _ _ => False)) := vJo_checkIndex ⟨_, _, sp_Jp_checkIndex h0 h1, fun _ _ q => q, fun _ _ q => q.elim⟩
theorem sp_A_elementData {a r v : Nat} {i : Int32} (g : ev_f h a 3 0 = some (.ref r)) (h0 : ¬ i < 0) (g' : ev_f h r 103 i.toNatClampNeg = some (.ref v)) : Mt l G M_A_elementData [.ref a, .int i] h (ev_pr (fun r h' => h = h' ∧ r = v) (fun _ _ => False)) := vA_elementData ⟨r, g, v, h0, g', rfl, rfl⟩
theorem sp_O_comesBefore {a b : Nat} {r0 r1 d0 d1 i0 i1 : Int32} (g1 : ev_f h a 1 3 = some (.int r0)) (g2 : ev_f h b 1 3 = some (.int r1)) (g3 : ev_f h a 1 5 = some (.int d0)) (g4 : ev_f h b 1 5 = some (.int d1)) (g5 : ev_f h a 1 0 = some (.int i0)) (g6 : ev_f h b 1 0 = some (.int i1)) : Mt l G M_O_comesBefore [.ref a, .ref b] h (ev_pi (fun r h' => h = h' ∧ r = ev_b (ev_lex r0 r1 d0 d1 i0 i1)) (fun _ _ => False)) := by
  refine vO_comesBefore ?_
  simp only [g1, g2, g3, g4, g5, g6, Option.some.injEq, Value.int.injEq, exists_eq_left', true_and, ev_b, ← Int32.not_lt]
  grind
theorem sp_R_thrown {m : Nat} {c : Int32} (g : ev_f h m 4 0 = some (.int c)) : Mt l G M_R_thrown [.ref m] h (ev_pi (fun r h' => h = h' ∧ r = c) (fun _ _ => False)) := vR_thrown ⟨c, g, rfl, rfl⟩
theorem sp_R_isOrder {m : Nat} {n o : Int32} (g : ev_f h m 4 1 = some (.int n)) : Mt l G M_R_isOrder [.ref m, .int o] h (ev_pi (fun r h' => h = h' ∧ r = ev_b (0 ≤ o ∧ o ≤ n - 1)) (fun _ _ => False)) := vR_isOrder ⟨n, g, ev_b_nar _, rfl, rfl⟩
theorem sp_R_isLine {m : Nat} {n o : Int32} (g : ev_f h m 4 12 = some (.int n)) : Mt l G M_R_isLine [.ref m, .int o] h (ev_pi (fun r h' => h = h' ∧ r = ev_b (0 ≤ o ∧ o ≤ n - 1)) (fun _ _ => False)) := vR_isLine ⟨n, g, ev_b_nar _, rfl, rfl⟩
theorem sp_R_has {m : Nat} {i v k : Int32} (g : ev_ar h m 16 i v) : Mt l G M_R_has [.ref m, .int i, .int k] h (ev_pi (fun r h' => h = h' ∧ r = ev_b (¬ (v &&& k) = 0)) (fun _ _ => False)) := by
  obtain ⟨a, g1, g2, g3⟩ := g
  refine vR_has ⟨a, g1, v, g2, g3, fun z => ⟨rfl, ?_⟩, fun z => ⟨rfl, ?_⟩⟩ <;> simp [ev_b, z]
theorem sp_R_lineAt {m : Nat} {o i v : Int32} (g : ev_ar h m 11 (8 * o + i) v) : Mt l G M_R_lineAt [.ref m, .int o, .int i] h (ev_pi (fun r h' => h = h' ∧ r = v) (fun _ _ => False)) := by
  obtain ⟨a, g1, g2, g3⟩ := g
  exact vR_lineAt ⟨a, g1, v, g2, g3, rfl, rfl⟩
theorem sp_R_isWaiting {m : Nat} {o p b : Int32} (g : ev_ar h m 6 o p) (g' : ev_ar h m 7 o b) : Mt l G M_R_isWaiting [.ref m, .int o] h (ev_pi (fun r h' => h = h' ∧ r = ev_b (p ≤ 1 ∧ b = 0)) (fun _ _ => False)) := by
  obtain ⟨a, g1, g2, g3⟩ := g
  obtain ⟨a', g1', g2', g3'⟩ := g'
  simp only [show ¬ ((6 : Nat) = 21 ∨ (6 : Nat) = 22) by decide, show ¬ ((7 : Nat) = 21 ∨ (7 : Nat) = 22) by decide, if_false] at g3 g3'
  refine vR_isWaiting ?_
  simp only [g1, g2, g3, g1', g3', Option.some.injEq, Value.int.injEq, Value.ref.injEq, exists_eq_left', true_and, not_false_eq_true, ev_b, ← Int32.not_lt]
  grind
theorem sp_R_isBefore {m : Nat} {o x r0 r1 d0 d1 : Int32} (g : ev_ar h m 4 o r0) (g' : ev_ar h m 4 x r1) (g'' : ev_ar h m 5 o d0) (g''' : ev_ar h m 5 x d1) : Mt l G M_R_isBefore [.ref m, .int o, .int x] h (ev_pi (fun r h' => h = h' ∧ r = ev_b (ev_lex r0 r1 d0 d1 o x)) (fun _ _ => False)) := by
  obtain ⟨a1, p1, q1, s1⟩ := g
  obtain ⟨a2, p2, q2, s2⟩ := g'
  obtain ⟨a3, p3, q3, s3⟩ := g''
  obtain ⟨a4, p4, q4, s4⟩ := g'''
  cases Option.some.inj (p1.symm.trans p2)
  cases Option.some.inj (p3.symm.trans p4)
  simp only [show ¬ ((4 : Nat) = 21 ∨ (4 : Nat) = 22) by decide, show ¬ ((5 : Nat) = 21 ∨ (5 : Nat) = 22) by decide, if_false] at s1 s2 s3 s4
  refine vR_isBefore ?_
  simp only [p1, p3, q1, q2, s1, s2, s3, s4, Option.some.injEq, Value.int.injEq, Value.ref.injEq, exists_eq_left', true_and, not_false_eq_true, ev_b, ← Int32.not_lt]
  grind
theorem sp_R_shortOf {m : Nat} {i li w s : Int32} (g : ev_ar h m 21 i li) (g' : ev_ar h m 17 i w) (g'' : ev_ar h m 20 i s) : Mt l G M_R_shortOf [.ref m, .int i] h (ev_pi (fun r h' => h = h' ∧ r = if ¬ li = 0 then w - s else 0) (fun _ _ => False)) := by
  obtain ⟨a1, p1, q1, s1⟩ := g
  obtain ⟨a2, p2, q2, s2⟩ := g'
  obtain ⟨a3, p3, q3, s3⟩ := g''
  simp only [show ((21 : Nat) = 21 ∨ (21 : Nat) = 22) by decide, show ¬ ((17 : Nat) = 21 ∨ (17 : Nat) = 22) by decide, show ¬ ((20 : Nat) = 21 ∨ (20 : Nat) = 22) by decide, if_false, if_true] at s1 s2 s3
  refine vR_shortOf ?_
  simp only [p1, p2, p3, q1, s1, s2, s3, Option.some.injEq, Value.int.injEq, Value.ref.injEq, exists_eq_left', true_and, not_false_eq_true]
  grind
end S3
end
section
/-! WALKS: more helpers -/
set_option maxRecDepth 20000 in
theorem vA_get {l : Launch} {G : ev_G} {h : ev_AH} {P : ev_Post} {p0 : Nat} {p1 : Int32} (V : ∃ v1 : Int32, ev_f h p0 3 1 = some (.int v1) ∧ ∃ (A : Int32 → ev_AH → Prop) (X : String → ev_AH → Prop), Mt l G M_Jo_checkIndex [.int p1, .int v1] h (ev_pi A X) ∧ (∀ (r3 : Int32) (h2 : ev_AH), A r3 h2 → (∃ fs : List Value, h2 p0 = some (3, fs)) ∧ ∃ (A : Nat → ev_AH → Prop) (X : String → ev_AH → Prop), Mt l G M_A_elementData [.ref p0, .int p1] h2 (ev_pr A X) ∧ (∀ (r5 : Nat) (h4 : ev_AH), A r5 h4 → P (.inl (some (.ref r5))) h4) ∧ (∀ (E : String) (h9 : ev_AH), X E h9 → P (.inr E) h9)) ∧ (∀ (E : String) (h9 : ev_AH), X E h9 → P (.inr E) h9)) : Mt l G M_A_get [.ref p0, .int p1] h P := by
  refine Mt.ofJ rfl rfl (Nat.le_of_ble_eq_true rfl) ?_
  show Ev l G M_A_get 0 [(0, .ref p0), (1, .int p1)] [] h 0 0 (ev_fin G M_A_get P)
  refine e_iload_n fA_get_0 rfl 1 rfl ?_
  refine e_aload_n fA_get_1 rfl 0 rfl ?_
  obtain ⟨v1, gv1, V⟩ := V
  refine e_get fA_get_2 kA_48 gv1 ?_
  obtain ⟨A, X, hm, V, VX⟩ := V
  refine e_callSi (uc' := 0) (us' := 0) (st := []) fA_get_5 wA_get_5 rfl rfl hm (Nat.le_of_ble_eq_true rfl) (by decide) (by decide) (fun r3 h2 ga => ?_) (fun E h2 gx => ?_)
  · have V := V _ _ ga
    refine e_pop fA_get_8 rfl ?_
    refine e_aload_n fA_get_9 rfl 0 rfl ?_
    refine e_iload_n fA_get_10 rfl 1 rfl ?_
    obtain ⟨gc, V⟩ := V
    obtain ⟨A, X, hm, V, VX⟩ := V
    refine e_callVr (uc' := 0) (us' := 0) (st := []) fA_get_11 wA_get_11 rfl rfl gc hm (Nat.le_of_ble_eq_true rfl) (by decide) (by decide) (fun r5 h4 ga => ?_) (fun E h4 gx => ?_)
    · have V := V _ _ ga
      exact e_aret fA_get_14 rfl (Or.inl ⟨_, rfl⟩) V
    · exact e_out (by decide) (VX E _ gx)
  · exact e_out (by decide) (VX E _ gx)
set_option maxRecDepth 20000 in
theorem vR_isReady {l : Launch} {G : ev_G} {h : ev_AH} {P : ev_Post} {p0 : Nat} {p1 : Int32} (V : ∃ v1 : Nat, ev_f h p0 4 18 = some (.ref v1) ∧ ∃ v2 : Int32, ¬ p1 < 0 ∧ ev_f h v1 100 (Int32.toNatClampNeg p1) = some (.int v2) ∧ ∃ v3 : Nat, ev_f h p0 4 17 = some (.ref v3) ∧ ∃ v4 : Int32, ¬ p1 < 0 ∧ ev_f h v3 100 (Int32.toNatClampNeg p1) = some (.int v4) ∧ ((v2 = v4 → P (.inl (some (.int 1))) h) ∧ (¬ v2 = v4 → ∃ v6 : Int32, ev_ar h p0 16 p1 v6 ∧ (∃ fs : List Value, h p0 = some (4, fs)) ∧ (((ev_b (¬ (v6 &&& 1) = 0)) = 0 → ∃ v10 : Int32, ev_ar h p0 16 p1 v10 ∧ (∃ fs : List Value, h p0 = some (4, fs)) ∧ (((ev_b (¬ (v10 &&& 4) = 0)) = 0 → P (.inl (some (.int 0))) h) ∧ (¬ (ev_b (¬ (v10 &&& 4) = 0)) = 0 → P (.inl (some (.int 1))) h))) ∧ (¬ (ev_b (¬ (v6 &&& 1) = 0)) = 0 → ∃ v13 : Nat, ev_f h p0 4 18 = some (.ref v13) ∧ ∃ v14 : Int32, ¬ p1 < 0 ∧ ev_f h v13 100 (Int32.toNatClampNeg p1) = some (.int v14) ∧ ((0 < v14 → P (.inl (some (.int 1))) h) ∧ (¬ 0 < v14 → ∃ v16 : Int32, ev_ar h p0 16 p1 v16 ∧ (∃ fs : List Value, h p0 = some (4, fs)) ∧ (((ev_b (¬ (v16 &&& 4) = 0)) = 0 → P (.inl (some (.int 0))) h) ∧ (¬ (ev_b (¬ (v16 &&& 4) = 0)) = 0 → P (.inl (some (.int 1))) h))))))))) : Mt l G M_R_isReady [.ref p0, .int p1] h P := by
  refine Mt.of rfl rfl (Nat.le_of_ble_eq_true rfl) ?_
  show Ev l G M_R_isReady 0 [(0, .ref p0), (1, .int p1)] [] h 0 0 (ev_fin G M_R_isReady P)
  refine e_aload_n fR_isReady_0 rfl 0 rfl ?_
  obtain ⟨v1, gv1, V⟩ := V
  refine e_get fR_isReady_1 kR_55 gv1 ?_
  refine e_iload_n fR_isReady_4 rfl 1 rfl ?_
  obtain ⟨v2, g0, gv2, V⟩ := V
  refine e_iald fR_isReady_5 g0 gv2 ?_
  refine e_aload_n fR_isReady_6 rfl 0 rfl ?_
  obtain ⟨v3, gv3, V⟩ := V
  refine e_get fR_isReady_7 kR_52 gv3 ?_
  refine e_iload_n fR_isReady_10 rfl 1 rfl ?_
  obtain ⟨v4, g0, gv4, V⟩ := V
  refine e_iald fR_isReady_11 g0 gv4 ?_
  refine e_icmp_eq (tgt := 42) fR_isReady_12 (by decide) (fun z => ?_) (fun z => ?_)
  · have V := V.1 z
    refine e_iconst (v := 1) fR_isReady_42 (by decide) ?_
    refine e_goto (tgt := 47) fR_isReady_43 (by decide) ?_
    exact e_zret fR_isReady_47 rfl rfl V
  · have V := V.2 z
    refine e_aload_n fR_isReady_15 rfl 0 rfl ?_
    refine e_iload_n fR_isReady_16 rfl 1 rfl ?_
    refine e_iconst (v := 1) fR_isReady_17 (by decide) ?_
    obtain ⟨v6, gv6, V⟩ := V
    obtain ⟨gc, V⟩ := V
    refine e_callVi (uc' := 0) (us' := 0) (st := []) fR_isReady_18 wR_isReady_18 rfl rfl gc (sp_R_has gv6) (Nat.le_of_ble_eq_true rfl) (by decide) (by decide) (fun r8 h7 ga => ?_) (fun E h7 gx => False.elim gx)
    obtain ⟨rfl, rfl⟩ := ga
    refine e_if_eq (tgt := 33) fR_isReady_21 (by decide) (fun z => ?_) (fun z => ?_)
    · have V := V.1 z
      refine e_aload_n fR_isReady_33 rfl 0 rfl ?_
      refine e_iload_n fR_isReady_34 rfl 1 rfl ?_
      refine e_iconst (v := 4) fR_isReady_35 (by decide) ?_
      obtain ⟨v10, gv10, V⟩ := V
      obtain ⟨gc, V⟩ := V
      refine e_callVi (uc' := 0) (us' := 0) (st := []) fR_isReady_36 wR_isReady_36 rfl rfl gc (sp_R_has gv10) (Nat.le_of_ble_eq_true rfl) (by decide) (by decide) (fun r12 h11 ga => ?_) (fun E h11 gx => False.elim gx)
      obtain ⟨rfl, rfl⟩ := ga
      refine e_if_eq (tgt := 46) fR_isReady_39 (by decide) (fun z => ?_) (fun z => ?_)
      · have V := V.1 z
        refine e_iconst (v := 0) fR_isReady_46 (by decide) ?_
        exact e_zret fR_isReady_47 rfl rfl V
      · have V := V.2 z
        refine e_iconst (v := 1) fR_isReady_42 (by decide) ?_
        refine e_goto (tgt := 47) fR_isReady_43 (by decide) ?_
        exact e_zret fR_isReady_47 rfl rfl V
    · have V := V.2 z
      refine e_aload_n fR_isReady_24 rfl 0 rfl ?_
      obtain ⟨v13, gv13, V⟩ := V
      refine e_get fR_isReady_25 kR_55 gv13 ?_
      refine e_iload_n fR_isReady_28 rfl 1 rfl ?_
      obtain ⟨v14, g0, gv14, V⟩ := V
      refine e_iald fR_isReady_29 g0 gv14 ?_
      refine e_if_gt (tgt := 42) fR_isReady_30 (by decide) (fun z => ?_) (fun z => ?_)
      · have V := V.1 z
        refine e_iconst (v := 1) fR_isReady_42 (by decide) ?_
        refine e_goto (tgt := 47) fR_isReady_43 (by decide) ?_
        exact e_zret fR_isReady_47 rfl rfl V
      · have V := V.2 z
        refine e_aload_n fR_isReady_33 rfl 0 rfl ?_
        refine e_iload_n fR_isReady_34 rfl 1 rfl ?_
        refine e_iconst (v := 4) fR_isReady_35 (by decide) ?_
        obtain ⟨v16, gv16, V⟩ := V
        obtain ⟨gc, V⟩ := V
        refine e_callVi (uc' := 0) (us' := 0) (st := []) fR_isReady_36 wR_isReady_36 rfl rfl gc (sp_R_has gv16) (Nat.le_of_ble_eq_true rfl) (by decide) (by decide) (fun r18 h17 ga => ?_) (fun E h17 gx => False.elim gx)
        obtain ⟨rfl, rfl⟩ := ga
        refine e_if_eq (tgt := 46) fR_isReady_39 (by decide) (fun z => ?_) (fun z => ?_)
        · have V := V.1 z
          refine e_iconst (v := 0) fR_isReady_46 (by decide) ?_
          exact e_zret fR_isReady_47 rfl rfl V
        · have V := V.2 z
          refine e_iconst (v := 1) fR_isReady_42 (by decide) ?_
          refine e_goto (tgt := 47) fR_isReady_43 (by decide) ?_
          exact e_zret fR_isReady_47 rfl rfl V
end
section
section S4
variable {l : Launch} {G : ev_G} {h : ev_AH}
theorem sp_A_get {a v : Nat} {i : Int32} (g : ev_get h a i v) : Mt l G M_A_get [.ref a, .int i] h (ev_pr (fun r h' => h = h' ∧ r = v) (fun _ _ => False)) := by
  obtain ⟨n, r, g1, g2, g3, g4, g5⟩ := g
  obtain ⟨fs, hfs, -⟩ := ev_f_of g1
  refine vA_get ⟨n, g1, _, _, sp_Jo_checkIndex g2 g3, ?_, fun _ _ q => q.elim⟩
  intro r2 h1 q
  obtain ⟨rfl, rfl⟩ := q
  exact ⟨⟨fs, hfs⟩, _, _, sp_A_elementData g4 g2 g5, fun _ _ q => q, fun _ _ q => q.elim⟩
theorem sp_R_isReady {m : Nat} {i w ru he : Int32} (g : ev_ar h m 17 i w) (g' : ev_ar h m 16 i ru) (g'' : ev_ar h m 18 i he) : Mt l G M_R_isReady [.ref m, .int i] h (ev_pi (fun r h' => h = h' ∧ r = ev_b (he = w ∨ (¬ (ru &&& 1) = 0 ∧ 0 < he) ∨ ¬ (ru &&& 4) = 0)) (fun _ _ => False)) := by
  obtain ⟨a1, p1, q1, s1⟩ := g
  obtain ⟨a3, p3, q3, s3⟩ := g''
  obtain ⟨fs, hfs, -⟩ := ev_f_of p1
  have u : ∀ v, ev_ar h m 16 i v ↔ v = ru := by
    intro v
    obtain ⟨a2, p2, q2, s2⟩ := g'
    unfold ev_ar
    simp only [p2, q2, Option.some.injEq, Value.ref.injEq, exists_eq_left', not_false_eq_true, true_and]
    rw [s2]
    simp [eq_comm]
  simp only [show ¬ ((17 : Nat) = 21 ∨ (17 : Nat) = 22) by decide, show ¬ ((18 : Nat) = 21 ∨ (18 : Nat) = 22) by decide, if_false] at s1 s3
  refine vR_isReady ?_
  simp only [p1, p3, q1, s1, s3, u, hfs, Option.some.injEq, Value.int.injEq, Value.ref.injEq, Prod.mk.injEq, exists_eq_left', exists_eq_left, exists_eq', true_and, not_false_eq_true, ev_b]
  grind
end S4
end
