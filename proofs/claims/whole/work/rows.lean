section
-- ===== PART A: goes FIRST, ahead of the names: the tables' words, and 'selects' of the private methods out of them =====
/-- a private method of a class that the tables say can be made, by its rows of tables_1 -/
def lw_okq (q : MethodName × Nat) : Prop := (q.1.cls ≠ "java/lang/invoke/MethodHandle" ∧ q.1.cls ≠ "java/lang/invoke/VarHandle") ∧ Cond.instantiable q.1.cls q.2 ∈ tables_1 ∧ Cond.privateMethod q.1 ∈ tables_1 ∧ Cond.instanceMethod q.1 ∈ tables_1
theorem lw_p0 : lw_okq (⟨"OrderRows3", "piecesHeld", "()I"⟩, 2) := ⟨⟨by decide +kernel, by decide +kernel⟩, List.mem_of_getElem? (i := 23) (by decide +kernel), List.mem_of_getElem? (i := 72) (by decide +kernel), List.mem_of_getElem? (i := 73) (by decide +kernel)⟩
theorem lw_p1 : lw_okq (⟨"OrderRows3", "piecesShipped", "()I"⟩, 2) := ⟨⟨by decide +kernel, by decide +kernel⟩, List.mem_of_getElem? (i := 23) (by decide +kernel), List.mem_of_getElem? (i := 91) (by decide +kernel), List.mem_of_getElem? (i := 92) (by decide +kernel)⟩
theorem lw_p2 : lw_okq (⟨"java/lang/Throwable", "fillInStackTrace", "(I)Ljava/lang/Throwable;"⟩, 6) := ⟨⟨by decide +kernel, by decide +kernel⟩, List.mem_of_getElem? (i := 146) (by decide +kernel), List.mem_of_getElem? (i := 144) (by decide +kernel), List.mem_of_getElem? (i := 145) (by decide +kernel)⟩
theorem lw_p3 : lw_okq (⟨"OrderRows3", "firstWithOwnNumber", "(II)I"⟩, 2) := ⟨⟨by decide +kernel, by decide +kernel⟩, List.mem_of_getElem? (i := 23) (by decide +kernel), List.mem_of_getElem? (i := 177) (by decide +kernel), List.mem_of_getElem? (i := 178) (by decide +kernel)⟩
theorem lw_p4 : lw_okq (⟨"OrderRows3", "requireRoomForOrder", "()V"⟩, 2) := ⟨⟨by decide +kernel, by decide +kernel⟩, List.mem_of_getElem? (i := 23) (by decide +kernel), List.mem_of_getElem? (i := 182) (by decide +kernel), List.mem_of_getElem? (i := 183) (by decide +kernel)⟩
theorem lw_p5 : lw_okq (⟨"OrderRows3", "addOrder", "(IIII)LOrderRows3$Order;"⟩, 2) := ⟨⟨by decide +kernel, by decide +kernel⟩, List.mem_of_getElem? (i := 23) (by decide +kernel), List.mem_of_getElem? (i := 205) (by decide +kernel), List.mem_of_getElem? (i := 206) (by decide +kernel)⟩
theorem lw_p6 : lw_okq (⟨"java/util/ArrayList", "add", "(Ljava/lang/Object;[Ljava/lang/Object;I)V"⟩, 3) := ⟨⟨by decide +kernel, by decide +kernel⟩, List.mem_of_getElem? (i := 31) (by decide +kernel), List.mem_of_getElem? (i := 261) (by decide +kernel), List.mem_of_getElem? (i := 262) (by decide +kernel)⟩
theorem lw_p7 : lw_okq (⟨"java/util/ArrayList", "grow", "()[Ljava/lang/Object;"⟩, 3) := ⟨⟨by decide +kernel, by decide +kernel⟩, List.mem_of_getElem? (i := 31) (by decide +kernel), List.mem_of_getElem? (i := 265) (by decide +kernel), List.mem_of_getElem? (i := 266) (by decide +kernel)⟩
theorem lw_p8 : lw_okq (⟨"java/util/ArrayList", "grow", "(I)[Ljava/lang/Object;"⟩, 3) := ⟨⟨by decide +kernel, by decide +kernel⟩, List.mem_of_getElem? (i := 31) (by decide +kernel), List.mem_of_getElem? (i := 269) (by decide +kernel), List.mem_of_getElem? (i := 270) (by decide +kernel)⟩
theorem lw_p9 : lw_okq (⟨"OrderRows3", "orderAt", "(I)LOrderRows3$Order;"⟩, 2) := ⟨⟨by decide +kernel, by decide +kernel⟩, List.mem_of_getElem? (i := 23) (by decide +kernel), List.mem_of_getElem? (i := 322) (by decide +kernel), List.mem_of_getElem? (i := 323) (by decide +kernel)⟩
theorem lw_p10 : lw_okq (⟨"OrderRows3", "requireRoomForLine", "()V"⟩, 2) := ⟨⟨by decide +kernel, by decide +kernel⟩, List.mem_of_getElem? (i := 23) (by decide +kernel), List.mem_of_getElem? (i := 361) (by decide +kernel), List.mem_of_getElem? (i := 362) (by decide +kernel)⟩
theorem lw_p11 : lw_okq (⟨"OrderRows3", "addLine", "(LOrderRows3$Order;III)LOrderRows3$Line;"⟩, 2) := ⟨⟨by decide +kernel, by decide +kernel⟩, List.mem_of_getElem? (i := 23) (by decide +kernel), List.mem_of_getElem? (i := 365) (by decide +kernel), List.mem_of_getElem? (i := 366) (by decide +kernel)⟩
theorem lw_p12 : lw_okq (⟨"OrderRows3", "lineAt", "(I)LOrderRows3$Line;"⟩, 2) := ⟨⟨by decide +kernel, by decide +kernel⟩, List.mem_of_getElem? (i := 23) (by decide +kernel), List.mem_of_getElem? (i := 431) (by decide +kernel), List.mem_of_getElem? (i := 432) (by decide +kernel)⟩
theorem lw_p13 : lw_okq (⟨"OrderRows3$Order", "eachLiveLineIsReady", "()Z"⟩, 10) := ⟨⟨by decide +kernel, by decide +kernel⟩, List.mem_of_getElem? (i := 208) (by decide +kernel), List.mem_of_getElem? (i := 465) (by decide +kernel), List.mem_of_getElem? (i := 466) (by decide +kernel)⟩
theorem lw_p14 : lw_okq (⟨"OrderRows3$Order", "allHeldIsPicked", "()Z"⟩, 10) := ⟨⟨by decide +kernel, by decide +kernel⟩, List.mem_of_getElem? (i := 208) (by decide +kernel), List.mem_of_getElem? (i := 477) (by decide +kernel), List.mem_of_getElem? (i := 478) (by decide +kernel)⟩
theorem lw_p15 : lw_okq (⟨"OrderRows3$Order", "noLineAwaitsBackorder", "()Z"⟩, 10) := ⟨⟨by decide +kernel, by decide +kernel⟩, List.mem_of_getElem? (i := 208) (by decide +kernel), List.mem_of_getElem? (i := 481) (by decide +kernel), List.mem_of_getElem? (i := 482) (by decide +kernel)⟩
def lw_privs_1 : List (MethodName × Nat) := [(⟨"OrderRows3", "piecesHeld", "()I"⟩, 2), (⟨"OrderRows3", "piecesShipped", "()I"⟩, 2), (⟨"java/lang/Throwable", "fillInStackTrace", "(I)Ljava/lang/Throwable;"⟩, 6), (⟨"OrderRows3", "firstWithOwnNumber", "(II)I"⟩, 2), (⟨"OrderRows3", "requireRoomForOrder", "()V"⟩, 2), (⟨"OrderRows3", "addOrder", "(IIII)LOrderRows3$Order;"⟩, 2), (⟨"java/util/ArrayList", "add", "(Ljava/lang/Object;[Ljava/lang/Object;I)V"⟩, 3), (⟨"java/util/ArrayList", "grow", "()[Ljava/lang/Object;"⟩, 3), (⟨"java/util/ArrayList", "grow", "(I)[Ljava/lang/Object;"⟩, 3), (⟨"OrderRows3", "orderAt", "(I)LOrderRows3$Order;"⟩, 2), (⟨"OrderRows3", "requireRoomForLine", "()V"⟩, 2), (⟨"OrderRows3", "addLine", "(LOrderRows3$Order;III)LOrderRows3$Line;"⟩, 2), (⟨"OrderRows3", "lineAt", "(I)LOrderRows3$Line;"⟩, 2), (⟨"OrderRows3$Order", "eachLiveLineIsReady", "()Z"⟩, 10), (⟨"OrderRows3$Order", "allHeldIsPicked", "()Z"⟩, 10), (⟨"OrderRows3$Order", "noLineAwaitsBackorder", "()Z"⟩, 10)]
theorem lw_r1 : ∀ q ∈ lw_privs_1, lw_okq q := List.forall_mem_cons.mpr ⟨lw_p0, List.forall_mem_cons.mpr ⟨lw_p1, List.forall_mem_cons.mpr ⟨lw_p2, List.forall_mem_cons.mpr ⟨lw_p3, List.forall_mem_cons.mpr ⟨lw_p4, List.forall_mem_cons.mpr ⟨lw_p5, List.forall_mem_cons.mpr ⟨lw_p6, List.forall_mem_cons.mpr ⟨lw_p7, List.forall_mem_cons.mpr ⟨lw_p8, List.forall_mem_cons.mpr ⟨lw_p9, List.forall_mem_cons.mpr ⟨lw_p10, List.forall_mem_cons.mpr ⟨lw_p11, List.forall_mem_cons.mpr ⟨lw_p12, List.forall_mem_cons.mpr ⟨lw_p13, List.forall_mem_cons.mpr ⟨lw_p14, List.forall_mem_cons.mpr ⟨lw_p15, fun _ h => absurd h List.not_mem_nil⟩⟩⟩⟩⟩⟩⟩⟩⟩⟩⟩⟩⟩⟩⟩⟩
theorem lw_p16 : lw_okq (⟨"OrderRows3", "waitingBefore", "(LOrderRows3$Order;)I"⟩, 2) := ⟨⟨by decide +kernel, by decide +kernel⟩, List.mem_of_getElem? (i := 23) (by decide +kernel), List.mem_of_getElem? (i := 584) (by decide +kernel), List.mem_of_getElem? (i := 585) (by decide +kernel)⟩
theorem lw_p17 : lw_okq (⟨"OrderRows3Model", "newOrder", "(IIII)I"⟩, 23) := ⟨⟨by decide +kernel, by decide +kernel⟩, List.mem_of_getElem? (i := 619) (by decide +kernel), List.mem_of_getElem? (i := 709) (by decide +kernel), List.mem_of_getElem? (i := 710) (by decide +kernel)⟩
theorem lw_p18 : lw_okq (⟨"OrderRows3Model", "isOrder", "(I)Z"⟩, 23) := ⟨⟨by decide +kernel, by decide +kernel⟩, List.mem_of_getElem? (i := 619) (by decide +kernel), List.mem_of_getElem? (i := 717) (by decide +kernel), List.mem_of_getElem? (i := 718) (by decide +kernel)⟩
theorem lw_p19 : lw_okq (⟨"OrderRows3Model", "newLine", "(IIII)I"⟩, 23) := ⟨⟨by decide +kernel, by decide +kernel⟩, List.mem_of_getElem? (i := 619) (by decide +kernel), List.mem_of_getElem? (i := 721) (by decide +kernel), List.mem_of_getElem? (i := 722) (by decide +kernel)⟩
theorem lw_p20 : lw_okq (⟨"OrderRows3Model", "hang", "(II)V"⟩, 23) := ⟨⟨by decide +kernel, by decide +kernel⟩, List.mem_of_getElem? (i := 619) (by decide +kernel), List.mem_of_getElem? (i := 725) (by decide +kernel), List.mem_of_getElem? (i := 726) (by decide +kernel)⟩
theorem lw_p21 : lw_okq (⟨"OrderRows3Model", "isLine", "(I)Z"⟩, 23) := ⟨⟨by decide +kernel, by decide +kernel⟩, List.mem_of_getElem? (i := 619) (by decide +kernel), List.mem_of_getElem? (i := 733) (by decide +kernel), List.mem_of_getElem? (i := 734) (by decide +kernel)⟩
theorem lw_p22 : lw_okq (⟨"OrderRows3Model", "mayGoOn", "(I)Z"⟩, 23) := ⟨⟨by decide +kernel, by decide +kernel⟩, List.mem_of_getElem? (i := 619) (by decide +kernel), List.mem_of_getElem? (i := 745) (by decide +kernel), List.mem_of_getElem? (i := 746) (by decide +kernel)⟩
theorem lw_p23 : lw_okq (⟨"OrderRows3Model", "liveLines", "(I)I"⟩, 23) := ⟨⟨by decide +kernel, by decide +kernel⟩, List.mem_of_getElem? (i := 619) (by decide +kernel), List.mem_of_getElem? (i := 749) (by decide +kernel), List.mem_of_getElem? (i := 750) (by decide +kernel)⟩
theorem lw_p24 : lw_okq (⟨"OrderRows3Model", "lineAt", "(II)I"⟩, 23) := ⟨⟨by decide +kernel, by decide +kernel⟩, List.mem_of_getElem? (i := 619) (by decide +kernel), List.mem_of_getElem? (i := 753) (by decide +kernel), List.mem_of_getElem? (i := 754) (by decide +kernel)⟩
theorem lw_p25 : lw_okq (⟨"OrderRows3Model", "isReady", "(I)Z"⟩, 23) := ⟨⟨by decide +kernel, by decide +kernel⟩, List.mem_of_getElem? (i := 619) (by decide +kernel), List.mem_of_getElem? (i := 757) (by decide +kernel), List.mem_of_getElem? (i := 758) (by decide +kernel)⟩
theorem lw_p26 : lw_okq (⟨"OrderRows3Model", "has", "(II)Z"⟩, 23) := ⟨⟨by decide +kernel, by decide +kernel⟩, List.mem_of_getElem? (i := 619) (by decide +kernel), List.mem_of_getElem? (i := 761) (by decide +kernel), List.mem_of_getElem? (i := 762) (by decide +kernel)⟩
theorem lw_p27 : lw_okq (⟨"OrderRows3Model", "shortOf", "(I)I"⟩, 23) := ⟨⟨by decide +kernel, by decide +kernel⟩, List.mem_of_getElem? (i := 619) (by decide +kernel), List.mem_of_getElem? (i := 765) (by decide +kernel), List.mem_of_getElem? (i := 766) (by decide +kernel)⟩
theorem lw_p28 : lw_okq (⟨"OrderRows3Model", "isWaiting", "(I)Z"⟩, 23) := ⟨⟨by decide +kernel, by decide +kernel⟩, List.mem_of_getElem? (i := 619) (by decide +kernel), List.mem_of_getElem? (i := 800) (by decide +kernel), List.mem_of_getElem? (i := 801) (by decide +kernel)⟩
theorem lw_p29 : lw_okq (⟨"OrderRows3Model", "isBefore", "(II)Z"⟩, 23) := ⟨⟨by decide +kernel, by decide +kernel⟩, List.mem_of_getElem? (i := 619) (by decide +kernel), List.mem_of_getElem? (i := 804) (by decide +kernel), List.mem_of_getElem? (i := 805) (by decide +kernel)⟩
def lw_privs_2 : List (MethodName × Nat) := [(⟨"OrderRows3", "waitingBefore", "(LOrderRows3$Order;)I"⟩, 2), (⟨"OrderRows3Model", "newOrder", "(IIII)I"⟩, 23), (⟨"OrderRows3Model", "isOrder", "(I)Z"⟩, 23), (⟨"OrderRows3Model", "newLine", "(IIII)I"⟩, 23), (⟨"OrderRows3Model", "hang", "(II)V"⟩, 23), (⟨"OrderRows3Model", "isLine", "(I)Z"⟩, 23), (⟨"OrderRows3Model", "mayGoOn", "(I)Z"⟩, 23), (⟨"OrderRows3Model", "liveLines", "(I)I"⟩, 23), (⟨"OrderRows3Model", "lineAt", "(II)I"⟩, 23), (⟨"OrderRows3Model", "isReady", "(I)Z"⟩, 23), (⟨"OrderRows3Model", "has", "(II)Z"⟩, 23), (⟨"OrderRows3Model", "shortOf", "(I)I"⟩, 23), (⟨"OrderRows3Model", "isWaiting", "(I)Z"⟩, 23), (⟨"OrderRows3Model", "isBefore", "(II)Z"⟩, 23)]
theorem lw_r2 : ∀ q ∈ lw_privs_2, lw_okq q := List.forall_mem_cons.mpr ⟨lw_p16, List.forall_mem_cons.mpr ⟨lw_p17, List.forall_mem_cons.mpr ⟨lw_p18, List.forall_mem_cons.mpr ⟨lw_p19, List.forall_mem_cons.mpr ⟨lw_p20, List.forall_mem_cons.mpr ⟨lw_p21, List.forall_mem_cons.mpr ⟨lw_p22, List.forall_mem_cons.mpr ⟨lw_p23, List.forall_mem_cons.mpr ⟨lw_p24, List.forall_mem_cons.mpr ⟨lw_p25, List.forall_mem_cons.mpr ⟨lw_p26, List.forall_mem_cons.mpr ⟨lw_p27, List.forall_mem_cons.mpr ⟨lw_p28, List.forall_mem_cons.mpr ⟨lw_p29, fun _ h => absurd h List.not_mem_nil⟩⟩⟩⟩⟩⟩⟩⟩⟩⟩⟩⟩⟩⟩
def lw_privs : List (MethodName × Nat) := lw_privs_1 ++ (lw_privs_2)
def lw_tbl : List Cond := k2_sels lw_privs ++ tables_1
theorem lw_privs_ok : ∀ q ∈ lw_privs, lw_okq q := by
  show ∀ q ∈ lw_privs_1 ++ (lw_privs_2), lw_okq q
  exact List.forall_mem_append.mpr ⟨lw_r1, lw_r2⟩
end
section
/-! ===== BEGIN words of one list among another's, by their places ===== -/
theorem goodIn_r {big : List Cond} (ws : List Cond) (ps : List Nat) (hp : ws = ps.filterMap (fun i => big[i]?)) (h : ws.all goodWord = true) : GoodIn big ws := by
  intro w hw
  have h1 := List.all_eq_true.mp h w hw
  rw [hp] at hw
  obtain ⟨i, -, hi⟩ := List.mem_filterMap.mp hw
  have hm : w ∈ big := by first | exact List.mem_of_getElem? hi | exact List.getElem?_mem hi
  exact ⟨hm, good_of_word h1⟩
theorem goodIn_app {big a b : List Cond} (ha : GoodIn big a) (hb : GoodIn big b) : GoodIn big (a ++ b) := fun w h => (List.mem_append.mp h).elim (ha w) (hb w)
theorem goodIn_ca {big a b : List Cond} {c : Cond} (ha : GoodIn big (c :: a)) (hb : GoodIn big b) : GoodIn big (c :: (a ++ b)) := fun w h => (List.mem_cons.mp h).elim (fun e => ha w (List.mem_cons.mpr (Or.inl e))) (fun h => (List.mem_append.mp h).elim (fun h => ha w (List.mem_cons.mpr (Or.inr h))) (hb w))
theorem goodIn_sub {big ws : List Cond} (hm : ∀ w ∈ ws, w ∈ big) (h : ws.all goodWord = true) : GoodIn big ws := fun w hw => ⟨hm w hw, good_of_word (List.all_eq_true.mp h w hw)⟩
/-! ===== END ===== -/

/-! ===== BEGIN exceptions that leave a method, and their catching by the caller (launches without stack traces) ===== -/
section VXA
/-! The laws vx_back, vx_callV, vx_callS, vx_callSW, vx_throw0, vx_throwS follow proofs of the library, with one case more: JvmDerived/Free/Laws.lean (Back.of_free), Shelf42/LK1.lean (callV, callS), Shelf/KitTraced.lean (throwNew0V, throwNewS). -/
/-- where a method has thrown q: the class by its name, the cell, what was written, the world -/
def vx_T (XC : String → State → State → Prop) (st : State) (q : Addr) (t : State) (mc ms : Nat) (free : Addr → Prop) : Prop :=
  ∃ (E : String) (ce : Cell) (L : List Loc), XC E st t ∧ t.heap[q]? = some ce ∧ ce.vm = .none ∧ st.vm.findClass E = some ce.cls ∧ st.WarmedH t.vm ∧ st.sameButNew ({ t with vm := st.vm } : State) L mc ms ∧ ∀ z ∈ L, free z.base
def vx_Q (Qc : Array Value → State → Outcome → State → Prop) (XC : String → State → State → Prop) (mc ms : Nat) (free : Addr → Prop) : Array Value → State → Outcome → State → Prop := fun a st o t =>
  (Qc a st o t ∧ ∃ L, FrameEnd st o t L mc ms ∧ ∀ q ∈ L, free q.base) ∨ ∃ q, o = .threw q ∧ vx_T XC st q t mc ms free
/-- a callee that returns or throws -/
def vx_Met (l : Launch) (y : MethodName) (ws : List Cond) (rm : Room) (Pc : Array Value → State → Prop) (Qc : Array Value → State → Outcome → State → Prop) (XC : String → State → State → Prop) (mc ms : Nat) (free : Addr → Prop) : Prop :=
  MetFree l y (headSpec ws rm) Pc (fun _ _ _ _ _ => True) (vx_Q Qc XC mc ms free)
def vx_Post (XC : String → State → State → Prop) (mc ms : Nat) (free : Addr → Prop) : Pt → Array Value → Addr → Pt → Prop := fun A a q B =>
  ∃ (g : JFrame) (mk : MethodId) (t : State) (L : List Loc) (E : String) (ce : Cell), B.U.heap = t.heap ∧ B.U.vm = t.vm ∧ XC E (A.U.calling g mk a) t ∧ t.heap[q]? = some ce ∧ ce.vm = .none ∧ A.U.vm.findClass E = some ce.cls ∧ B.locs = A.locs ++ L ∧ (∀ z ∈ L, free z.base) ∧ B.cells = A.cells + mc ∧ B.slots = A.slots + ms
def vx_Back (l : Launch) (R : Room) (p : Program) (e : Env) (below : List Frame) (s : State) (sargs : Array Value) (y : MethodName) (len W9 : Nat)
    (Pre : Pt → Array Value → Prop) (Post : Pt → Array Value → Option Value → Pt → Prop) (PostX : Pt → Array Value → Addr → Pt → Prop) : Prop :=
  ∀ (m : MethodId) (meth : Method) (c : Code) (A : Pt) (g : JFrame) (ig : Instr) (mk : MethodId) (a : Array Value),
    Stand p l e R s m sargs below meth c A.U A.locs A.cells A.slots → g.method = m → g.locals.size = c.maxLocals → decode c.code g.pc = .ok (ig, len) →
    2 * g.monitorRoom + (g.stack.map fun v => v.category).sum ≤ W9 → A.U.methodNamed? y = some mk → Pre A a →
    (∃ (v : Option Value) (B : Pt), Stand p l e R s m sargs below meth c B.U B.locs B.cells B.slots ∧ Post A a v B ∧
      Steps p.tables e below (doInvoke e (A.U.setTop g) [] mk a).1 (B.U.setTop { g with pc := g.pc + len, stack := v.toList ++ g.stack })) ∨
    (∃ (q : Addr) (B : Pt), Stand p l e R s m sargs below meth c B.U B.locs B.cells B.slots ∧ PostX A a q B ∧
      Steps p.tables e below (doInvoke e (A.U.setTop g) [] mk a).1 ((B.U.setTop g).pushFrame (.throwing q)))
section Payer
variable {l : Launch} {R : Room} {p : Program} {e : Env} {below : List Frame} {s : State} {sargs : Array Value} {y : MethodName} {len W9 : Nat}
theorem vx_back {ws : List Cond} {rm : Room} {Pc : Array Value → State → Prop} {Qc : Array Value → State → Outcome → State → Prop} {XC : String → State → State → Prop} {mc ms : Nat} {free : Addr → Prop} {bytes : ByteArray} {maxL : Nat} {ret : Option FieldType}
    (hM : vx_Met l y ws rm Pc Qc XC mc ms free) (hblind : FrameBlind Pc) (hrc : rm.cells = mc) (hrs : rm.slots = ms)
    (hframes : rm.frames + 1 ≤ R.frames) (hlocals : W9 + (maxL + 11) + rm.locals ≤ R.locals)
    (hws : ∀ w ∈ ws, ∀ a' U, s.WarmedH U.vm → w.before a' U = true) (hcode : Cond.code y bytes maxL ret ∈ ws) (hinit : ∀ a' U, s.WarmedH U.vm → (Cond.initialized y.cls).before a' U = true) :
    vx_Back l R p e below s sargs y len W9 (PreOf R mc ms Pc) (PostOf Qc mc ms free) (vx_Post XC mc ms free) := by
  intro m meth c A g ig mk a X hg hsize hdg hW hn hp
  have h1 : (headSpec ws rm).pre.before a A.U = true := atoms_intro fun w hw => hws w hw _ _ X.warmed
  have h2 : (Cond.code y bytes maxL ret).before a A.U = true := hws _ hcode _ _ X.warmed
  have h3 : (Cond.initialized y.cls).before a A.U = true := hinit _ _ X.warmed
  have h4 : A.cells + (headSpec ws rm).room.cells ≤ R.cells := by rw [show (headSpec ws rm).room.cells = mc from hrc]; exact hp.1
  have h5 : A.slots + (headSpec ws rm).room.slots ≤ R.slots := by rw [show (headSpec ws rm).room.slots = ms from hrs]; exact hp.2.1
  have hPc : Pc a (A.U.calling g mk a) := hblind _ _ _ _ hp.2.2
  obtain ⟨U, Ls, c0, s0⟩ := A
  dsimp only [Pt.U, Pt.locs, Pt.cells, Pt.slots] at h1 h2 h3 h4 h5 X hn hPc ⊢
  obtain ⟨methY, cY, hmY, hcY, -, hlY, -, -, -, -⟩ := Cond.code_spec hn h2
  obtain ⟨kY, hkY, -⟩ := className_of_methodNamed hn
  have hinitY : kY.init = .initialized := Cond.initialized_spec (findClass_of_methodNamed hn) hkY h3
  have h : At U g.method c below := by rw [hg]; exact X.here
  have hlocals9 : W9 + (maxL + 11) + (headSpec ws rm).room.locals ≤ R.locals := hlocals
  have happ : (headSpec ws rm).appliesLoose y e.platform (U.calling g mk a) = true :=
    Spec.appliesLoose_calling (g := g) h hdg hn hkY hinitY
      (X.room_calling (g := g) (R' := (headSpec ws rm).room) hsize hmY hcY hframes (by rw [hlY]; omega) h4 h5) h1
  obtain ⟨mid, hmid⟩ := h.above
  have hfr : (U.setTop g).frames = (.java g :: mid) ++ below := by rw [State.frames_setTop' g h.top, hmid]; rfl
  obtain ⟨o, s₂, hsteps, -, hend, hq⟩ := Steps.callFree hM p X.admits X.cas X.clock (acts := []) hfr happ hPc trivial
  have hq' : vx_Q Qc XC mc ms free a (U.calling g mk a) o s₂ := hq
  rw [State.frames_setTop' g h.top] at hend
  obtain ⟨g₀, hg0⟩ := Option.isSome_iff_exists.mp h.top
  obtain ⟨r, hr⟩ := State.topJava?_eq_some.mp hg0
  have hr' : (({ U with heap := s₂.heap, slotsUsed := s₂.slotsUsed } : State).setVm s₂.vm).frames = .java g₀ :: r := hr
  rcases hq' with ⟨hqc, L, hfe, hL⟩ | ⟨q, rfl, E, ce, L, hx, hce, hcv, hcl, hW₂, hsm, hL⟩
  · obtain ⟨⟨v, rfl⟩, hW₂, e2, q2, q3, q4, q5, q6⟩ := id hfe
    have e3 : s₂ = ({ (U.calling g mk a).setFrames s₂.frames with heap := s₂.heap, slotsUsed := s₂.slotsUsed } : State).setVm s₂.vm := by
      have : s₂ = ({ s₂ with vm := (U.calling g mk a).vm } : State).setVm s₂.vm := rfl
      rw [e2] at this
      exact this
    obtain ⟨c₂, i₂, len₂, hc₂, hd₂, hf₂⟩ := hend
    have hW' : U.WarmedH s₂.vm := hW₂
    have hcc : c₂ = c := by
      have h1 : s₂.code? g.method = U.code? g.method := by
        rw [State.code?_eq, State.code?_eq, hW'.alike.method?]
      exact Option.some.inj (hc₂.symm.trans (h1.trans h.code))
    subst hcc
    have hlen : len₂ = len := by rw [hdg] at hd₂; cases hd₂; rfl
    subst hlen
    have hs₂ : s₂ = (({ U with heap := s₂.heap, slotsUsed := s₂.slotsUsed } : State).setVm s₂.vm).setTop { g with pc := g.pc + len₂, stack := v.toList ++ g.stack } := by
      refine e3.trans ?_
      rw [hf₂, State.calling_eq h.top, State.setFrames_setFrames, State.setTop_of_frames _ hr', hr]
      rfl
    have hsame : U.sameButNew ({ U with heap := s₂.heap, slotsUsed := s₂.slotsUsed } : State) L mc ms := by
      refine ⟨?_, q2, q3, q4, q5, q6⟩
      obtain ⟨t, ht, -⟩ := State.frames_cons hr
      show ({ U with heap := s₂.heap, slotsUsed := s₂.slotsUsed } : State) = { U.setFrames U.frames with heap := s₂.heap, slotsUsed := s₂.slotsUsed }
      rw [State.setFrames_self ht]
    subst hg
    refine Or.inl ⟨v, ⟨(({ U with heap := s₂.heap, slotsUsed := s₂.slotsUsed } : State).setVm s₂.vm), Ls ++ L, c0 + mc, s0 + ms⟩,
      ⟨X.admits, X.cas, X.clock, X.frames, X.room, X.hears, X.method, X.code, (X.here.setHeapUsed s₂.heap s₂.slotsUsed).setVm hW'.alike, X.tail, State.WarmedH.trans X.warmed hW', X.limits, X.bytes, X.same.trans (hsame.setVm s.vm)⟩,
      ⟨g, mk, s₂, L, rfl, rfl, hqc, rfl, hL, rfl, rfl⟩, ?_⟩
    show Steps p.tables e below _ ((({ U with heap := s₂.heap, slotsUsed := s₂.slotsUsed } : State).setVm s₂.vm).setTop { g with pc := g.pc + len₂, stack := v.toList ++ g.stack })
    rw [← hs₂]
    exact hsteps
  · obtain ⟨e2, q2, q3, q4, q5, q6⟩ := id hsm
    have e3 : s₂ = ({ (U.calling g mk a).setFrames s₂.frames with heap := s₂.heap, slotsUsed := s₂.slotsUsed } : State).setVm s₂.vm := by
      have : s₂ = ({ s₂ with vm := (U.calling g mk a).vm } : State).setVm s₂.vm := rfl
      rw [e2] at this
      exact this
    have hf₂ : s₂.frames = .throwing q :: .java g :: U.frames.tail := hend
    have hW' : U.WarmedH s₂.vm := hW₂
    have hs₂ : s₂ = ((({ U with heap := s₂.heap, slotsUsed := s₂.slotsUsed } : State).setVm s₂.vm).setTop g).pushFrame (.throwing q) := by
      refine e3.trans ?_
      rw [hf₂, State.calling_eq h.top, State.setFrames_setFrames, State.pushFrame, State.frames_setTop _ hr', State.setTop_of_frames _ hr', State.setFrames_setFrames, hr]
      rfl
    have hsame : U.sameButNew ({ U with heap := s₂.heap, slotsUsed := s₂.slotsUsed } : State) L mc ms := by
      refine ⟨?_, q2, q3, q4, q5, q6⟩
      obtain ⟨t, ht, -⟩ := State.frames_cons hr
      show ({ U with heap := s₂.heap, slotsUsed := s₂.slotsUsed } : State) = { U.setFrames U.frames with heap := s₂.heap, slotsUsed := s₂.slotsUsed }
      rw [State.setFrames_self ht]
    subst hg
    refine Or.inr ⟨q, ⟨(({ U with heap := s₂.heap, slotsUsed := s₂.slotsUsed } : State).setVm s₂.vm), Ls ++ L, c0 + mc, s0 + ms⟩,
      ⟨X.admits, X.cas, X.clock, X.frames, X.room, X.hears, X.method, X.code, (X.here.setHeapUsed s₂.heap s₂.slotsUsed).setVm hW'.alike, X.tail, State.WarmedH.trans X.warmed hW', X.limits, X.bytes, X.same.trans (hsame.setVm s.vm)⟩,
      ⟨g, mk, s₂, L, E, ce, rfl, rfl, hx, hce, hcv, hcl, rfl, hL, rfl, rfl⟩, ?_⟩
    show Steps p.tables e below _ (((({ U with heap := s₂.heap, slotsUsed := s₂.slotsUsed } : State).setVm s₂.vm).setTop g).pushFrame (.throwing q))
    rw [← hs₂]
    exact hsteps
end Payer
section Calls
variable {p : Program} {l : Launch} {e : Env} {R : Room} {s : State} {m : MethodId} {args : Array Value} {below : List Frame} {meth : Method} {c : Code} {T : State} {locs : List Loc} {cells slots : Nat}
theorem vx_callV (X : Stand p l e R s m args below meth c T locs cells slots) (hexec : p.tables.exec = Jvm.exec) {own C : String} {index : Nat} {y : MethodName} {bytes : ByteArray} {maxL : Nat} {ret : Option FieldType}
    (hown : s.vm.findClass own = some m.cls) (hlink : (Cond.methodLink own index y).before args s = true) (hinst : (Cond.instanceMethod y).before args s = true) (hsel : (Cond.selects C y y).before args s = true)
    (hcode : (Cond.code y bytes maxL ret).before args s = true) (hy : y.cls ≠ "java/lang/invoke/MethodHandle" ∧ y.cls ≠ "java/lang/invoke/VarHandle")
    {W9 : Nat} {Pre : Pt → Array Value → Prop} {Post : Pt → Array Value → Option Value → Pt → Prop} {PostX : Pt → Array Value → Addr → Pt → Prop} (hK : vx_Back l R p e below s args y 3 W9 Pre Post PostX)
    {b : Addr} {cellB : Cell} (hcell : T.heap[b]? = some cellB) (hobj : cellB.vm.isStatics = false) (hcls : s.vm.findClass C = some cellB.cls)
    {g : JFrame} (hg : g.method = m) (hsize : g.locals.size = c.maxLocals) {argsL rest : List Value} (hlen : ∀ sig, parseMethodDescriptor y.desc = some sig → argsL.length = sig.parameters.length)
    (hstack : g.stack = argsL.reverse ++ .ref b :: rest) (hW : 2 * g.monitorRoom + (rest.map fun v => v.category).sum ≤ W9) (hdg : decode c.code g.pc = .ok (.invokevirtual index, 3))
    (hpre : ∀ vm₁, s.WarmedH vm₁ → Pre ⟨T.setVm vm₁, locs, cells, slots⟩ (Value.ref b :: argsL).toArray) :
    (∃ (v : Option Value) (vm₁ : Vm) (B : Pt), s.WarmedH vm₁ ∧ Stand p l e R s m args below meth c B.U B.locs B.cells B.slots ∧ Post ⟨T.setVm vm₁, locs, cells, slots⟩ (Value.ref b :: argsL).toArray v B ∧
      ∀ target, Steps p.tables e below (B.U.setTop { g with pc := g.pc + 3, stack := v.toList ++ rest }) target → Steps p.tables e below (T.setTop g) target) ∨
    (∃ (q : Addr) (vm₁ : Vm) (B : Pt), s.WarmedH vm₁ ∧ Stand p l e R s m args below meth c B.U B.locs B.cells B.slots ∧ PostX ⟨T.setVm vm₁, locs, cells, slots⟩ (Value.ref b :: argsL).toArray q B ∧
      Steps p.tables e below (T.setTop g) ((B.U.setTop { g with stack := rest }).pushFrame (.throwing q))) := by
  obtain ⟨mk, methM, hnamed, hmethM, hstM, habM⟩ := Cond.instanceMethod_spec hinst
  obtain ⟨methM', cM, hmethM', -, -, -, -, -, -, hsigM⟩ := Cond.code_spec hnamed hcode
  cases hmethM.symm.trans hmethM'
  obtain ⟨c2, r2, m2, q1, q2, q3, q4, kP, hkP, hkPi⟩ := Cond.selects_spec hsel
  cases hcls.symm.trans q1
  cases (State.methodFound?_of_named hnamed hy).symm.trans q2
  cases hnamed.symm.trans q3
  have hselP : selectMethod e.platform s.vm cellB.cls mk = .method mk := by rw [Launch.admits_selectMethod X.admits]; exact q4
  obtain ⟨vm₁, X₁, hstep₁⟩ := X.invokevirtual hexec hown hlink hnamed hmethM hstM hkP hkPi hy (a := b) (cell := cellB) hcell
    (fun z h => by rw [h] at hobj; cases hobj) hselP hmethM habM hkP hkPi (g := g) hg (argsL := argsL) (rest := rest) (hlen _ hsigM) hstack hdg
  rcases hK m meth c ⟨T.setVm vm₁, locs, cells, slots⟩ { g with stack := rest } (.invokevirtual index) mk (Value.ref b :: argsL).toArray X₁ hg hsize hdg hW (X₁.named hnamed) (hpre vm₁ X₁.warmed) with ⟨v, B, X', hpost, hsteps⟩ | ⟨q, B, X', hpost, hsteps⟩
  · exact Or.inl ⟨v, vm₁, B, X₁.warmed, X', hpost, fun target h => hstep₁ _ fun acts => by rw [doInvoke_state]; exact hsteps.trans h⟩
  · exact Or.inr ⟨q, vm₁, B, X₁.warmed, X', hpost, hstep₁ _ fun acts => by rw [doInvoke_state]; exact hsteps⟩
theorem vx_callS (X : Stand p l e R s m args below meth c T locs cells slots) (hexec : p.tables.exec = Jvm.exec) {own : String} {index : Nat} {y : MethodName} {bytes : ByteArray} {maxL : Nat} {ret : Option FieldType}
    (hown : s.vm.findClass own = some m.cls) (hlink : (Cond.methodLink own index y).before args s = true) (hstat : (Cond.static y).before args s = true) (hinit : (Cond.initialized y.cls).before args s = true)
    (hcode : (Cond.code y bytes maxL ret).before args s = true) (hy : y.cls ≠ "java/lang/invoke/MethodHandle" ∧ y.cls ≠ "java/lang/invoke/VarHandle")
    {W9 : Nat} {Pre : Pt → Array Value → Prop} {Post : Pt → Array Value → Option Value → Pt → Prop} {PostX : Pt → Array Value → Addr → Pt → Prop} (hK : vx_Back l R p e below s args y 3 W9 Pre Post PostX)
    {g : JFrame} (hg : g.method = m) (hsize : g.locals.size = c.maxLocals) {argsL rest : List Value} (hlen : ∀ sig, parseMethodDescriptor y.desc = some sig → argsL.length = sig.parameters.length)
    (hstack : g.stack = argsL.reverse ++ rest) (hW : 2 * g.monitorRoom + (rest.map fun v => v.category).sum ≤ W9) (hdg : decode c.code g.pc = .ok (.invokestatic index, 3))
    (hpre : ∀ vm₁, s.WarmedH vm₁ → Pre ⟨T.setVm vm₁, locs, cells, slots⟩ argsL.toArray) :
    (∃ (v : Option Value) (vm₁ : Vm) (B : Pt), s.WarmedH vm₁ ∧ Stand p l e R s m args below meth c B.U B.locs B.cells B.slots ∧ Post ⟨T.setVm vm₁, locs, cells, slots⟩ argsL.toArray v B ∧
      ∀ target, Steps p.tables e below (B.U.setTop { g with pc := g.pc + 3, stack := v.toList ++ rest }) target → Steps p.tables e below (T.setTop g) target) ∨
    (∃ (q : Addr) (vm₁ : Vm) (B : Pt), s.WarmedH vm₁ ∧ Stand p l e R s m args below meth c B.U B.locs B.cells B.slots ∧ PostX ⟨T.setVm vm₁, locs, cells, slots⟩ argsL.toArray q B ∧
      Steps p.tables e below (T.setTop g) ((B.U.setTop { g with stack := rest }).pushFrame (.throwing q))) := by
  obtain ⟨mk, hnamed⟩ := Cond.code_named hcode
  obtain ⟨methM, cM, hmethM, -, -, -, -, -, -, hsigM⟩ := Cond.code_spec hnamed hcode
  have hstatic : methM.isStatic = true := Cond.static_spec hnamed hmethM hstat
  obtain ⟨kP, hkP, -⟩ := className_of_methodNamed hnamed
  have hinitP : kP.init = .initialized := Cond.initialized_spec (findClass_of_methodNamed hnamed) hkP hinit
  obtain ⟨vm₁, X₁, hstep₁⟩ := X.invokestatic hexec hown hlink hnamed hmethM hstatic hkP hinitP hy (g := g) hg (argsL := argsL) (rest := rest) (hlen _ hsigM) hstack hdg
  rcases hK m meth c ⟨T.setVm vm₁, locs, cells, slots⟩ { g with stack := rest } (.invokestatic index) mk argsL.toArray X₁ hg hsize hdg hW (X₁.named hnamed) (hpre vm₁ X₁.warmed) with ⟨v, B, X', hpost, hsteps⟩ | ⟨q, B, X', hpost, hsteps⟩
  · exact Or.inl ⟨v, vm₁, B, X₁.warmed, X', hpost, fun target h => hstep₁ _ fun acts => by rw [doInvoke_state]; exact hsteps.trans h⟩
  · exact Or.inr ⟨q, vm₁, B, X₁.warmed, X', hpost, hstep₁ _ fun acts => by rw [doInvoke_state]; exact hsteps⟩
end Calls
theorem vx_cls {s : State} {T : State} {vm₁ : Vm} {E : String} {k : ClassId} (hW : s.WarmedH vm₁) (h : (T.setVm vm₁).vm.findClass E = some k) : s.vm.findClass E = some k := by
  have h1 : vm₁.findClass E = some k := h
  rw [hW.alike.findClass] at h1
  exact h1
/-- the method's frame g, with q thrown over it -/
def vx_W (p : Program) (l : Launch) (e : Env) (R : Room) (s : State) (m : MethodId) (args : Array Value) (below : List Frame) (meth : Method) (c : Code) (H : Heap) (locs : List Loc) (cells slots : Nat) (Q : State → Prop) (g : JFrame) (q : Addr) : Prop :=
  ∀ T : State, T.heap = H → Stand p l e R s m args below meth c T locs cells slots → ∃ t, Steps p.tables e below ((T.setTop g).pushFrame (.throwing q)) t ∧ Q t
def vx_Run (p : Program) (l : Launch) (e : Env) (R : Room) (s : State) (m : MethodId) (args : Array Value) (below : List Frame) (meth : Method) (c : Code) (H : Heap) (locs : List Loc) (cells slots mc ms : Nat) (g : JFrame) (rest : List Value) (Qa : State → Outcome → State → Prop) (XC : String → State → State → Prop) (free : Addr → Prop) : Prop :=
  ∀ T : State, T.heap = H → Stand p l e R s m args below meth c T locs cells slots →
    (∃ (v : Option Value) (st₀ t T' : State) (L : List Loc), st₀.heap = H ∧ Stand p l e R s m args below meth c T' (locs ++ L) (cells + mc) (slots + ms) ∧ (∀ q ∈ L, free q.base) ∧ T'.heap = t.heap ∧ T'.vm = t.vm ∧ Qa st₀ (.returned v) t ∧
      Goes p e below T g T' { g with pc := g.pc + 3, stack := v.toList ++ rest }) ∨
    (∃ (q : Addr) (st₀ t T' : State) (L : List Loc) (E : String) (ce : Cell), st₀.heap = H ∧ Stand p l e R s m args below meth c T' (locs ++ L) (cells + mc) (slots + ms) ∧ (∀ z ∈ L, free z.base) ∧ T'.heap = t.heap ∧ T'.vm = t.vm ∧ XC E st₀ t ∧ t.heap[q]? = some ce ∧ ce.vm = .none ∧ s.vm.findClass E = some ce.cls ∧
      Steps p.tables e below (T.setTop g) ((T'.setTop { g with stack := rest }).pushFrame (.throwing q)))
def vx_X {S : Type} (px : S → Prop) (B : String → S → State → Prop) (A : Nat → Prop) : String → State → State → Prop := fun E st t => ∃ u : S, px u ∧ B E u t ∧ va_F A st t
section Runs
variable {p : Program} {l : Launch} {e : Env} {R : Room} {s : State} {m : MethodId} {args : Array Value} {below : List Frame} {meth : Method} {c : Code} {H : Heap} {locs : List Loc} {cells slots : Nat}
variable {y : MethodName} {bytes cc : ByteArray} {maxL nL mc ms n index : Nat} {ret : Option FieldType} {ws : List Cond} {rm : Room} {Pc : Array Value → State → Prop} {Qc : Array Value → State → Outcome → State → Prop} {XC : String → State → State → Prop} {free : Addr → Prop} {Ts : List Cond} {own C : String} {b : Addr} {As rest : List Value} {g : JFrame}
theorem vx_callBack (cb : CallB R s args own index y bytes maxL ret ws rm mc ms n) (hM : vx_Met l y ws rm Pc Qc XC mc ms free) (hbl : FrameBlind Pc) : vx_Back l R p e below s args y 3 8 (PreOf R mc ms Pc) (PostOf Qc mc ms free) (vx_Post XC mc ms free) := by
  obtain ⟨hrc, hrs, hfr, hlo, hws, hcw, -, hini, -⟩ := cb
  exact vx_back (bytes := bytes) (maxL := maxL) (ret := ret) hM hbl hrc hrs hfr hlo hws hcw (fun a' U hW => word_at hW (Or.inl (by first | rfl | simp [Cond.onTables, Cond.keeps, Cond.steady])) hini)
theorem vx_runV (S : CallFix p m c cc nL s args Ts own) (hM : vx_Met l y ws rm Pc Qc XC mc ms free) (cw : CallW R s args own C index y bytes maxL ret ws rm mc ms n) (hp : PreV s H C b Pc As)
    (hg : g.method = m) (hn : As.length = n) (hsize : g.locals.size = nL) (hstack : g.stack = As.reverse ++ .ref b :: rest) (hW : 2 * g.monitorRoom + (rest.map fun v => v.category).sum ≤ 8) (hdg : decode cc g.pc = .ok (.invokevirtual index, 3)) (hf : cells + mc ≤ R.cells ∧ slots + ms ≤ R.slots) :
    vx_Run p l e R s m args below meth c H locs cells slots mc ms g rest (Qc (Value.ref b :: As).toArray) XC free := by
  have hK : vx_Back l R p e below s args y 3 8 (PreOf R mc ms Pc) (PostOf Qc mc ms free) (vx_Post XC mc ms free) := vx_callBack cw.1 hM hp.1
  obtain ⟨⟨-, -, -, -, -, -, hcode, -, hy, hlen, hl⟩, hin, hse⟩ := cw
  obtain ⟨hx, hb, hml, ho, -⟩ := S
  obtain ⟨-, ⟨cellB, hcB, hoB, hclB⟩, hPc⟩ := hp
  intro T hT X
  rcases vx_callV X hx (C := C) (bytes := bytes) (maxL := maxL) (ret := ret) ho hl hin hse hcode hy hK (by rw [hT]; exact hcB) hoB hclB hg (hsize.trans hml.symm) (argsL := As) (rest := rest) (fun sig h => hn.trans (hlen sig h)) hstack hW (by rw [hb]; exact hdg)
    (fun vm₁ hW₁ => ⟨hf.1, hf.2, hPc (T.setVm vm₁) hT hW₁⟩) with ⟨v, vm₁, ⟨U', l2, c2, s2⟩, hW₁, X', ⟨g', mk, t, L, e1, e2, hq, h1, hL, h2, h3⟩, st⟩ | ⟨q, vm₁, ⟨U', l2, c2, s2⟩, hW₁, X', ⟨g', mk, t, L, E, ce, e1, e2, hq, hce, hcv, hcl, h1, hL, h2, h3⟩, st⟩
  · dsimp only [Pt.U, Pt.locs, Pt.cells, Pt.slots] at X' e1 e2 h1 h2 h3 st
    subst h1; subst h2; subst h3
    exact Or.inl ⟨v, (T.setVm vm₁).calling g' mk (Value.ref b :: As).toArray, t, U', L, hT, X', hL, e1, e2, hq, st⟩
  · dsimp only [Pt.U, Pt.locs, Pt.cells, Pt.slots] at X' e1 e2 h1 h2 h3 st hcl
    subst h1; subst h2; subst h3
    exact Or.inr ⟨q, (T.setVm vm₁).calling g' mk (Value.ref b :: As).toArray, t, U', L, E, ce, hT, X', hL, e1, e2, hq, hce, hcv, vx_cls hW₁ hcl, st⟩
theorem vx_runS (S : CallFix p m c cc nL s args Ts own) (hM : vx_Met l y ws rm Pc Qc XC mc ms free) (cw : CallB R s args own index y bytes maxL ret ws rm mc ms n ∧ (Cond.static y).before args s = true) (hp : PreS s H Pc As)
    (hg : g.method = m) (hn : As.length = n) (hsize : g.locals.size = nL) (hstack : g.stack = As.reverse ++ rest) (hW : 2 * g.monitorRoom + (rest.map fun v => v.category).sum ≤ 8) (hdg : decode cc g.pc = .ok (.invokestatic index, 3)) (hf : cells + mc ≤ R.cells ∧ slots + ms ≤ R.slots) :
    vx_Run p l e R s m args below meth c H locs cells slots mc ms g rest (Qc As.toArray) XC free := by
  have hK : vx_Back l R p e below s args y 3 8 (PreOf R mc ms Pc) (PostOf Qc mc ms free) (vx_Post XC mc ms free) := vx_callBack cw.1 hM hp.1
  obtain ⟨⟨-, -, -, -, -, -, hcode, hini, hy, hlen, hl⟩, hstt⟩ := cw
  obtain ⟨hx, hb, hml, ho, -⟩ := S
  intro T hT X
  rcases vx_callS X hx (bytes := bytes) (maxL := maxL) (ret := ret) ho hl hstt hini hcode hy hK hg (hsize.trans hml.symm) (argsL := As) (rest := rest) (fun sig h => hn.trans (hlen sig h)) hstack hW (by rw [hb]; exact hdg)
    (fun vm₁ hW₁ => ⟨hf.1, hf.2, hp.2 (T.setVm vm₁) hT hW₁⟩) with ⟨v, vm₁, ⟨U', l2, c2, s2⟩, hW₁, X', ⟨g', mk, t, L, e1, e2, hq, h1, hL, h2, h3⟩, st⟩ | ⟨q, vm₁, ⟨U', l2, c2, s2⟩, hW₁, X', ⟨g', mk, t, L, E, ce, e1, e2, hq, hce, hcv, hcl, h1, hL, h2, h3⟩, st⟩
  · dsimp only [Pt.U, Pt.locs, Pt.cells, Pt.slots] at X' e1 e2 h1 h2 h3 st
    subst h1; subst h2; subst h3
    exact Or.inl ⟨v, (T.setVm vm₁).calling g' mk As.toArray, t, U', L, hT, X', hL, e1, e2, hq, st⟩
  · dsimp only [Pt.U, Pt.locs, Pt.cells, Pt.slots] at X' e1 e2 h1 h2 h3 st hcl
    subst h1; subst h2; subst h3
    exact Or.inr ⟨q, (T.setVm vm₁).calling g' mk As.toArray, t, U', L, E, ce, hT, X', hL, e1, e2, hq, hce, hcv, vx_cls hW₁ hcl, st⟩
end Runs
section Rows
variable {p : Program} {l : Launch} {e : Env} {R : Room} {s : State} {m : MethodId} {args : Array Value} {below : List Frame} {meth : Method} {c : Code} {H : Heap} {locs : List Loc} {cells slots : Nat} {Q : State → Prop}
variable {mc ms : Nat} {free : Addr → Prop} {A0 A1 : Nat → Prop} {H0 : Heap} {a : Array Value} {pc : Nat} {ls : Array Slot} {st0 rest : List Value}
theorem vx_keep {st₀ t T' : State} {L : List Loc} (h0 : st₀.heap = H) (e1 : T'.heap = t.heap) (hS : va_S A0 H0 H locs) (hA : ∀ q, q < H.size → A1 q → A0 q) (hf : ∀ q, free q → A0 q) (hL : ∀ q ∈ L, free q.base) (hF : va_F A1 st₀ t) :
    H.size ≤ T'.heap.size ∧ (∀ q : Nat, q < H.size → ¬ A1 q → T'.heap[q]? = H[q]?) ∧ va_S A0 H0 T'.heap (locs ++ L) := by
  obtain ⟨hz, hk⟩ := hF
  rw [h0] at hz hk
  exact ⟨by rw [e1]; exact hz, fun q h1 h2 => by rw [e1]; exact hk q h1 h2,
    ⟨Nat.le_trans hS.1 (by rw [e1]; exact hz), fun q h1 h2 => by rw [e1, hk q (Nat.lt_of_lt_of_le h1 hS.1) (fun z => h2 (hA q (Nat.lt_of_lt_of_le h1 hS.1) z))]; exact hS.2.1 q h1 h2, fun q hq => by
      rcases List.mem_append.mp hq with h | h
      · exact hS.2.2 q h
      · exact hf _ (hL q h)⟩⟩
theorem vx_calli {S SX : Type} {post : Int32 → S → Prop} {px : SX → Prop} {B : S → State → Prop} {BX : String → SX → State → Prop} {AX : Nat → Prop} (hr : vx_Run p l e R s m args below meth c H locs cells slots mc ms (F0 m pc ls st0) rest (va_Qi post B A1 a) (vx_X px BX AX) free) (hS : va_S A0 H0 H locs) (hA : ∀ q, q < H.size → A1 q → A0 q) (hf : ∀ q, free q → A0 q) (hAX : ∀ q, q < H.size → AX q → A0 q)
    (kx : ∀ (E : String) (ce : Cell) (q9 : Addr) (u : SX) (t : State) (H1 : Heap) (locs1 : List Loc), t.heap = H1 → s.vm.Alike t.vm → px u → BX E u t → H.size ≤ H1.size → (∀ q : Nat, q < H.size → ¬ AX q → H1[q]? = H[q]?) → va_S A0 H0 H1 locs1 → H1[q9]? = some ce → ce.vm = .none → s.vm.findClass E = some ce.cls → vx_W p l e R s m args below meth c H1 locs1 (cells + mc) (slots + ms) Q (F0 m pc ls rest) q9)
    (kk : ∀ (r : Int32) (u : S) (t : State) (H1 : Heap) (locs1 : List Loc), t.heap = H1 → s.vm.Alike t.vm → post r u → B u t → H.size ≤ H1.size → (∀ q : Nat, q < H.size → ¬ A1 q → H1[q]? = H[q]?) → va_S A0 H0 H1 locs1 → W p l e R s m args below meth c H1 locs1 (cells + mc) (slots + ms) Q (F0 m (pc + 3) ls (.int r :: rest))) : W p l e R s m args below meth c H locs cells slots Q (F0 m pc ls st0) := by
  intro T hT X
  rcases hr T hT X with ⟨v, st₀, t, T', L, h0, X', hL, e1, e2, ⟨⟨r, u, hv, hp, hb⟩, hF⟩, st⟩ | ⟨q, st₀, t, T', L, E, ce, h0, X', hL, e1, e2, ⟨u, hp, hb, hF⟩, hce, hcv, hcl, st⟩
  · cases hv
    obtain ⟨k1, k2, k3⟩ := vx_keep h0 e1 hS hA hf hL hF
    obtain ⟨t2, a1, b1⟩ := kk r u t T'.heap (locs ++ L) e1.symm (by rw [← e2]; exact X'.warmed.alike) hp hb k1 k2 k3 T' rfl X'
    exact ⟨t2, st t2 a1, b1⟩
  · obtain ⟨k1, k2, k3⟩ := vx_keep h0 e1 hS hAX hf hL hF
    obtain ⟨t2, a1, b1⟩ := kx E ce q u t T'.heap (locs ++ L) e1.symm (by rw [← e2]; exact X'.warmed.alike) hp hb k1 k2 k3 (by rw [e1]; exact hce) hcv hcl T' rfl X'
    exact ⟨t2, st.trans a1, b1⟩
theorem vx_calll {S SX : Type} {post : Int64 → S → Prop} {px : SX → Prop} {B : S → State → Prop} {BX : String → SX → State → Prop} {AX : Nat → Prop} (hr : vx_Run p l e R s m args below meth c H locs cells slots mc ms (F0 m pc ls st0) rest (va_Ql post B A1 a) (vx_X px BX AX) free) (hS : va_S A0 H0 H locs) (hA : ∀ q, q < H.size → A1 q → A0 q) (hf : ∀ q, free q → A0 q) (hAX : ∀ q, q < H.size → AX q → A0 q)
    (kx : ∀ (E : String) (ce : Cell) (q9 : Addr) (u : SX) (t : State) (H1 : Heap) (locs1 : List Loc), t.heap = H1 → s.vm.Alike t.vm → px u → BX E u t → H.size ≤ H1.size → (∀ q : Nat, q < H.size → ¬ AX q → H1[q]? = H[q]?) → va_S A0 H0 H1 locs1 → H1[q9]? = some ce → ce.vm = .none → s.vm.findClass E = some ce.cls → vx_W p l e R s m args below meth c H1 locs1 (cells + mc) (slots + ms) Q (F0 m pc ls rest) q9)
    (kk : ∀ (r : Int64) (u : S) (t : State) (H1 : Heap) (locs1 : List Loc), t.heap = H1 → s.vm.Alike t.vm → post r u → B u t → H.size ≤ H1.size → (∀ q : Nat, q < H.size → ¬ A1 q → H1[q]? = H[q]?) → va_S A0 H0 H1 locs1 → W p l e R s m args below meth c H1 locs1 (cells + mc) (slots + ms) Q (F0 m (pc + 3) ls (.long r :: rest))) : W p l e R s m args below meth c H locs cells slots Q (F0 m pc ls st0) := by
  intro T hT X
  rcases hr T hT X with ⟨v, st₀, t, T', L, h0, X', hL, e1, e2, ⟨⟨r, u, hv, hp, hb⟩, hF⟩, st⟩ | ⟨q, st₀, t, T', L, E, ce, h0, X', hL, e1, e2, ⟨u, hp, hb, hF⟩, hce, hcv, hcl, st⟩
  · cases hv
    obtain ⟨k1, k2, k3⟩ := vx_keep h0 e1 hS hA hf hL hF
    obtain ⟨t2, a1, b1⟩ := kk r u t T'.heap (locs ++ L) e1.symm (by rw [← e2]; exact X'.warmed.alike) hp hb k1 k2 k3 T' rfl X'
    exact ⟨t2, st t2 a1, b1⟩
  · obtain ⟨k1, k2, k3⟩ := vx_keep h0 e1 hS hAX hf hL hF
    obtain ⟨t2, a1, b1⟩ := kx E ce q u t T'.heap (locs ++ L) e1.symm (by rw [← e2]; exact X'.warmed.alike) hp hb k1 k2 k3 (by rw [e1]; exact hce) hcv hcl T' rfl X'
    exact ⟨t2, st.trans a1, b1⟩
theorem vx_callf {S SX : Type} {post : UInt32 → S → Prop} {px : SX → Prop} {B : S → State → Prop} {BX : String → SX → State → Prop} {AX : Nat → Prop} (hr : vx_Run p l e R s m args below meth c H locs cells slots mc ms (F0 m pc ls st0) rest (va_Qf post B A1 a) (vx_X px BX AX) free) (hS : va_S A0 H0 H locs) (hA : ∀ q, q < H.size → A1 q → A0 q) (hf : ∀ q, free q → A0 q) (hAX : ∀ q, q < H.size → AX q → A0 q)
    (kx : ∀ (E : String) (ce : Cell) (q9 : Addr) (u : SX) (t : State) (H1 : Heap) (locs1 : List Loc), t.heap = H1 → s.vm.Alike t.vm → px u → BX E u t → H.size ≤ H1.size → (∀ q : Nat, q < H.size → ¬ AX q → H1[q]? = H[q]?) → va_S A0 H0 H1 locs1 → H1[q9]? = some ce → ce.vm = .none → s.vm.findClass E = some ce.cls → vx_W p l e R s m args below meth c H1 locs1 (cells + mc) (slots + ms) Q (F0 m pc ls rest) q9)
    (kk : ∀ (r : UInt32) (u : S) (t : State) (H1 : Heap) (locs1 : List Loc), t.heap = H1 → s.vm.Alike t.vm → post r u → B u t → H.size ≤ H1.size → (∀ q : Nat, q < H.size → ¬ A1 q → H1[q]? = H[q]?) → va_S A0 H0 H1 locs1 → W p l e R s m args below meth c H1 locs1 (cells + mc) (slots + ms) Q (F0 m (pc + 3) ls (.float r :: rest))) : W p l e R s m args below meth c H locs cells slots Q (F0 m pc ls st0) := by
  intro T hT X
  rcases hr T hT X with ⟨v, st₀, t, T', L, h0, X', hL, e1, e2, ⟨⟨r, u, hv, hp, hb⟩, hF⟩, st⟩ | ⟨q, st₀, t, T', L, E, ce, h0, X', hL, e1, e2, ⟨u, hp, hb, hF⟩, hce, hcv, hcl, st⟩
  · cases hv
    obtain ⟨k1, k2, k3⟩ := vx_keep h0 e1 hS hA hf hL hF
    obtain ⟨t2, a1, b1⟩ := kk r u t T'.heap (locs ++ L) e1.symm (by rw [← e2]; exact X'.warmed.alike) hp hb k1 k2 k3 T' rfl X'
    exact ⟨t2, st t2 a1, b1⟩
  · obtain ⟨k1, k2, k3⟩ := vx_keep h0 e1 hS hAX hf hL hF
    obtain ⟨t2, a1, b1⟩ := kx E ce q u t T'.heap (locs ++ L) e1.symm (by rw [← e2]; exact X'.warmed.alike) hp hb k1 k2 k3 (by rw [e1]; exact hce) hcv hcl T' rfl X'
    exact ⟨t2, st.trans a1, b1⟩
theorem vx_calld {S SX : Type} {post : UInt64 → S → Prop} {px : SX → Prop} {B : S → State → Prop} {BX : String → SX → State → Prop} {AX : Nat → Prop} (hr : vx_Run p l e R s m args below meth c H locs cells slots mc ms (F0 m pc ls st0) rest (va_Qd post B A1 a) (vx_X px BX AX) free) (hS : va_S A0 H0 H locs) (hA : ∀ q, q < H.size → A1 q → A0 q) (hf : ∀ q, free q → A0 q) (hAX : ∀ q, q < H.size → AX q → A0 q)
    (kx : ∀ (E : String) (ce : Cell) (q9 : Addr) (u : SX) (t : State) (H1 : Heap) (locs1 : List Loc), t.heap = H1 → s.vm.Alike t.vm → px u → BX E u t → H.size ≤ H1.size → (∀ q : Nat, q < H.size → ¬ AX q → H1[q]? = H[q]?) → va_S A0 H0 H1 locs1 → H1[q9]? = some ce → ce.vm = .none → s.vm.findClass E = some ce.cls → vx_W p l e R s m args below meth c H1 locs1 (cells + mc) (slots + ms) Q (F0 m pc ls rest) q9)
    (kk : ∀ (r : UInt64) (u : S) (t : State) (H1 : Heap) (locs1 : List Loc), t.heap = H1 → s.vm.Alike t.vm → post r u → B u t → H.size ≤ H1.size → (∀ q : Nat, q < H.size → ¬ A1 q → H1[q]? = H[q]?) → va_S A0 H0 H1 locs1 → W p l e R s m args below meth c H1 locs1 (cells + mc) (slots + ms) Q (F0 m (pc + 3) ls (.double r :: rest))) : W p l e R s m args below meth c H locs cells slots Q (F0 m pc ls st0) := by
  intro T hT X
  rcases hr T hT X with ⟨v, st₀, t, T', L, h0, X', hL, e1, e2, ⟨⟨r, u, hv, hp, hb⟩, hF⟩, st⟩ | ⟨q, st₀, t, T', L, E, ce, h0, X', hL, e1, e2, ⟨u, hp, hb, hF⟩, hce, hcv, hcl, st⟩
  · cases hv
    obtain ⟨k1, k2, k3⟩ := vx_keep h0 e1 hS hA hf hL hF
    obtain ⟨t2, a1, b1⟩ := kk r u t T'.heap (locs ++ L) e1.symm (by rw [← e2]; exact X'.warmed.alike) hp hb k1 k2 k3 T' rfl X'
    exact ⟨t2, st t2 a1, b1⟩
  · obtain ⟨k1, k2, k3⟩ := vx_keep h0 e1 hS hAX hf hL hF
    obtain ⟨t2, a1, b1⟩ := kx E ce q u t T'.heap (locs ++ L) e1.symm (by rw [← e2]; exact X'.warmed.alike) hp hb k1 k2 k3 (by rw [e1]; exact hce) hcv hcl T' rfl X'
    exact ⟨t2, st.trans a1, b1⟩
theorem vx_callv {S SX : Type} {post : S → Prop} {px : SX → Prop} {B : S → State → Prop} {BX : String → SX → State → Prop} {AX : Nat → Prop} (hr : vx_Run p l e R s m args below meth c H locs cells slots mc ms (F0 m pc ls st0) rest (va_Qv post B A1 a) (vx_X px BX AX) free) (hS : va_S A0 H0 H locs) (hA : ∀ q, q < H.size → A1 q → A0 q) (hf : ∀ q, free q → A0 q) (hAX : ∀ q, q < H.size → AX q → A0 q)
    (kx : ∀ (E : String) (ce : Cell) (q9 : Addr) (u : SX) (t : State) (H1 : Heap) (locs1 : List Loc), t.heap = H1 → s.vm.Alike t.vm → px u → BX E u t → H.size ≤ H1.size → (∀ q : Nat, q < H.size → ¬ AX q → H1[q]? = H[q]?) → va_S A0 H0 H1 locs1 → H1[q9]? = some ce → ce.vm = .none → s.vm.findClass E = some ce.cls → vx_W p l e R s m args below meth c H1 locs1 (cells + mc) (slots + ms) Q (F0 m pc ls rest) q9)
    (kk : ∀ (u : S) (t : State) (H1 : Heap) (locs1 : List Loc), t.heap = H1 → s.vm.Alike t.vm → post u → B u t → H.size ≤ H1.size → (∀ q : Nat, q < H.size → ¬ A1 q → H1[q]? = H[q]?) → va_S A0 H0 H1 locs1 → W p l e R s m args below meth c H1 locs1 (cells + mc) (slots + ms) Q (F0 m (pc + 3) ls (rest))) : W p l e R s m args below meth c H locs cells slots Q (F0 m pc ls st0) := by
  intro T hT X
  rcases hr T hT X with ⟨v, st₀, t, T', L, h0, X', hL, e1, e2, ⟨⟨u, hv, hp, hb⟩, hF⟩, st⟩ | ⟨q, st₀, t, T', L, E, ce, h0, X', hL, e1, e2, ⟨u, hp, hb, hF⟩, hce, hcv, hcl, st⟩
  · cases hv
    obtain ⟨k1, k2, k3⟩ := vx_keep h0 e1 hS hA hf hL hF
    obtain ⟨t2, a1, b1⟩ := kk u t T'.heap (locs ++ L) e1.symm (by rw [← e2]; exact X'.warmed.alike) hp hb k1 k2 k3 T' rfl X'
    exact ⟨t2, st t2 a1, b1⟩
  · obtain ⟨k1, k2, k3⟩ := vx_keep h0 e1 hS hAX hf hL hF
    obtain ⟨t2, a1, b1⟩ := kx E ce q u t T'.heap (locs ++ L) e1.symm (by rw [← e2]; exact X'.warmed.alike) hp hb k1 k2 k3 (by rw [e1]; exact hce) hcv hcl T' rfl X'
    exact ⟨t2, st.trans a1, b1⟩
/-- caught by the row x of this method's table; the rows ahead don't take it -/
theorem vx_catch {own name : String} {E : String} {ce : Cell} {q : Addr} (hown : s.vm.findClass own = some m.cls) (pre : List ExceptionTableEntry) (x : ExceptionTableEntry) (suf : List ExceptionTableEntry) (hsplit : c.exceptionTable.toList = pre ++ x :: suf)
    (hpass : ∀ z ∈ pre, covers z pc = false ∨ (z.catchType ≠ 0 ∧ ∃ nm : String, (Cond.classLink own z.catchType nm).before args s = true ∧ va_Nc E nm s)) (hx : covers x pc = true) (h0 : x.catchType ≠ 0)
    (hlink : (Cond.classLink own x.catchType name).before args s = true) (hcast : (Cond.castable E name).before args s = true) (hcell : H[q]? = some ce) (hv : ce.vm = .none) (hcl : s.vm.findClass E = some ce.cls)
    (kk : W p l e R s m args below meth c H locs cells slots Q (F0 m x.handlerPc ls [.ref q])) : vx_W p l e R s m args below meth c H locs cells slots Q (F0 m pc ls rest) q := by
  intro T hT X
  have hpl : e.platform.magicAccessors = ({} : Platform).magicAccessors := by rw [X.admits.platform]
  obtain ⟨c3, c4, hc3, hc4, hasg⟩ := Cond.castable_spec hcast
  cases Option.some.inj (hc3.symm.trans hcl)
  obtain ⟨c5, hc5, hcl5⟩ := Cond.classLink_spec hown hlink e.platform hpl
  cases Option.some.inj (hc4.symm.trans hc5)
  obtain ⟨vm', X', st⟩ := X.thenCaughtThrough q (g := F0 m pc ls rest) rfl (Steps.refl _) (by rw [hT]; exact hcell) (by rw [hv]; rfl) (by obtain ⟨k9, h9, -⟩ := Vm.findClass_spec hcl; exact ⟨k9, h9⟩) pre x suf hsplit
    (fun z hz => by
      rcases hpass z hz with h | ⟨hz0, nm, hl1, hn1⟩
      · exact Or.inl h
      · obtain ⟨c6, hc6, hcl6⟩ := Cond.classLink_spec hown hl1 e.platform hpl
        obtain ⟨a8, b8, h1, h2, h3⟩ := hn1
        cases Option.some.inj (h1.symm.trans hcl)
        cases Option.some.inj (h2.symm.trans hc6)
        exact Or.inr ⟨hz0, _, hcl6, h3⟩) hx (Or.inr ⟨h0, c4, hcl5, hasg⟩)
  obtain ⟨t, a1, b1⟩ := kk (T.setVm vm') hT X'
  exact ⟨t, st.trans a1, b1⟩
end Rows
section Ends
variable {p : Program} {l : Launch} {e : Env} {R : Room} {s : State} {m : MethodId} {args : Array Value} {below : List Frame} {meth : Method} {c : Code} {H : Heap} {locs : List Loc} {cells slots : Nat} {Q : State → Prop}
variable {mc ms : Nat} {free : Addr → Prop} {A0 A1 : Nat → Prop} {H0 : Heap} {a : Array Value} {ls : Array Slot} {st0 rest : List Value}
variable {Qc : Array Value → State → Outcome → State → Prop} {XC : String → State → State → Prop}
/-- what a body that may throw owes at its end -/
def vx_MQ (below : List Frame) (Qc : Array Value → State → Outcome → State → Prop) (XC : String → State → State → Prop) (a : Array Value) (s : State) (mc ms : Nat) (free : Addr → Prop) : State → Prop := fun t =>
  ∃ o, t.status = .running ∧ Ended t below o ∧ vx_Q Qc XC mc ms free a s o t
theorem vx_ret {g : JFrame} {mc ms : Nat} (k : W p l e R s m args below meth c H locs cells slots (MQ below Qc args s mc ms free) g) : W p l e R s m args below meth c H locs cells slots (vx_MQ below Qc XC args s mc ms free) g := by
  intro T hT X
  obtain ⟨t, a1, o, b1, b2, b3, b4⟩ := k T hT X
  exact ⟨t, a1, o, b1, b2, Or.inl ⟨b3, b4⟩⟩
/-- not caught here: it goes on to the caller -/
theorem vx_widen {g : JFrame} {q : Addr} {k n : Nat} (h1 : cells ≤ k) (h2 : slots ≤ n) (kk : vx_W p l e R s m args below meth c H locs k n Q g q) : vx_W p l e R s m args below meth c H locs cells slots Q g q := fun T hT X => kk T hT (stand_widen X h1 h2)
theorem vx_out {pc : Nat} {E : String} {ce : Cell} {q : Addr} {mc ms : Nat} (hout : ∀ x ∈ c.exceptionTable.toList, covers x pc = false) (hlocks : meth.locks = false) (hcell : H[q]? = some ce) (hv : ce.vm = .none) (hcl : s.vm.findClass E = some ce.cls)
    (hx : ∀ t : State, t.heap = H → s.vm.Alike t.vm → XC E s t) (hf : ∀ z ∈ locs, free z.base) (hc : cells ≤ mc) (hs : slots ≤ ms) :
    vx_W p l e R s m args below meth c H locs cells slots (vx_MQ below Qc XC args s mc ms free) (F0 m pc ls rest) q := by
  intro T hT X
  obtain ⟨st1, hrun, hend, hW, hsm⟩ := X.leaveThrown q (g := F0 m pc ls rest) rfl rfl rfl hout hlocks
  have hcell9 : (T.setFrames (.throwing q :: below)).heap[q]? = some ce := by
    show T.heap[q]? = some ce
    rw [hT]; exact hcell
  exact ⟨_, st1, .threw q, hrun, hend, Or.inr ⟨q, rfl, E, ce, locs, hx _ hT hW.alike, hcell9, hv, hcl, hW, hsm.mono hc hs, hf⟩⟩
theorem vx_frame {U : State} {k n : Nat} (h : s.sameButNew ({ U with vm := s.vm } : State) locs k n) : s.heap.size ≤ U.heap.size ∧ ∀ q : Nat, q < s.heap.size → (∀ z ∈ locs, z.base ≠ q) → U.heap[q]? = s.heap[q]? := by
  obtain ⟨-, h2, -, -, -, h6⟩ := h
  refine ⟨h2, fun q hq hz => ?_⟩
  obtain ⟨c9, e1, e2, e3, e4⟩ := h6 q _ (Array.getElem?_eq_getElem hq)
  have hs : c9.slots = (s.heap[q]).slots := Array.ext_getElem? fun i => e4 i fun hm => hz _ hm rfl
  have h9 : c9 = s.heap[q] := by
    rw [hs] at e2
    exact e2
  have e5 : U.heap[q]? = some c9 := e1
  rw [e5, h9, Array.getElem?_eq_getElem hq]
/-- the words of a throw but the four that speak of the heap -/
def vx_no (w : Cond) : Bool := decide (w ≠ .isRef (.static Bundle.tN "UNASSIGNED_STACK" Bundle.steD)) && decide (w ≠ .isRef (.static Bundle.tN "SUPPRESSED_SENTINEL" Bundle.listD)) && decide (w ≠ .laysStatic Bundle.tN "UNASSIGNED_STACK" Bundle.steD) && decide (w ≠ .laysStatic Bundle.tN "SUPPRESSED_SENTINEL" Bundle.listD)
def vx_at0 (own : String) (ic : Nat) (X : String) (names : List String) : List Cond := (Bundle.ownAtoms0 own ic X names).filter vx_no
def vx_atS (own : String) (ic : Nat) (X : String) (names : List String) : List Cond := (Bundle.ownAtoms own ic X names).filter vx_no
/-- a word that the tables alone decide, or a good one -/
def vx_ot (w : Cond) : Bool := w.onTables || goodWord w
theorem vx_ot_at {args a' : Array Value} {s U : State} {w : Cond} (hW : s.WarmedH U.vm) (hvm : s.vm = U.vm) (hg : vx_ot w = true) (h : w.before args s = true) : w.before a' U = true := by
  simp only [vx_ot, Bool.or_eq_true] at hg
  rcases hg with hg | hg
  · exact va_tabs hg hvm h
  · exact word_at hW (good_of_word hg) h
/-- a list's words: the good ones out of the method's own list, the others by premises of their own -/
theorem vx_hat {args : Array Value} {s : State} {L B : List Cond} (h1 : ∀ w ∈ L.filter goodWord, w.before args s = true) (h2 : ∀ w ∈ L.filter (fun w => !goodWord w), w ∈ B) (h3 : ∀ w ∈ B, w.before args s = true) : ∀ w ∈ L, w.before args s = true := by
  intro w hw
  by_cases g : goodWord w = true
  · exact h1 w (List.mem_filter.mpr ⟨hw, g⟩)
  · refine h3 w (h2 w (List.mem_filter.mpr ⟨hw, ?_⟩))
    show (!goodWord w) = true
    cases hgw : goodWord w
    · rfl
    · exact absurd hgw g
theorem vx_c {args : Array Value} {s : State} {w : Cond} {B : List Cond} (h : w.before args s = true) (t : ∀ w ∈ B, w.before args s = true) : ∀ w' ∈ w :: B, w'.before args s = true := fun w' h' => (List.mem_cons.mp h').elim (fun e => by rw [e]; exact h) (t w')
theorem vx_n {args : Array Value} {s : State} : ∀ w ∈ ([] : List Cond), w.before args s = true := fun _ h => nomatch h
theorem vx_own {args : Array Value} {s : State} {L : List Cond} (h1 : ∀ w ∈ L.filter vx_no, w.before args s = true)
    (hU : (Cond.isRef (.static Bundle.tN "UNASSIGNED_STACK" Bundle.steD)).before args s = true) (hN : (Cond.isRef (.static Bundle.tN "SUPPRESSED_SENTINEL" Bundle.listD)).before args s = true)
    (lU : (Cond.laysStatic Bundle.tN "UNASSIGNED_STACK" Bundle.steD).before args s = true) (lN : (Cond.laysStatic Bundle.tN "SUPPRESSED_SENTINEL" Bundle.listD).before args s = true) : ∀ w ∈ L, w.before args s = true := by
  intro w hw
  by_cases e1 : w = .isRef (.static Bundle.tN "UNASSIGNED_STACK" Bundle.steD)
  · rw [e1]; exact hU
  · by_cases e2 : w = .isRef (.static Bundle.tN "SUPPRESSED_SENTINEL" Bundle.listD)
    · rw [e2]; exact hN
    · by_cases e3 : w = .laysStatic Bundle.tN "UNASSIGNED_STACK" Bundle.steD
      · rw [e3]; exact lU
      · by_cases e4 : w = .laysStatic Bundle.tN "SUPPRESSED_SENTINEL" Bundle.listD
        · rw [e4]; exact lN
        · exact h1 w (List.mem_filter.mpr ⟨hw, by unfold vx_no; rw [decide_eq_true e1, decide_eq_true e2, decide_eq_true e3, decide_eq_true e4]; rfl⟩)
/-- where a static field lies, its class's statics cell in H -/
def vx_L (C n d : String) (A : Nat → Prop) (U : State) (H : Heap) : Prop := ∃ (c : ClassId) (k : Class) (i : Nat) (f : Field) (a : Nat) (cell : Cell), U.vm.findClass C = some c ∧ U.fieldFound? C n d = some (c, k, i, f) ∧ f.isStatic = true ∧ k.statics = some a ∧ H[a]? = some cell ∧ cell.vm.isStatics = true ∧ cell.cls = c ∧ f.slot < cell.slots.size ∧ k.staticTypes[f.slot]? = some f.type ∧ ¬ A a
theorem vx_L.moved {C n d : String} {A : Nat → Prop} {u U : State} {H : Heap} (hvm : u.vm.Alike U.vm) (h : vx_L C n d A u H) : vx_L C n d A U H := by
  obtain ⟨c, k, i, f, a, cell, h1, h2, h3, h4, h5, h6, h7, h8, h9, h10⟩ := h
  obtain ⟨k', hi', he⟩ := State.fieldFound?_setVm hvm h2
  exact ⟨c, k', i, f, a, cell, by rw [hvm.findClass]; exact h1, hi', h3, by rw [he]; exact h4, h5, h6, h7, h8, by rw [he]; exact h9, h10⟩
theorem vx_L.kept {C n d : String} {A : Nat → Prop} {U : State} {H H1 : Heap} (h : vx_L C n d A U H) (hq : ∀ a : Nat, a < H.size → ¬ A a → H1[a]? = H[a]?) : vx_L C n d A U H1 := by
  obtain ⟨c, k, i, f, a, cell, h1, h2, h3, h4, h5, h6, h7, h8, h9, h10⟩ := h
  exact ⟨c, k, i, f, a, cell, h1, h2, h3, h4, by rw [hq a (Array.getElem?_eq_some_iff.mp h5).1 h10]; exact h5, h6, h7, h8, h9, h10⟩
theorem vx_L.narrow {C n d : String} {A B : Nat → Prop} {U : State} {H : Heap} (h : vx_L C n d A U H) (hAB : ∀ q, B q → A q) : vx_L C n d B U H := by
  obtain ⟨c, k, i, f, a, cell, h1, h2, h3, h4, h5, h6, h7, h8, h9, h10⟩ := h
  exact ⟨c, k, i, f, a, cell, h1, h2, h3, h4, h5, h6, h7, h8, h9, fun z => h10 (hAB _ z)⟩
theorem vx_L.word {C n d : String} {A : Nat → Prop} {s : State} {args : Array Value} (h : vx_L C n d A s s.heap) : (Cond.laysStatic C n d).before args s = true := by
  obtain ⟨c, k, i, f, a, cell, h1, h2, h3, h4, h5, h6, h7, h8, h9, -⟩ := h
  show (Cond.laysStatic C n d).holds args s none s [] = true
  exact Cond.laysStatic_of h1 h2 h3 h4 h5 h6 h7 h8 h9
/-- .. and what it holds: null or some reference -/
def vx_Zq (C n d : String) (A : Nat → Prop) (U : State) (H : Heap) : Prop := va_Zq C n d A U H ∧ vx_L C n d A U H
theorem vx_Zq.moved {C n d : String} {A : Nat → Prop} {u U : State} {H : Heap} (hvm : u.vm.Alike U.vm) (h : vx_Zq C n d A u H) : vx_Zq C n d A U H := ⟨va_Zq.moved hvm h.1, vx_L.moved hvm h.2⟩
theorem vx_Zq.kept {C n d : String} {A : Nat → Prop} {U : State} {H H1 : Heap} (h : vx_Zq C n d A U H) (hq : ∀ a : Nat, a < H.size → ¬ A a → H1[a]? = H[a]?) : vx_Zq C n d A U H1 := ⟨va_Zq.kept h.1 hq, vx_L.kept h.2 hq⟩
theorem vx_Zq.narrow {C n d : String} {A B : Nat → Prop} {U : State} {H : Heap} (h : vx_Zq C n d A U H) (hAB : ∀ q, B q → A q) : vx_Zq C n d B U H := ⟨va_Zq.narrow h.1 hAB, vx_L.narrow h.2 hAB⟩
theorem vx_Zqof {args : Array Value} {s : State} {C n d : String} {A : Nat → Prop} (hl : (Cond.laysStatic C n d).before args s = true) (hini : (Cond.initialized C).before args s = true) (h : (Cond.isRef (.static C n d)).before args s = true) (hA : ∀ a : Nat, a < s.heap.size → ¬ A a) : vx_Zq C n d A s s.heap := by
  refine ⟨va_Zqof hl hini h hA, ?_⟩
  obtain ⟨c, k, i, f, a, cell, h1, h2, h3, h4, h5, h6, h7, h8, h9⟩ := Cond.laysStatic_spec hl
  exact ⟨c, k, i, f, a, cell, h1, h2, h3, h4, h5, h6, h7, h8, h9, hA a (Array.getElem?_eq_some_iff.mp h5).1⟩
theorem vx_isRef {C n d : String} {v : Value} {A : Nat → Prop} {s : State} {args : Array Value} (h : va_Z C n d v A s s.heap) (hv : v.isRef = true) : (Cond.isRef (.static C n d)).before args s = true := by
  obtain ⟨cf, kf, fi, f, a, cell, h1, h2, h3, h4, h5, h6, h7, -⟩ := h
  have he : (Term.static C n d).eval args s none [] s = some v := by
    simp [Term.eval, State.fieldNamed?, h1, h2, h4, h5, h6, h7]
  simp only [Cond.before, Cond.holds, Cond.value, he]
  cases v <;> simp_all [Value.isRef]
theorem vx_isRefq {C n d : String} {A : Nat → Prop} {s : State} {args : Array Value} (h : va_Zq C n d A s s.heap) : (Cond.isRef (.static C n d)).before args s = true := by
  rcases h with h | ⟨t, h⟩
  · exact vx_isRef h rfl
  · exact vx_isRef h rfl
/-- the same frame, seen from here: as if the method were called anew in this heap -/
theorem vx_rebase {T : State} (X : Stand p l e R s m args below meth c T locs cells slots) {R' : Room} (hf : R'.frames ≤ R.frames) (hl : R'.locals ≤ R.locals) (hc : cells + R'.cells ≤ R.cells) (hs : slots + R'.slots ≤ R.slots) :
    Stand p l e R' ((T.setVm s.vm).setFrames (.invoking m args :: below)) m args below meth c T [] 0 0 := by
  have htop : (T.setVm s.vm).topJava?.isSome := X.here.top
  have hF : ((T.setVm s.vm).setFrames (.invoking m args :: below)).frames = .invoking m args :: below := State.frames_setFrames _ (State.cur_lt_of_top htop)
  obtain ⟨g₀, hg0⟩ := Option.isSome_iff_exists.mp htop
  obtain ⟨r, hr⟩ := State.topJava?_eq_some.mp hg0
  have hl9 : e.platform.stackLimits (T.setVm s.vm).me = e.platform.stackLimits s.me := X.limits
  have hb9 : (T.setVm s.vm).me.stackBytes = s.me.stackBytes := X.bytes
  refine ⟨X.admits, X.cas, X.clock, hF, ?_, X.hears, X.method, X.code, X.here, X.tail, X.warmed, ?_, ?_, ?_⟩
  · have h := X.room
    have hU : ((T.setVm s.vm).setFrames (.invoking m args :: below)).localsInUse = s.localsInUse := by
      rw [State.localsInUse_invoking hF (meth := meth) (c := c) X.method X.code, State.localsInUse_invoking X.frames X.method X.code]
    simp only [State.hasRoom, Bool.and_eq_true, decide_eq_true_eq] at h ⊢
    obtain ⟨⟨⟨⟨h1, h2, h3, h4, h5, h6⟩, h7⟩, h8⟩, h9⟩ := h
    rw [X.frames, List.length_cons] at h2 h3
    have q1 := X.heapSize
    have q2 := X.used
    simp only [hF, hU, List.length_cons, State.stackLimits_setFrames, State.stackBytes_setFrames, hl9, hb9]
    refine ⟨⟨⟨⟨by omega, by omega, by omega, by omega, by omega, h6⟩, ?_⟩, ?_⟩, X.book⟩
    · show T.heap.size + R'.cells ≤ e.platform.maxCells
      omega
    · show T.slotsUsed + R'.slots ≤ e.platform.maxSlots
      omega
  · rw [State.stackLimits_setFrames]; rfl
  · rw [State.stackBytes_setFrames]; rfl
  · refine ⟨?_, Nat.le_refl _, Nat.le_refl _, ?_, ?_, fun a c9 h9 => ⟨c9, h9, rfl, rfl, fun _ _ => rfl⟩⟩
    · obtain ⟨t, ht, -⟩ := State.frames_cons hr
      show T.setVm s.vm = { ((T.setVm s.vm).setFrames (.invoking m args :: below)).setFrames (T.setVm s.vm).frames with heap := T.heap, slotsUsed := T.slotsUsed }
      rw [State.setFrames_setFrames, State.setFrames_self ht]
      rfl
    · show T.slotsUsed = T.slotsUsed + ((T.heap.toList.drop T.heap.size).map (·.slots.size)).sum
      rw [List.drop_eq_nil_of_le (Nat.le_of_eq Array.length_toList)]
      rfl
    · show ((T.heap.toList.drop T.heap.size).map (·.slots.size)).sum ≤ 0
      rw [List.drop_eq_nil_of_le (Nat.le_of_eq Array.length_toList)]
      exact Nat.le_refl _
/-- 'throw new E()': new; dup; invokespecial; athrow -/
theorem vx_throw0 {cc : ByteArray} {pc : Nat} (hexec : p.tables.exec = Jvm.exec) (hb : c.code = cc) (hl : l.stackTraces = false) {own cls : String} {names : List String} {ik ic mc ms : Nat} {A : Nat → Prop}
    (hown : s.vm.findClass own = some m.cls) (hcls : Bundle.fit cls = true) (hnames : ∀ n ∈ names, Bundle.fit n = true)
    (hk : (Cond.classLink own ik cls).before args s = true) (hini : (Cond.initialized cls).before args s = true) (hat : ∀ w ∈ vx_at0 own ic cls names, w.before args s = true)
    (hgood : ∀ w ∈ Cond.classLink own ik cls :: Cond.initialized cls :: vx_at0 own ic cls names, vx_ot w = true)
    (hU : vx_Zq Bundle.tN "UNASSIGNED_STACK" Bundle.steD A s s.heap) (hN : vx_Zq Bundle.tN "SUPPRESSED_SENTINEL" Bundle.listD A s s.heap) (hS : va_S A s.heap H locs) (hsize : ls.size = c.maxLocals)
    (d0 : decode cc pc = .ok (.new ik, 3)) (d3 : decode cc (pc + 3) = .ok (.dup, 1)) (d4 : decode cc (pc + 4) = .ok (.invokespecial ic, 3)) (d7 : decode cc (pc + 7) = .ok (.athrow, 1))
    (hout : ∀ x ∈ c.exceptionTable.toList, covers x (pc + 7) = false)
    (hRframes : names.length + 3 < R.frames) (hRlocals : (rest.map fun v => v.category).sum + (13 * (names.length + 1) + 42) ≤ R.locals) (hRcells : cells + 1 ≤ R.cells) (hRslots : slots + 6 ≤ R.slots) (hlocks : meth.locks = false)
    (hx : ∀ t : State, s.vm.Alike t.vm → H.size ≤ t.heap.size → (∀ q : Nat, q < H.size → t.heap[q]? = H[q]?) → XC cls s t)
    (hf : ∀ z ∈ locs, free z.base) (hc : cells + 1 ≤ mc) (hs : slots + 6 ≤ ms) :
    W p l e R s m args below meth c H locs cells slots (vx_MQ below Qc XC args s mc ms free) (F0 m pc ls rest) := by
  intro T hT X
  have htr : e.platform.stackTraces = false := (show e.platform.stackTraces = l.stackTraces by rw [X.admits.platform]).trans hl
  have Y := vx_rebase X (R' := { frames := R.frames, locals := R.locals, cells := 1, slots := 6 }) (Nat.le_refl _) (Nat.le_refl _) hRcells hRslots
  obtain ⟨s', hA⟩ : ∃ z, z = (T.setVm s.vm).setFrames (.invoking m args :: below) := ⟨_, rfl⟩
  rw [← hA] at Y
  have hvm : s'.vm = s.vm := by rw [hA]; rfl
  have hhp : s'.heap = H := by rw [hA]; exact hT
  have hW0 : s.WarmedH s'.vm := by rw [hvm]; exact State.WarmedH.refl s
  have hat' : ∀ w ∈ vx_at0 own ic cls names, w.before args s' = true := fun w hw => vx_ot_at hW0 hvm.symm (hgood w (List.mem_cons_of_mem _ (List.mem_cons_of_mem _ hw))) (hat w hw)
  have hk' : (Cond.classLink own ik cls).before args s' = true := vx_ot_at hW0 hvm.symm (hgood _ List.mem_cons_self) hk
  have hini' : (Cond.initialized cls).before args s' = true := vx_ot_at hW0 hvm.symm (hgood _ (List.mem_cons_of_mem _ List.mem_cons_self)) hini
  have hU' : vx_Zq Bundle.tN "UNASSIGNED_STACK" Bundle.steD A s' s'.heap := by rw [hhp]; exact vx_Zq.moved hW0.alike (hU.kept hS.2.1)
  have hN' : vx_Zq Bundle.tN "SUPPRESSED_SENTINEL" Bundle.listD A s' s'.heap := by rw [hhp]; exact vx_Zq.moved hW0.alike (hN.kept hS.2.1)
  have h : ∀ w ∈ Bundle.ownAtoms0 own ic cls names, w.before args s' = true := vx_own hat' (vx_isRefq hU'.1) (vx_isRefq hN'.1) hU'.2.word hN'.2.word
  have hown' : s'.vm.findClass own = some m.cls := by rw [hvm]; exact hown
  have hins : (Cond.instantiable cls 6).before args s' = true := h _ (by simp [Bundle.ownAtoms0])
  obtain ⟨vm₁, cX, kX, hfX, hkX, -, -, X₁, st1⟩ := Y.newCold hexec (own := own) (C := cls) (index := ik) (n := 6) hown' hk' hins hini'
    (g := F0 m pc ls rest) rfl (by rw [hb]; exact d0) (Nat.le_refl _) (Nat.le_refl _)
  generalize hT1 : (T.setVm vm₁).pushCell { cls := cX, slots := kX.instanceTypes.map defaultValue, vm := .none } = T1 at X₁ st1
  have hcat : (Value.ref T.heap.size).category = 1 := rfl
  have hcellA : T1.heap[T.heap.size]? = some (freshCell cX kX) := by rw [← hT1]; exact State.heap_pushCell_size _ _
  have d3' : decode c.code (pc + 3) = .ok (.dup, 1) := by rw [hb]; exact d3
  obtain ⟨U, hsteps, hrun, hend, hW, hsame, ce, hce, hO⟩ := X₁.ctorThrow0 hexec htr (own := own) (cls := cls) (names := names) (ic := ic) hown' hcls hnames h (fun x hx => nomatch hx) hfX hkX hcellA (by rw [hhp, hT]; exact Nat.le_refl _)
    (g := { method := m, pc := pc + 4, locals := ls, stack := .ref T.heap.size :: .ref T.heap.size :: rest, locked := none }) rfl hsize rfl rfl (rest := rest) rfl
    (by rw [hb]; exact d4) (by rw [hb]; exact d7) hout hRframes (by simp only [List.map_cons, List.sum_cons, hcat]; omega) hlocks
  obtain ⟨f1, f2⟩ := vx_frame hsame
  rw [hhp] at f1 f2
  have hWs : s.WarmedH U.vm := State.WarmedH.trans hW0 hW
  have hcl : s.vm.findClass cls = some ce.cls := by
    have h9 := hO.cls
    rw [hvm] at h9
    exact h9
  have hall : s.sameButNew ({ U with vm := s.vm } : State) locs mc ms := by
    subst hA
    obtain ⟨e1, e2⟩ := hsame
    rw [State.setFrames_setFrames] at e1
    have h2 : (T.setVm s.vm).sameButNew ({ U with vm := s.vm } : State) [] (0 + 1) (0 + 6) := ⟨e1, e2⟩
    have h3 := X.same.trans h2
    rw [List.append_nil] at h3
    exact h3.mono hc hs
  refine ⟨U, ?_, .threw T.heap.size, hrun, hend, Or.inr ⟨T.heap.size, rfl, cls, ce, locs, hx U hWs.alike f1 (fun q hq => f2 q hq (fun z hz => nomatch hz)), hce, hO.vm, hcl, hWs, hall, hf⟩⟩
  refine st1 _ ?_
  show Steps p.tables e below (T1.setTop { method := m, pc := pc + 3, locals := ls, stack := .ref T.heap.size :: rest, locked := none }) _
  jvm_step X₁.here [X₁.here.top, hexec, d3', Value.category]
  exact hsteps
/-- 'throw new E("text")': new; dup; ldc; invokespecial; athrow -/
theorem vx_throwS {cc : ByteArray} {pc : Nat} (hexec : p.tables.exec = Jvm.exec) (hb : c.code = cc) (hl : l.stackTraces = false) {own cls text : String} {names : List String} {ik is ic mc ms sa : Nat} {A : Nat → Prop}
    (hown : s.vm.findClass own = some m.cls) (hcls : Bundle.fit cls = true) (hnames : ∀ n ∈ names, Bundle.fit n = true)
    (hk : (Cond.classLink own ik cls).before args s = true) (hini : (Cond.initialized cls).before args s = true) (hstr : vk_R own is text sa s) (hat : ∀ w ∈ vx_atS own ic cls names, w.before args s = true)
    (hgood : ∀ w ∈ Cond.classLink own ik cls :: Cond.initialized cls :: vx_atS own ic cls names, vx_ot w = true)
    (hU : vx_Zq Bundle.tN "UNASSIGNED_STACK" Bundle.steD A s s.heap) (hN : vx_Zq Bundle.tN "SUPPRESSED_SENTINEL" Bundle.listD A s s.heap) (hS : va_S A s.heap H locs) (hsize : ls.size = c.maxLocals)
    (d0 : decode cc pc = .ok (.new ik, 3)) (d3 : decode cc (pc + 3) = .ok (.dup, 1)) (d4 : decode cc (pc + 4) = .ok (.ldc is, 2)) (d6 : decode cc (pc + 6) = .ok (.invokespecial ic, 3)) (d9 : decode cc (pc + 9) = .ok (.athrow, 1))
    (hout : ∀ x ∈ c.exceptionTable.toList, covers x (pc + 9) = false)
    (hRframes : names.length + 3 < R.frames) (hRlocals : (rest.map fun v => v.category).sum + (13 * (names.length + 1) + 43) ≤ R.locals) (hRcells : cells + 1 ≤ R.cells) (hRslots : slots + 6 ≤ R.slots) (hlocks : meth.locks = false)
    (hx : ∀ t : State, s.vm.Alike t.vm → H.size ≤ t.heap.size → (∀ q : Nat, q < H.size → t.heap[q]? = H[q]?) → XC cls s t)
    (hf : ∀ z ∈ locs, free z.base) (hc : cells + 1 ≤ mc) (hs : slots + 6 ≤ ms) :
    W p l e R s m args below meth c H locs cells slots (vx_MQ below Qc XC args s mc ms free) (F0 m pc ls rest) := by
  intro T hT X
  have htr : e.platform.stackTraces = false := (show e.platform.stackTraces = l.stackTraces by rw [X.admits.platform]).trans hl
  have Y := vx_rebase X (R' := { frames := R.frames, locals := R.locals, cells := 1, slots := 6 }) (Nat.le_refl _) (Nat.le_refl _) hRcells hRslots
  obtain ⟨s', hA⟩ : ∃ z, z = (T.setVm s.vm).setFrames (.invoking m args :: below) := ⟨_, rfl⟩
  rw [← hA] at Y
  have hvm : s'.vm = s.vm := by rw [hA]; rfl
  have hhp : s'.heap = H := by rw [hA]; exact hT
  have hW0 : s.WarmedH s'.vm := by rw [hvm]; exact State.WarmedH.refl s
  have hat' : ∀ w ∈ vx_atS own ic cls names, w.before args s' = true := fun w hw => vx_ot_at hW0 hvm.symm (hgood w (List.mem_cons_of_mem _ (List.mem_cons_of_mem _ hw))) (hat w hw)
  have hk' : (Cond.classLink own ik cls).before args s' = true := vx_ot_at hW0 hvm.symm (hgood _ List.mem_cons_self) hk
  have hini' : (Cond.initialized cls).before args s' = true := vx_ot_at hW0 hvm.symm (hgood _ (List.mem_cons_of_mem _ List.mem_cons_self)) hini
  have hU' : vx_Zq Bundle.tN "UNASSIGNED_STACK" Bundle.steD A s' s'.heap := by rw [hhp]; exact vx_Zq.moved hW0.alike (hU.kept hS.2.1)
  have hN' : vx_Zq Bundle.tN "SUPPRESSED_SENTINEL" Bundle.listD A s' s'.heap := by rw [hhp]; exact vx_Zq.moved hW0.alike (hN.kept hS.2.1)
  have h : ∀ w ∈ Bundle.ownAtoms own ic cls names, w.before args s' = true := vx_own hat' (vx_isRefq hU'.1) (vx_isRefq hN'.1) hU'.2.word hN'.2.word
  have hown' : s'.vm.findClass own = some m.cls := by rw [hvm]; exact hown
  have hins : (Cond.instantiable cls 6).before args s' = true := h _ (by simp [Bundle.ownAtoms])
  obtain ⟨vm₁, cX, kX, hfX, hkX, -, -, X₁, st1⟩ := Y.newCold hexec (own := own) (C := cls) (index := ik) (n := 6) hown' hk' hins hini'
    (g := F0 m pc ls rest) rfl (by rw [hb]; exact d0) (Nat.le_refl _) (Nat.le_refl _)
  generalize hT1 : (T.setVm vm₁).pushCell { cls := cX, slots := kX.instanceTypes.map defaultValue, vm := .none } = T1 at X₁ st1
  have hcat : (Value.ref T.heap.size).category = 1 := rfl
  have hcellA : T1.heap[T.heap.size]? = some (freshCell cX kX) := by rw [← hT1]; exact State.heap_pushCell_size _ _
  have d3' : decode c.code (pc + 3) = .ok (.dup, 1) := by rw [hb]; exact d3
  have d4' : decode c.code (pc + 4) = .ok (.ldc is, 2) := by rw [hb]; exact d4
  have hstr' : vk_R own is text sa s' := vk_R.warm hW0 hstr
  obtain ⟨U, hsteps, hrun, hend, hW, hsame, ce, hce, hO⟩ := X₁.ctorThrowS hexec htr (own := own) (cls := cls) (names := names) (ic := ic) hown' hcls hnames h (fun x hx => nomatch hx) hfX hkX hcellA (by rw [hhp, hT]; exact Nat.le_refl _) (msg := .ref sa) rfl
    (g := { method := m, pc := pc + 6, locals := ls, stack := .ref sa :: .ref T.heap.size :: .ref T.heap.size :: rest, locked := none }) rfl hsize rfl rfl (rest := rest) rfl
    (by rw [hb]; exact d6) (by rw [hb]; exact d9) hout hRframes (by simp only [List.map_cons, List.sum_cons, hcat]; omega) hlocks
  obtain ⟨f1, f2⟩ := vx_frame hsame
  rw [hhp] at f1 f2
  have hWs : s.WarmedH U.vm := State.WarmedH.trans hW0 hW
  have hcl : s.vm.findClass cls = some ce.cls := by
    have h9 := hO.cls
    rw [hvm] at h9
    exact h9
  have hall : s.sameButNew ({ U with vm := s.vm } : State) locs mc ms := by
    subst hA
    obtain ⟨e1, e2⟩ := hsame
    rw [State.setFrames_setFrames] at e1
    have h2 : (T.setVm s.vm).sameButNew ({ U with vm := s.vm } : State) [] (0 + 1) (0 + 6) := ⟨e1, e2⟩
    have h3 := X.same.trans h2
    rw [List.append_nil] at h3
    exact h3.mono hc hs
  refine ⟨U, ?_, .threw T.heap.size, hrun, hend, Or.inr ⟨T.heap.size, rfl, cls, ce, locs, hx U hWs.alike f1 (fun q hq => f2 q hq (fun z hz => nomatch hz)), hce, hO.vm, hcl, hWs, hall, hf⟩⟩
  refine st1 _ ?_
  show Steps p.tables e below (T1.setTop { method := m, pc := pc + 3, locals := ls, stack := .ref T.heap.size :: rest, locked := none }) _
  jvm_step X₁.here [X₁.here.top, hexec, d3', Value.category]
  exact X₁.ldcString hexec (own := own) (text := text) (index := is) (a := sa) hown' hstr'.1 hstr'.2
    (g := { method := m, pc := pc + 4, locals := ls, stack := .ref T.heap.size :: .ref T.heap.size :: rest, locked := none }) rfl d4' _ hsteps
/-- 'throw new E("text")', the text by a wide index -/
theorem vx_throwSW {cc : ByteArray} {pc : Nat} (hexec : p.tables.exec = Jvm.exec) (hb : c.code = cc) (hl : l.stackTraces = false) {own cls text : String} {names : List String} {ik is ic mc ms sa : Nat} {A : Nat → Prop}
    (hown : s.vm.findClass own = some m.cls) (hcls : Bundle.fit cls = true) (hnames : ∀ n ∈ names, Bundle.fit n = true)
    (hk : (Cond.classLink own ik cls).before args s = true) (hini : (Cond.initialized cls).before args s = true) (hstr : vk_R own is text sa s) (hat : ∀ w ∈ vx_atS own ic cls names, w.before args s = true)
    (hgood : ∀ w ∈ Cond.classLink own ik cls :: Cond.initialized cls :: vx_atS own ic cls names, vx_ot w = true)
    (hU : vx_Zq Bundle.tN "UNASSIGNED_STACK" Bundle.steD A s s.heap) (hN : vx_Zq Bundle.tN "SUPPRESSED_SENTINEL" Bundle.listD A s s.heap) (hS : va_S A s.heap H locs) (hsize : ls.size = c.maxLocals)
    (d0 : decode cc pc = .ok (.new ik, 3)) (d3 : decode cc (pc + 3) = .ok (.dup, 1)) (d4 : decode cc (pc + 4) = .ok (.ldc_w is, 3)) (d7 : decode cc (pc + 7) = .ok (.invokespecial ic, 3)) (d10 : decode cc (pc + 10) = .ok (.athrow, 1))
    (hout : ∀ x ∈ c.exceptionTable.toList, covers x (pc + 10) = false)
    (hRframes : names.length + 3 < R.frames) (hRlocals : (rest.map fun v => v.category).sum + (13 * (names.length + 1) + 43) ≤ R.locals) (hRcells : cells + 1 ≤ R.cells) (hRslots : slots + 6 ≤ R.slots) (hlocks : meth.locks = false)
    (hx : ∀ t : State, s.vm.Alike t.vm → H.size ≤ t.heap.size → (∀ q : Nat, q < H.size → t.heap[q]? = H[q]?) → XC cls s t)
    (hf : ∀ z ∈ locs, free z.base) (hc : cells + 1 ≤ mc) (hs : slots + 6 ≤ ms) :
    W p l e R s m args below meth c H locs cells slots (vx_MQ below Qc XC args s mc ms free) (F0 m pc ls rest) := by
  intro T hT X
  have htr : e.platform.stackTraces = false := (show e.platform.stackTraces = l.stackTraces by rw [X.admits.platform]).trans hl
  have Y := vx_rebase X (R' := { frames := R.frames, locals := R.locals, cells := 1, slots := 6 }) (Nat.le_refl _) (Nat.le_refl _) hRcells hRslots
  obtain ⟨s', hA⟩ : ∃ z, z = (T.setVm s.vm).setFrames (.invoking m args :: below) := ⟨_, rfl⟩
  rw [← hA] at Y
  have hvm : s'.vm = s.vm := by rw [hA]; rfl
  have hhp : s'.heap = H := by rw [hA]; exact hT
  have hW0 : s.WarmedH s'.vm := by rw [hvm]; exact State.WarmedH.refl s
  have hat' : ∀ w ∈ vx_atS own ic cls names, w.before args s' = true := fun w hw => vx_ot_at hW0 hvm.symm (hgood w (List.mem_cons_of_mem _ (List.mem_cons_of_mem _ hw))) (hat w hw)
  have hk' : (Cond.classLink own ik cls).before args s' = true := vx_ot_at hW0 hvm.symm (hgood _ List.mem_cons_self) hk
  have hini' : (Cond.initialized cls).before args s' = true := vx_ot_at hW0 hvm.symm (hgood _ (List.mem_cons_of_mem _ List.mem_cons_self)) hini
  have hU' : vx_Zq Bundle.tN "UNASSIGNED_STACK" Bundle.steD A s' s'.heap := by rw [hhp]; exact vx_Zq.moved hW0.alike (hU.kept hS.2.1)
  have hN' : vx_Zq Bundle.tN "SUPPRESSED_SENTINEL" Bundle.listD A s' s'.heap := by rw [hhp]; exact vx_Zq.moved hW0.alike (hN.kept hS.2.1)
  have h : ∀ w ∈ Bundle.ownAtoms own ic cls names, w.before args s' = true := vx_own hat' (vx_isRefq hU'.1) (vx_isRefq hN'.1) hU'.2.word hN'.2.word
  have hown' : s'.vm.findClass own = some m.cls := by rw [hvm]; exact hown
  have hins : (Cond.instantiable cls 6).before args s' = true := h _ (by simp [Bundle.ownAtoms])
  obtain ⟨vm₁, cX, kX, hfX, hkX, -, -, X₁, st1⟩ := Y.newCold hexec (own := own) (C := cls) (index := ik) (n := 6) hown' hk' hins hini'
    (g := F0 m pc ls rest) rfl (by rw [hb]; exact d0) (Nat.le_refl _) (Nat.le_refl _)
  generalize hT1 : (T.setVm vm₁).pushCell { cls := cX, slots := kX.instanceTypes.map defaultValue, vm := .none } = T1 at X₁ st1
  have hcat : (Value.ref T.heap.size).category = 1 := rfl
  have hcellA : T1.heap[T.heap.size]? = some (freshCell cX kX) := by rw [← hT1]; exact State.heap_pushCell_size _ _
  have d3' : decode c.code (pc + 3) = .ok (.dup, 1) := by rw [hb]; exact d3
  have d4' : decode c.code (pc + 4) = .ok (.ldc_w is, 3) := by rw [hb]; exact d4
  have hstr' : vk_R own is text sa s' := vk_R.warm hW0 hstr
  obtain ⟨U, hsteps, hrun, hend, hW, hsame, ce, hce, hO⟩ := X₁.ctorThrowS hexec htr (own := own) (cls := cls) (names := names) (ic := ic) hown' hcls hnames h (fun x hx => nomatch hx) hfX hkX hcellA (by rw [hhp, hT]; exact Nat.le_refl _) (msg := .ref sa) rfl
    (g := { method := m, pc := pc + 7, locals := ls, stack := .ref sa :: .ref T.heap.size :: .ref T.heap.size :: rest, locked := none }) rfl hsize rfl rfl (rest := rest) rfl
    (by rw [hb]; exact d7) (by rw [hb]; exact d10) hout hRframes (by simp only [List.map_cons, List.sum_cons, hcat]; omega) hlocks
  obtain ⟨f1, f2⟩ := vx_frame hsame
  rw [hhp] at f1 f2
  have hWs : s.WarmedH U.vm := State.WarmedH.trans hW0 hW
  have hcl : s.vm.findClass cls = some ce.cls := by
    have h9 := hO.cls
    rw [hvm] at h9
    exact h9
  have hall : s.sameButNew ({ U with vm := s.vm } : State) locs mc ms := by
    subst hA
    obtain ⟨e1, e2⟩ := hsame
    rw [State.setFrames_setFrames] at e1
    have h2 : (T.setVm s.vm).sameButNew ({ U with vm := s.vm } : State) [] (0 + 1) (0 + 6) := ⟨e1, e2⟩
    have h3 := X.same.trans h2
    rw [List.append_nil] at h3
    exact h3.mono hc hs
  refine ⟨U, ?_, .threw T.heap.size, hrun, hend, Or.inr ⟨T.heap.size, rfl, cls, ce, locs, hx U hWs.alike f1 (fun q hq => f2 q hq (fun z hz => nomatch hz)), hce, hO.vm, hcl, hWs, hall, hf⟩⟩
  refine st1 _ ?_
  show Steps p.tables e below (T1.setTop { method := m, pc := pc + 3, locals := ls, stack := .ref T.heap.size :: rest, locked := none }) _
  jvm_step X₁.here [X₁.here.top, hexec, d3', Value.category]
  exact X₁.ldcStringW hexec (own := own) (text := text) (index := is) (a := sa) hown' hstr'.1 hstr'.2
    (g := { method := m, pc := pc + 4, locals := ls, stack := .ref T.heap.size :: .ref T.heap.size :: rest, locked := none }) rfl d4' _ hsteps
end Ends
section Bodies
variable {l : Launch}
theorem vx_ofW {y : MethodName} {ws ws' : List Cond} {rm : Room} {Pc : Array Value → State → Prop} {Qc : Array Value → State → Outcome → State → Prop} {XC : String → State → State → Prop} {mc ms : Nat} {free : Addr → Prop} {cc : ByteArray} {maxL : Nat} {ret : Option FieldType}
    (hy : plainName y.cls = true) (hw : ws = Cond.code y cc maxL ret :: ws')
    (body : ∀ p e s m args below meth c s₁, BodyLoose p l y (headSpec ws rm) cc maxL ret e s m args below meth c s₁ → c.maxLocals = maxL → (∀ x ∈ c.exceptionTable.toList, False) → Pc args s →
      W p l e (headSpec ws rm).room s m args below meth c s.heap [] 0 0 (vx_MQ below Qc XC args s mc ms free) (entryFrame m args maxL)) : vx_Met l y ws rm Pc Qc XC mc ms free := by
  refine MetFree.of_bodyS (code := cc) (maxLocals := maxL) (ret := ret) hy ?_ ?_
  · intro args s m h hn
    obtain ⟨meth, c, h1, h2, h3, h4, h5, h6, -, -⟩ := Cond.code_spec hn (atoms_spec (ws := ws) h _ (by rw [hw]; exact List.mem_cons_self))
    exact ⟨meth, c, h1, h2, h3, h4, h5, h6⟩
  · intro p e s m args below meth c s₁ B hml hP _
    have hh0 : s₁.heap = s.heap := by rw [B.state]; rfl
    have ht : ∀ x ∈ c.exceptionTable.toList, False := by
      obtain ⟨meth9, c9, h1, h2, -, -, -, -, h7, -⟩ := Cond.code_spec B.named (atoms_spec (ws := ws) B.pre _ (by rw [hw]; exact List.mem_cons_self))
      cases Option.some.inj (h1.symm.trans B.method)
      cases Option.some.inj (h2.symm.trans (Stand.of_body B).code)
      intro x hx
      rw [Array.isEmpty_iff.mp h7] at hx
      cases hx
    obtain ⟨t, a1, o, b1, b2, b3⟩ := body p e s m args below meth c s₁ B hml ht hP s₁ hh0 (Stand.of_body B)
    exact ⟨t, o, a1, b1, b2, b3⟩
/-- the table of a body with handlers -/
theorem vx_table {p : Program} {x y : MethodName} {S : Spec} {cc bytes : ByteArray} {maxL maxL' : Nat} {ret ret' : Option FieldType} {e : Env} {s s₁ : State} {m : MethodId} {args : Array Value} {below : List Frame} {meth : Method} {c : Code} {hh : List (Nat × Nat × Nat × Nat)}
    (B : BodyLoose p l y S cc maxL ret e s m args below meth c s₁) (h : (Cond.codeWith y bytes maxL' ret' hh).before args s = true) : c.exceptionTable.toList = tableOf hh := by
  obtain ⟨m9, meth9, c9, hn9, h1, h2, -, -, h6, -⟩ := Cond.codeWith_spec h
  cases Option.some.inj (hn9.symm.trans B.named)
  cases Option.some.inj (h1.symm.trans B.method)
  cases Option.some.inj (h2.symm.trans (Stand.of_body B).code)
  rw [← h6, table_eq]
end Bodies
end VXA
/-! ===== END ===== -/
/-! ===== BEGIN a static call of a method with an exception table ===== -/
section VXS
variable {p : Program} {l : Launch} {e : Env} {R : Room} {s : State} {m : MethodId} {args : Array Value} {below : List Frame} {meth : Method} {c : Code} {T : State} {H : Heap} {locs : List Loc} {cells slots : Nat}
abbrev vx_CSW (R : Room) (s : State) (args : Array Value) (own : String) (index : Nat) (y : MethodName) (bytes : ByteArray) (maxL : Nat) (ret : Option FieldType) (hh : List (Nat × Nat × Nat × Nat)) (ws : List Cond) (rm : Room) (mc ms n : Nat) : Prop :=
  (rm.cells = mc ∧ rm.slots = ms ∧ rm.frames + 1 ≤ R.frames ∧ 8 + (maxL + 11) + rm.locals ≤ R.locals ∧ (∀ w ∈ ws, ∀ (a' : Array Value) (U : State), s.WarmedH U.vm → w.before a' U = true) ∧ Cond.codeWith y bytes maxL ret hh ∈ ws) ∧
  (Cond.codeWith y bytes maxL ret hh).before args s = true ∧ (Cond.initialized y.cls).before args s = true ∧ (y.cls ≠ "java/lang/invoke/MethodHandle" ∧ y.cls ≠ "java/lang/invoke/VarHandle") ∧
  (∀ sig, parseMethodDescriptor y.desc = some sig → n = sig.parameters.length) ∧ (Cond.methodLink own index y).before args s = true ∧ (Cond.static y).before args s = true
theorem vx_cwSW {own : String} {index maxL mc ms : Nat} {y : MethodName} {bytes : ByteArray} {ret : Option FieldType} {hh : List (Nat × Nat × Nat × Nat)} {Ts ws ws' : List Cond} {rm : Room} (n : Nat) (ht : ∀ w ∈ Ts, w.before args s = true) (hT : GoodIn Ts (va_wsS own index y ws)) (hw : ws = Cond.codeWith y bytes maxL ret hh :: ws') (hrc : rm.cells = mc) (hrs : rm.slots = ms)
    (hd : y.cls ≠ "java/lang/invoke/MethodHandle" ∧ y.cls ≠ "java/lang/invoke/VarHandle" ∧ (parseMethodDescriptor y.desc).map (fun d => d.parameters.length) = some n) (hR : rm.frames + 1 ≤ R.frames ∧ 8 + (maxL + 11) + rm.locals ≤ R.locals) :
    vx_CSW R s args own index y bytes maxL ret hh ws rm mc ms n := by
  have ok : ∀ w ∈ va_wsS own index y ws, w.before args s = true := fun w h => ht w (hT w h).1
  have hG : GoodIn Ts ws := fun w h => hT w (by unfold va_wsS; exact List.mem_append_right _ h)
  have hc : Cond.codeWith y bytes maxL ret hh ∈ ws := by rw [hw]; exact List.mem_cons_self
  refine ⟨⟨hrc, hrs, hR.1, hR.2, pay_in ht hG, hc⟩, ht _ (hG _ hc).1, ok _ (by simp [va_wsS]), ⟨hd.1, hd.2.1⟩, fun sig h => ?_, ok _ (by simp [va_wsS]), ok _ (by simp [va_wsS])⟩
  have h2 := hd.2.2
  rw [h] at h2
  exact (Option.some.inj h2).symm
theorem vx_callSW (X : Stand p l e R s m args below meth c T locs cells slots) (hexec : p.tables.exec = Jvm.exec) {own : String} {index : Nat} {y : MethodName} {bytes : ByteArray} {maxL : Nat} {ret : Option FieldType} {hh : List (Nat × Nat × Nat × Nat)}
    (hown : s.vm.findClass own = some m.cls) (hlink : (Cond.methodLink own index y).before args s = true) (hstat : (Cond.static y).before args s = true) (hinit : (Cond.initialized y.cls).before args s = true)
    (hcode : (Cond.codeWith y bytes maxL ret hh).before args s = true) (hy : y.cls ≠ "java/lang/invoke/MethodHandle" ∧ y.cls ≠ "java/lang/invoke/VarHandle")
    {W9 : Nat} {Pre : Pt → Array Value → Prop} {Post : Pt → Array Value → Option Value → Pt → Prop} (hK : Back l R p e below s args y 3 W9 Pre Post)
    {g : JFrame} (hg : g.method = m) (hsize : g.locals.size = c.maxLocals) {argsL rest : List Value} (hlen : ∀ sig, parseMethodDescriptor y.desc = some sig → argsL.length = sig.parameters.length)
    (hstack : g.stack = argsL.reverse ++ rest) (hW : 2 * g.monitorRoom + (rest.map fun v => v.category).sum ≤ W9) (hdg : decode c.code g.pc = .ok (.invokestatic index, 3))
    (hpre : ∀ vm₁, s.WarmedH vm₁ → Pre ⟨T.setVm vm₁, locs, cells, slots⟩ argsL.toArray) :
    ∃ (v : Option Value) (vm₁ : Vm) (B : Pt), s.WarmedH vm₁ ∧ Stand p l e R s m args below meth c B.U B.locs B.cells B.slots ∧ Post ⟨T.setVm vm₁, locs, cells, slots⟩ argsL.toArray v B ∧
      ∀ target, Steps p.tables e below (B.U.setTop { g with pc := g.pc + 3, stack := v.toList ++ rest }) target → Steps p.tables e below (T.setTop g) target := by
  obtain ⟨mk, methM, cM, hnamed, hmethM, -, -, -, -, -, -, hsigM⟩ := Cond.codeWith_spec hcode
  have hstatic : methM.isStatic = true := Cond.static_spec hnamed hmethM hstat
  obtain ⟨kP, hkP, -⟩ := className_of_methodNamed hnamed
  have hinitP : kP.init = .initialized := Cond.initialized_spec (findClass_of_methodNamed hnamed) hkP hinit
  obtain ⟨vm₁, X₁, hstep₁⟩ := X.invokestatic hexec hown hlink hnamed hmethM hstatic hkP hinitP hy (g := g) hg (argsL := argsL) (rest := rest) (hlen _ hsigM) hstack hdg
  obtain ⟨v, B, X', hpost, hsteps⟩ := hK m meth c ⟨T.setVm vm₁, locs, cells, slots⟩ { g with stack := rest } (.invokestatic index) mk argsL.toArray X₁ hg hsize hdg hW (X₁.named hnamed) (hpre vm₁ X₁.warmed)
  exact ⟨v, vm₁, B, X₁.warmed, X', hpost, fun target h => hstep₁ _ fun acts => by rw [doInvoke_state]; exact hsteps.trans h⟩
theorem vx_runSW {y : MethodName} {bytes cc : ByteArray} {maxL nL mc ms n index : Nat} {ret : Option FieldType} {hh : List (Nat × Nat × Nat × Nat)} {ws : List Cond} {rm : Room} {Pc : Array Value → State → Prop} {Qc : Array Value → State → Outcome → State → Prop} {free : Addr → Prop} {Ts : List Cond} {own : String} {As rest : List Value} {g : JFrame}
    (S : CallFix p m c cc nL s args Ts own) (hM : Met l y ws rm Pc Qc mc ms free) (cw : vx_CSW R s args own index y bytes maxL ret hh ws rm mc ms n) (hp : PreS s H Pc As)
    (hg : g.method = m) (hn : As.length = n) (hsize : g.locals.size = nL) (hstack : g.stack = As.reverse ++ rest) (hW : 2 * g.monitorRoom + (rest.map fun v => v.category).sum ≤ 8) (hdg : decode cc g.pc = .ok (.invokestatic index, 3)) (hf : cells + mc ≤ R.cells ∧ slots + ms ≤ R.slots) :
    va_Run p l e R s m args below meth c H locs cells slots mc ms g rest (Qc As.toArray) (free) := by
  obtain ⟨⟨hrc, hrs, hfr, hlo, hws, hcw⟩, hcode, hini, hy, hlen, hl, hstt⟩ := cw
  have hK : Back l R p e below s args y 3 8 (PreOf R mc ms Pc) (PostOf Qc mc ms free) := va_backW (hh := hh) (bytes := bytes) (maxL := maxL) (ret := ret) hM hp.1 hrc hrs hfr hlo hws hcw (fun a' U hW => word_at hW (Or.inl (by first | rfl | simp [Cond.onTables, Cond.keeps, Cond.steady])) hini)
  obtain ⟨hx, hb, hml, ho, -⟩ := S
  intro T hT X
  obtain ⟨v, vm₁, ⟨U', l2, c2, s2⟩, hW₁, X', ⟨g', mk, t, L, e1, e2, hq, h1, hL, h2, h3⟩, st⟩ := vx_callSW X hx (hh := hh) (bytes := bytes) (maxL := maxL) (ret := ret) ho hl hstt hini hcode hy hK hg (hsize.trans hml.symm) (argsL := As) (rest := rest) (fun sig h => hn.trans (hlen sig h)) hstack hW (by rw [hb]; exact hdg)
    (fun vm₁ hW₁ => ⟨hf.1, hf.2, hp.2 (T.setVm vm₁) hT hW₁⟩)
  dsimp only [Pt.U, Pt.locs, Pt.cells, Pt.slots] at X' e1 e2 h1 h2 h3 st
  subst h1; subst h2; subst h3
  exact ⟨v, (T.setVm vm₁).calling g' mk As.toArray, t, U', L, hT, X', hL, e1, e2, hq, st⟩
/-- not caught here, past rows that name other classes: it goes on to the caller -/
theorem vx_outP {p : Program} {l : Launch} {e : Env} {R : Room} {s : State} {m : MethodId} {args : Array Value} {below : List Frame} {meth : Method} {c : Code} {H : Heap} {locs : List Loc} {cells slots : Nat} {free : Addr → Prop} {ls : Array Slot} {rest : List Value} {Qc : Array Value → State → Outcome → State → Prop} {XC : String → State → State → Prop}
    {pc : Nat} {own E : String} {ce : Cell} {q : Addr} {mc ms : Nat} (hown : s.vm.findClass own = some m.cls) (hlocks : meth.locks = false)
    (hpass : ∀ z ∈ c.exceptionTable.toList, covers z pc = false ∨ (z.catchType ≠ 0 ∧ ∃ nm : String, (Cond.classLink own z.catchType nm).before args s = true ∧ va_Nc E nm s)) (hcell : H[q]? = some ce) (hv : ce.vm = .none) (hcl : s.vm.findClass E = some ce.cls)
    (hx : ∀ t : State, t.heap = H → s.vm.Alike t.vm → XC E s t) (hf : ∀ z ∈ locs, free z.base) (hc : cells ≤ mc) (hs : slots ≤ ms) :
    vx_W p l e R s m args below meth c H locs cells slots (vx_MQ below Qc XC args s mc ms free) (F0 m pc ls rest) q := by
  intro T hT X
  have hpl : e.platform.magicAccessors = ({} : Platform).magicAccessors := by rw [X.admits.platform]
  obtain ⟨vm', hW', X', st⟩ := X.outThrough hlocks q (g := F0 m pc ls rest) rfl rfl rfl (cell := ce) (by rw [hT]; exact hcell) (by rw [hv]; rfl)
    (by obtain ⟨k9, h9, -⟩ := Vm.findClass_spec hcl; exact ⟨k9, h9⟩) (fun z hz => by
      rcases hpass z hz with h | ⟨hz0, nm, hl1, hn1⟩
      · exact Or.inl h
      · obtain ⟨c6, hc6, hcl6⟩ := Cond.classLink_spec hown hl1 e.platform hpl
        obtain ⟨a8, b8, h1, h2, h3⟩ := hn1
        cases Option.some.inj (h1.symm.trans hcl)
        cases Option.some.inj (h2.symm.trans hc6)
        exact Or.inr ⟨hz0, _, hcl6, h3⟩)
  obtain ⟨g₀, hfr⟩ := X'.frames_eq
  have hcell9 : ((T.setVm vm').setFrames (.throwing q :: below)).heap[q]? = some ce := by
    show T.heap[q]? = some ce
    rw [hT]; exact hcell
  have hend : Ended ((T.setVm vm').setFrames (.throwing q :: below)) below (.threw q) := State.frames_setFrames _ (State.cur_lt_of_frames hfr)
  refine ⟨(T.setVm vm').setFrames (.throwing q :: below), ?_, .threw q, X'.here.running, hend, Or.inr ⟨q, rfl, E, ce, locs, hx _ hT (X'.ends _).1.alike, hcell9, hv, hcl, (X'.ends _).1, (X'.ends _).2.mono hc hs, hf⟩⟩
  rw [X.pushThrowing_eq]
  exact st
/-- a thing of a world lies in the heap -/
theorem vx_lt {D : va_G} {cl : List vw_C} {ws : va_W} {H1 : Heap} (h : va_P D cl ws H1) {k : Nat} {q : Nat × va_E} (hk : ws[k]? = some q) : q.1 < H1.size := (h k q hk).lt
end VXS
/-! ===== END ===== -/
/-! ===== BEGIN methods with a table of their own: called by a name, returning or throwing ===== -/
section VXH
/-! vx_backW, vx_callVX, vx_callSX, vx_callVW, vx_runVW, vx_runVX, vx_runSX, vx_ofWH follow the same proofs as their sisters above (Free/Laws.lean, Shelf42/LK1.lean); vx_outP calls Shelf42/NT130.lean (outThrough). -/
section
variable {l : Launch} {R : Room} {p : Program} {e : Env} {below : List Frame} {s : State} {sargs : Array Value} {y : MethodName} {len W9 : Nat}
theorem vx_backW {ws : List Cond} {rm : Room} {Pc : Array Value → State → Prop} {Qc : Array Value → State → Outcome → State → Prop} {XC : String → State → State → Prop} {mc ms : Nat} {free : Addr → Prop} {bytes : ByteArray} {maxL : Nat} {ret : Option FieldType} {hh : List (Nat × Nat × Nat × Nat)}
    (hM : vx_Met l y ws rm Pc Qc XC mc ms free) (hblind : FrameBlind Pc) (hrc : rm.cells = mc) (hrs : rm.slots = ms)
    (hframes : rm.frames + 1 ≤ R.frames) (hlocals : W9 + (maxL + 11) + rm.locals ≤ R.locals)
    (hws : ∀ w ∈ ws, ∀ a' U, s.WarmedH U.vm → w.before a' U = true) (hcode : Cond.codeWith y bytes maxL ret hh ∈ ws) (hinit : ∀ a' U, s.WarmedH U.vm → (Cond.initialized y.cls).before a' U = true) :
    vx_Back l R p e below s sargs y len W9 (PreOf R mc ms Pc) (PostOf Qc mc ms free) (vx_Post XC mc ms free) := by
  intro m meth c A g ig mk a X hg hsize hdg hW hn hp
  have h1 : (headSpec ws rm).pre.before a A.U = true := atoms_intro fun w hw => hws w hw _ _ X.warmed
  have h2 : (Cond.codeWith y bytes maxL ret hh).before a A.U = true := hws _ hcode _ _ X.warmed
  have h3 : (Cond.initialized y.cls).before a A.U = true := hinit _ _ X.warmed
  have h4 : A.cells + (headSpec ws rm).room.cells ≤ R.cells := by rw [show (headSpec ws rm).room.cells = mc from hrc]; exact hp.1
  have h5 : A.slots + (headSpec ws rm).room.slots ≤ R.slots := by rw [show (headSpec ws rm).room.slots = ms from hrs]; exact hp.2.1
  have hPc : Pc a (A.U.calling g mk a) := hblind _ _ _ _ hp.2.2
  obtain ⟨U, Ls, c0, s0⟩ := A
  dsimp only [Pt.U, Pt.locs, Pt.cells, Pt.slots] at h1 h2 h3 h4 h5 X hn hPc ⊢
  obtain ⟨m9, methY, cY, hn9, hmY, hcY, -, hlY, -⟩ := Cond.codeWith_spec h2
  cases Option.some.inj (hn9.symm.trans hn)
  obtain ⟨kY, hkY, -⟩ := className_of_methodNamed hn
  have hinitY : kY.init = .initialized := Cond.initialized_spec (findClass_of_methodNamed hn) hkY h3
  have h : At U g.method c below := by rw [hg]; exact X.here
  have hlocals9 : W9 + (maxL + 11) + (headSpec ws rm).room.locals ≤ R.locals := hlocals
  have happ : (headSpec ws rm).appliesLoose y e.platform (U.calling g mk a) = true :=
    Spec.appliesLoose_calling (g := g) h hdg hn hkY hinitY
      (X.room_calling (g := g) (R' := (headSpec ws rm).room) hsize hmY hcY hframes (by rw [hlY]; omega) h4 h5) h1
  obtain ⟨mid, hmid⟩ := h.above
  have hfr : (U.setTop g).frames = (.java g :: mid) ++ below := by rw [State.frames_setTop' g h.top, hmid]; rfl
  obtain ⟨o, s₂, hsteps, -, hend, hq⟩ := Steps.callFree hM p X.admits X.cas X.clock (acts := []) hfr happ hPc trivial
  have hq' : vx_Q Qc XC mc ms free a (U.calling g mk a) o s₂ := hq
  rw [State.frames_setTop' g h.top] at hend
  obtain ⟨g₀, hg0⟩ := Option.isSome_iff_exists.mp h.top
  obtain ⟨r, hr⟩ := State.topJava?_eq_some.mp hg0
  have hr' : (({ U with heap := s₂.heap, slotsUsed := s₂.slotsUsed } : State).setVm s₂.vm).frames = .java g₀ :: r := hr
  rcases hq' with ⟨hqc, L, hfe, hL⟩ | ⟨q, rfl, E, ce, L, hx, hce, hcv, hcl, hW₂, hsm, hL⟩
  · obtain ⟨⟨v, rfl⟩, hW₂, e2, q2, q3, q4, q5, q6⟩ := id hfe
    have e3 : s₂ = ({ (U.calling g mk a).setFrames s₂.frames with heap := s₂.heap, slotsUsed := s₂.slotsUsed } : State).setVm s₂.vm := by
      have : s₂ = ({ s₂ with vm := (U.calling g mk a).vm } : State).setVm s₂.vm := rfl
      rw [e2] at this
      exact this
    obtain ⟨c₂, i₂, len₂, hc₂, hd₂, hf₂⟩ := hend
    have hW' : U.WarmedH s₂.vm := hW₂
    have hcc : c₂ = c := by
      have h1 : s₂.code? g.method = U.code? g.method := by
        rw [State.code?_eq, State.code?_eq, hW'.alike.method?]
      exact Option.some.inj (hc₂.symm.trans (h1.trans h.code))
    subst hcc
    have hlen : len₂ = len := by rw [hdg] at hd₂; cases hd₂; rfl
    subst hlen
    have hs₂ : s₂ = (({ U with heap := s₂.heap, slotsUsed := s₂.slotsUsed } : State).setVm s₂.vm).setTop { g with pc := g.pc + len₂, stack := v.toList ++ g.stack } := by
      refine e3.trans ?_
      rw [hf₂, State.calling_eq h.top, State.setFrames_setFrames, State.setTop_of_frames _ hr', hr]
      rfl
    have hsame : U.sameButNew ({ U with heap := s₂.heap, slotsUsed := s₂.slotsUsed } : State) L mc ms := by
      refine ⟨?_, q2, q3, q4, q5, q6⟩
      obtain ⟨t, ht, -⟩ := State.frames_cons hr
      show ({ U with heap := s₂.heap, slotsUsed := s₂.slotsUsed } : State) = { U.setFrames U.frames with heap := s₂.heap, slotsUsed := s₂.slotsUsed }
      rw [State.setFrames_self ht]
    subst hg
    refine Or.inl ⟨v, ⟨(({ U with heap := s₂.heap, slotsUsed := s₂.slotsUsed } : State).setVm s₂.vm), Ls ++ L, c0 + mc, s0 + ms⟩,
      ⟨X.admits, X.cas, X.clock, X.frames, X.room, X.hears, X.method, X.code, (X.here.setHeapUsed s₂.heap s₂.slotsUsed).setVm hW'.alike, X.tail, State.WarmedH.trans X.warmed hW', X.limits, X.bytes, X.same.trans (hsame.setVm s.vm)⟩,
      ⟨g, mk, s₂, L, rfl, rfl, hqc, rfl, hL, rfl, rfl⟩, ?_⟩
    show Steps p.tables e below _ ((({ U with heap := s₂.heap, slotsUsed := s₂.slotsUsed } : State).setVm s₂.vm).setTop { g with pc := g.pc + len₂, stack := v.toList ++ g.stack })
    rw [← hs₂]
    exact hsteps
  · obtain ⟨e2, q2, q3, q4, q5, q6⟩ := id hsm
    have e3 : s₂ = ({ (U.calling g mk a).setFrames s₂.frames with heap := s₂.heap, slotsUsed := s₂.slotsUsed } : State).setVm s₂.vm := by
      have : s₂ = ({ s₂ with vm := (U.calling g mk a).vm } : State).setVm s₂.vm := rfl
      rw [e2] at this
      exact this
    have hf₂ : s₂.frames = .throwing q :: .java g :: U.frames.tail := hend
    have hW' : U.WarmedH s₂.vm := hW₂
    have hs₂ : s₂ = ((({ U with heap := s₂.heap, slotsUsed := s₂.slotsUsed } : State).setVm s₂.vm).setTop g).pushFrame (.throwing q) := by
      refine e3.trans ?_
      rw [hf₂, State.calling_eq h.top, State.setFrames_setFrames, State.pushFrame, State.frames_setTop _ hr', State.setTop_of_frames _ hr', State.setFrames_setFrames, hr]
      rfl
    have hsame : U.sameButNew ({ U with heap := s₂.heap, slotsUsed := s₂.slotsUsed } : State) L mc ms := by
      refine ⟨?_, q2, q3, q4, q5, q6⟩
      obtain ⟨t, ht, -⟩ := State.frames_cons hr
      show ({ U with heap := s₂.heap, slotsUsed := s₂.slotsUsed } : State) = { U.setFrames U.frames with heap := s₂.heap, slotsUsed := s₂.slotsUsed }
      rw [State.setFrames_self ht]
    subst hg
    refine Or.inr ⟨q, ⟨(({ U with heap := s₂.heap, slotsUsed := s₂.slotsUsed } : State).setVm s₂.vm), Ls ++ L, c0 + mc, s0 + ms⟩,
      ⟨X.admits, X.cas, X.clock, X.frames, X.room, X.hears, X.method, X.code, (X.here.setHeapUsed s₂.heap s₂.slotsUsed).setVm hW'.alike, X.tail, State.WarmedH.trans X.warmed hW', X.limits, X.bytes, X.same.trans (hsame.setVm s.vm)⟩,
      ⟨g, mk, s₂, L, E, ce, rfl, rfl, hx, hce, hcv, hcl, rfl, hL, rfl, rfl⟩, ?_⟩
    show Steps p.tables e below _ (((({ U with heap := s₂.heap, slotsUsed := s₂.slotsUsed } : State).setVm s₂.vm).setTop g).pushFrame (.throwing q))
    rw [← hs₂]
    exact hsteps
end
variable {p : Program} {l : Launch} {e : Env} {R : Room} {s : State} {m : MethodId} {args : Array Value} {below : List Frame} {meth : Method} {c : Code} {T : State} {H : Heap} {locs : List Loc} {cells slots : Nat}
theorem vx_callVX (X : Stand p l e R s m args below meth c T locs cells slots) (hexec : p.tables.exec = Jvm.exec) {own C : String} {index : Nat} {y : MethodName} {bytes : ByteArray} {maxL : Nat} {ret : Option FieldType} {hh : List (Nat × Nat × Nat × Nat)}
    (hown : s.vm.findClass own = some m.cls) (hlink : (Cond.methodLink own index y).before args s = true) (hinst : (Cond.instanceMethod y).before args s = true) (hsel : (Cond.selects C y y).before args s = true)
    (hcode : (Cond.codeWith y bytes maxL ret hh).before args s = true) (hy : y.cls ≠ "java/lang/invoke/MethodHandle" ∧ y.cls ≠ "java/lang/invoke/VarHandle")
    {W9 : Nat} {Pre : Pt → Array Value → Prop} {Post : Pt → Array Value → Option Value → Pt → Prop} {PostX : Pt → Array Value → Addr → Pt → Prop} (hK : vx_Back l R p e below s args y 3 W9 Pre Post PostX)
    {b : Addr} {cellB : Cell} (hcell : T.heap[b]? = some cellB) (hobj : cellB.vm.isStatics = false) (hcls : s.vm.findClass C = some cellB.cls)
    {g : JFrame} (hg : g.method = m) (hsize : g.locals.size = c.maxLocals) {argsL rest : List Value} (hlen : ∀ sig, parseMethodDescriptor y.desc = some sig → argsL.length = sig.parameters.length)
    (hstack : g.stack = argsL.reverse ++ .ref b :: rest) (hW : 2 * g.monitorRoom + (rest.map fun v => v.category).sum ≤ W9) (hdg : decode c.code g.pc = .ok (.invokevirtual index, 3))
    (hpre : ∀ vm₁, s.WarmedH vm₁ → Pre ⟨T.setVm vm₁, locs, cells, slots⟩ (Value.ref b :: argsL).toArray) :
    (∃ (v : Option Value) (vm₁ : Vm) (B : Pt), s.WarmedH vm₁ ∧ Stand p l e R s m args below meth c B.U B.locs B.cells B.slots ∧ Post ⟨T.setVm vm₁, locs, cells, slots⟩ (Value.ref b :: argsL).toArray v B ∧
      ∀ target, Steps p.tables e below (B.U.setTop { g with pc := g.pc + 3, stack := v.toList ++ rest }) target → Steps p.tables e below (T.setTop g) target) ∨
    (∃ (q : Addr) (vm₁ : Vm) (B : Pt), s.WarmedH vm₁ ∧ Stand p l e R s m args below meth c B.U B.locs B.cells B.slots ∧ PostX ⟨T.setVm vm₁, locs, cells, slots⟩ (Value.ref b :: argsL).toArray q B ∧
      Steps p.tables e below (T.setTop g) ((B.U.setTop { g with stack := rest }).pushFrame (.throwing q))) := by
  obtain ⟨mk, methM, hnamed, hmethM, hstM, habM⟩ := Cond.instanceMethod_spec hinst
  obtain ⟨m8, methM', cM, hn8, hmethM', -, -, -, -, -, -, hsigM⟩ := Cond.codeWith_spec hcode
  cases Option.some.inj (hn8.symm.trans hnamed)
  cases hmethM.symm.trans hmethM'
  obtain ⟨c2, r2, m2, q1, q2, q3, q4, kP, hkP, hkPi⟩ := Cond.selects_spec hsel
  cases hcls.symm.trans q1
  cases (State.methodFound?_of_named hnamed hy).symm.trans q2
  cases hnamed.symm.trans q3
  have hselP : selectMethod e.platform s.vm cellB.cls mk = .method mk := by rw [Launch.admits_selectMethod X.admits]; exact q4
  obtain ⟨vm₁, X₁, hstep₁⟩ := X.invokevirtual hexec hown hlink hnamed hmethM hstM hkP hkPi hy (a := b) (cell := cellB) hcell
    (fun z h => by rw [h] at hobj; cases hobj) hselP hmethM habM hkP hkPi (g := g) hg (argsL := argsL) (rest := rest) (hlen _ hsigM) hstack hdg
  rcases hK m meth c ⟨T.setVm vm₁, locs, cells, slots⟩ { g with stack := rest } (.invokevirtual index) mk (Value.ref b :: argsL).toArray X₁ hg hsize hdg hW (X₁.named hnamed) (hpre vm₁ X₁.warmed) with ⟨v, B, X', hpost, hsteps⟩ | ⟨q, B, X', hpost, hsteps⟩
  · exact Or.inl ⟨v, vm₁, B, X₁.warmed, X', hpost, fun target h => hstep₁ _ fun acts => by rw [doInvoke_state]; exact hsteps.trans h⟩
  · exact Or.inr ⟨q, vm₁, B, X₁.warmed, X', hpost, hstep₁ _ fun acts => by rw [doInvoke_state]; exact hsteps⟩
theorem vx_callSX (X : Stand p l e R s m args below meth c T locs cells slots) (hexec : p.tables.exec = Jvm.exec) {own : String} {index : Nat} {y : MethodName} {bytes : ByteArray} {maxL : Nat} {ret : Option FieldType} {hh : List (Nat × Nat × Nat × Nat)}
    (hown : s.vm.findClass own = some m.cls) (hlink : (Cond.methodLink own index y).before args s = true) (hstat : (Cond.static y).before args s = true) (hinit : (Cond.initialized y.cls).before args s = true)
    (hcode : (Cond.codeWith y bytes maxL ret hh).before args s = true) (hy : y.cls ≠ "java/lang/invoke/MethodHandle" ∧ y.cls ≠ "java/lang/invoke/VarHandle")
    {W9 : Nat} {Pre : Pt → Array Value → Prop} {Post : Pt → Array Value → Option Value → Pt → Prop} {PostX : Pt → Array Value → Addr → Pt → Prop} (hK : vx_Back l R p e below s args y 3 W9 Pre Post PostX)
    {g : JFrame} (hg : g.method = m) (hsize : g.locals.size = c.maxLocals) {argsL rest : List Value} (hlen : ∀ sig, parseMethodDescriptor y.desc = some sig → argsL.length = sig.parameters.length)
    (hstack : g.stack = argsL.reverse ++ rest) (hW : 2 * g.monitorRoom + (rest.map fun v => v.category).sum ≤ W9) (hdg : decode c.code g.pc = .ok (.invokestatic index, 3))
    (hpre : ∀ vm₁, s.WarmedH vm₁ → Pre ⟨T.setVm vm₁, locs, cells, slots⟩ argsL.toArray) :
    (∃ (v : Option Value) (vm₁ : Vm) (B : Pt), s.WarmedH vm₁ ∧ Stand p l e R s m args below meth c B.U B.locs B.cells B.slots ∧ Post ⟨T.setVm vm₁, locs, cells, slots⟩ argsL.toArray v B ∧
      ∀ target, Steps p.tables e below (B.U.setTop { g with pc := g.pc + 3, stack := v.toList ++ rest }) target → Steps p.tables e below (T.setTop g) target) ∨
    (∃ (q : Addr) (vm₁ : Vm) (B : Pt), s.WarmedH vm₁ ∧ Stand p l e R s m args below meth c B.U B.locs B.cells B.slots ∧ PostX ⟨T.setVm vm₁, locs, cells, slots⟩ argsL.toArray q B ∧
      Steps p.tables e below (T.setTop g) ((B.U.setTop { g with stack := rest }).pushFrame (.throwing q))) := by
  obtain ⟨mk, methM, cM, hnamed, hmethM, -, -, -, -, -, -, hsigM⟩ := Cond.codeWith_spec hcode
  have hstatic : methM.isStatic = true := Cond.static_spec hnamed hmethM hstat
  obtain ⟨kP, hkP, -⟩ := className_of_methodNamed hnamed
  have hinitP : kP.init = .initialized := Cond.initialized_spec (findClass_of_methodNamed hnamed) hkP hinit
  obtain ⟨vm₁, X₁, hstep₁⟩ := X.invokestatic hexec hown hlink hnamed hmethM hstatic hkP hinitP hy (g := g) hg (argsL := argsL) (rest := rest) (hlen _ hsigM) hstack hdg
  rcases hK m meth c ⟨T.setVm vm₁, locs, cells, slots⟩ { g with stack := rest } (.invokestatic index) mk argsL.toArray X₁ hg hsize hdg hW (X₁.named hnamed) (hpre vm₁ X₁.warmed) with ⟨v, B, X', hpost, hsteps⟩ | ⟨q, B, X', hpost, hsteps⟩
  · exact Or.inl ⟨v, vm₁, B, X₁.warmed, X', hpost, fun target h => hstep₁ _ fun acts => by rw [doInvoke_state]; exact hsteps.trans h⟩
  · exact Or.inr ⟨q, vm₁, B, X₁.warmed, X', hpost, hstep₁ _ fun acts => by rw [doInvoke_state]; exact hsteps⟩
theorem vx_callVW (X : Stand p l e R s m args below meth c T locs cells slots) (hexec : p.tables.exec = Jvm.exec) {own C : String} {index : Nat} {y : MethodName} {bytes : ByteArray} {maxL : Nat} {ret : Option FieldType} {hh : List (Nat × Nat × Nat × Nat)}
    (hown : s.vm.findClass own = some m.cls) (hlink : (Cond.methodLink own index y).before args s = true) (hinst : (Cond.instanceMethod y).before args s = true) (hsel : (Cond.selects C y y).before args s = true)
    (hcode : (Cond.codeWith y bytes maxL ret hh).before args s = true) (hy : y.cls ≠ "java/lang/invoke/MethodHandle" ∧ y.cls ≠ "java/lang/invoke/VarHandle")
    {W9 : Nat} {Pre : Pt → Array Value → Prop} {Post : Pt → Array Value → Option Value → Pt → Prop} (hK : Back l R p e below s args y 3 W9 Pre Post)
    {b : Addr} {cellB : Cell} (hcell : T.heap[b]? = some cellB) (hobj : cellB.vm.isStatics = false) (hcls : s.vm.findClass C = some cellB.cls)
    {g : JFrame} (hg : g.method = m) (hsize : g.locals.size = c.maxLocals) {argsL rest : List Value} (hlen : ∀ sig, parseMethodDescriptor y.desc = some sig → argsL.length = sig.parameters.length)
    (hstack : g.stack = argsL.reverse ++ .ref b :: rest) (hW : 2 * g.monitorRoom + (rest.map fun v => v.category).sum ≤ W9) (hdg : decode c.code g.pc = .ok (.invokevirtual index, 3))
    (hpre : ∀ vm₁, s.WarmedH vm₁ → Pre ⟨T.setVm vm₁, locs, cells, slots⟩ (Value.ref b :: argsL).toArray) :
    ∃ (v : Option Value) (vm₁ : Vm) (B : Pt), s.WarmedH vm₁ ∧ Stand p l e R s m args below meth c B.U B.locs B.cells B.slots ∧ Post ⟨T.setVm vm₁, locs, cells, slots⟩ (Value.ref b :: argsL).toArray v B ∧
      ∀ target, Steps p.tables e below (B.U.setTop { g with pc := g.pc + 3, stack := v.toList ++ rest }) target → Steps p.tables e below (T.setTop g) target := by
  obtain ⟨mk, methM, hnamed, hmethM, hstM, habM⟩ := Cond.instanceMethod_spec hinst
  obtain ⟨m8, methM', cM, hn8, hmethM', -, -, -, -, -, -, hsigM⟩ := Cond.codeWith_spec hcode
  cases Option.some.inj (hn8.symm.trans hnamed)
  cases hmethM.symm.trans hmethM'
  obtain ⟨c2, r2, m2, q1, q2, q3, q4, kP, hkP, hkPi⟩ := Cond.selects_spec hsel
  cases hcls.symm.trans q1
  cases (State.methodFound?_of_named hnamed hy).symm.trans q2
  cases hnamed.symm.trans q3
  have hselP : selectMethod e.platform s.vm cellB.cls mk = .method mk := by rw [Launch.admits_selectMethod X.admits]; exact q4
  obtain ⟨vm₁, X₁, hstep₁⟩ := X.invokevirtual hexec hown hlink hnamed hmethM hstM hkP hkPi hy (a := b) (cell := cellB) hcell
    (fun z h => by rw [h] at hobj; cases hobj) hselP hmethM habM hkP hkPi (g := g) hg (argsL := argsL) (rest := rest) (hlen _ hsigM) hstack hdg
  obtain ⟨v, B, X', hpost, hsteps⟩ := hK m meth c ⟨T.setVm vm₁, locs, cells, slots⟩ { g with stack := rest } (.invokevirtual index) mk (Value.ref b :: argsL).toArray X₁ hg hsize hdg hW (X₁.named hnamed) (hpre vm₁ X₁.warmed)
  exact ⟨v, vm₁, B, X₁.warmed, X', hpost, fun target h => hstep₁ _ fun acts => by rw [doInvoke_state]; exact hsteps.trans h⟩
abbrev vx_CVW (R : Room) (s : State) (args : Array Value) (own C : String) (index : Nat) (y : MethodName) (bytes : ByteArray) (maxL : Nat) (ret : Option FieldType) (hh : List (Nat × Nat × Nat × Nat)) (ws : List Cond) (rm : Room) (mc ms n : Nat) : Prop :=
  (rm.cells = mc ∧ rm.slots = ms ∧ rm.frames + 1 ≤ R.frames ∧ 8 + (maxL + 11) + rm.locals ≤ R.locals ∧ (∀ w ∈ ws, ∀ (a' : Array Value) (U : State), s.WarmedH U.vm → w.before a' U = true) ∧ Cond.codeWith y bytes maxL ret hh ∈ ws) ∧
  (Cond.codeWith y bytes maxL ret hh).before args s = true ∧ (Cond.initialized y.cls).before args s = true ∧ (y.cls ≠ "java/lang/invoke/MethodHandle" ∧ y.cls ≠ "java/lang/invoke/VarHandle") ∧
  (∀ sig, parseMethodDescriptor y.desc = some sig → n = sig.parameters.length) ∧ (Cond.methodLink own index y).before args s = true ∧ (Cond.instanceMethod y).before args s = true ∧ (Cond.selects C y y).before args s = true
theorem vx_cwVW {own C : String} {index maxL mc ms : Nat} {y : MethodName} {bytes : ByteArray} {ret : Option FieldType} {hh : List (Nat × Nat × Nat × Nat)} {Ts ws ws' : List Cond} {rm : Room} (n : Nat) (ht : ∀ w ∈ Ts, w.before args s = true) (hT : GoodIn Ts (wsV own index C y ws)) (hw : ws = Cond.codeWith y bytes maxL ret hh :: ws') (hrc : rm.cells = mc) (hrs : rm.slots = ms)
    (hd : y.cls = C ∧ y.cls ≠ "java/lang/invoke/MethodHandle" ∧ y.cls ≠ "java/lang/invoke/VarHandle" ∧ (parseMethodDescriptor y.desc).map (fun d => d.parameters.length) = some n) (hR : rm.frames + 1 ≤ R.frames ∧ 8 + (maxL + 11) + rm.locals ≤ R.locals) :
    vx_CVW R s args own C index y bytes maxL ret hh ws rm mc ms n := by
  obtain ⟨hC, hd⟩ := hd
  subst hC
  have ok : ∀ w ∈ wsV own index y.cls y ws, w.before args s = true := fun w h => ht w (hT w h).1
  have hG : GoodIn Ts ws := fun w h => hT w (by unfold wsV; exact List.mem_append_right _ h)
  have hc : Cond.codeWith y bytes maxL ret hh ∈ ws := by rw [hw]; exact List.mem_cons_self
  refine ⟨⟨hrc, hrs, hR.1, hR.2, pay_in ht hG, hc⟩, ht _ (hG _ hc).1, ok _ (by simp [wsV]), ⟨hd.1, hd.2.1⟩, fun sig h => ?_, ok _ (by simp [wsV]), ok _ (by simp [wsV]), ok _ (by simp [wsV])⟩
  have h2 := hd.2.2
  rw [h] at h2
  exact (Option.some.inj h2).symm
theorem vx_runVW {y : MethodName} {bytes cc : ByteArray} {maxL nL mc ms n index : Nat} {ret : Option FieldType} {hh : List (Nat × Nat × Nat × Nat)} {ws : List Cond} {rm : Room} {Pc : Array Value → State → Prop} {Qc : Array Value → State → Outcome → State → Prop} {free : Addr → Prop} {Ts : List Cond} {own C : String} {b : Addr} {As rest : List Value} {g : JFrame}
    (S : CallFix p m c cc nL s args Ts own) (hM : Met l y ws rm Pc Qc mc ms free) (cw : vx_CVW R s args own C index y bytes maxL ret hh ws rm mc ms n) (hp : PreV s H C b Pc As)
    (hg : g.method = m) (hn : As.length = n) (hsize : g.locals.size = nL) (hstack : g.stack = As.reverse ++ .ref b :: rest) (hW : 2 * g.monitorRoom + (rest.map fun v => v.category).sum ≤ 8) (hdg : decode cc g.pc = .ok (.invokevirtual index, 3)) (hf : cells + mc ≤ R.cells ∧ slots + ms ≤ R.slots) :
    va_Run p l e R s m args below meth c H locs cells slots mc ms g rest (Qc (Value.ref b :: As).toArray) free := by
  obtain ⟨⟨hrc, hrs, hfr, hlo, hws, hcw⟩, hcode, hini, hy, hlen, hl, hin, hse⟩ := cw
  have hK : Back l R p e below s args y 3 8 (PreOf R mc ms Pc) (PostOf Qc mc ms free) := va_backW (hh := hh) (bytes := bytes) (maxL := maxL) (ret := ret) hM hp.1 hrc hrs hfr hlo hws hcw (fun a' U hW => word_at hW (Or.inl (by first | rfl | simp [Cond.onTables, Cond.keeps, Cond.steady])) hini)
  obtain ⟨hx, hb, hml, ho, -⟩ := S
  obtain ⟨-, ⟨cellB, hcB, hoB, hclB⟩, hPc⟩ := hp
  intro T hT X
  obtain ⟨v, vm₁, ⟨U', l2, c2, s2⟩, hW₁, X', ⟨g', mk, t, L, e1, e2, hq, h1, hL, h2, h3⟩, st⟩ := vx_callVW X hx (C := C) (hh := hh) (bytes := bytes) (maxL := maxL) (ret := ret) ho hl hin hse hcode hy hK (by rw [hT]; exact hcB) hoB hclB hg (hsize.trans hml.symm) (argsL := As) (rest := rest) (fun sig h => hn.trans (hlen sig h)) hstack hW (by rw [hb]; exact hdg)
    (fun vm₁ hW₁ => ⟨hf.1, hf.2, hPc (T.setVm vm₁) hT hW₁⟩)
  dsimp only [Pt.U, Pt.locs, Pt.cells, Pt.slots] at X' e1 e2 h1 h2 h3 st
  subst h1; subst h2; subst h3
  exact ⟨v, (T.setVm vm₁).calling g' mk (Value.ref b :: As).toArray, t, U', L, hT, X', hL, e1, e2, hq, st⟩
section
variable {y : MethodName} {bytes cc : ByteArray} {maxL nL mc ms n index : Nat} {ret : Option FieldType} {ws : List Cond} {rm : Room} {Pc : Array Value → State → Prop} {Qc : Array Value → State → Outcome → State → Prop} {XC : String → State → State → Prop} {free : Addr → Prop} {Ts : List Cond} {own C : String} {b : Addr} {As rest : List Value} {g : JFrame}
theorem vx_runVX {hh : List (Nat × Nat × Nat × Nat)} (S : CallFix p m c cc nL s args Ts own) (hM : vx_Met l y ws rm Pc Qc XC mc ms free) (cw : vx_CVW R s args own C index y bytes maxL ret hh ws rm mc ms n) (hp : PreV s H C b Pc As)
    (hg : g.method = m) (hn : As.length = n) (hsize : g.locals.size = nL) (hstack : g.stack = As.reverse ++ .ref b :: rest) (hW : 2 * g.monitorRoom + (rest.map fun v => v.category).sum ≤ 8) (hdg : decode cc g.pc = .ok (.invokevirtual index, 3)) (hf : cells + mc ≤ R.cells ∧ slots + ms ≤ R.slots) :
    vx_Run p l e R s m args below meth c H locs cells slots mc ms g rest (Qc (Value.ref b :: As).toArray) XC free := by
  obtain ⟨⟨hrc, hrs, hfr, hlo, hws, hcw⟩, hcode, hini, hy, hlen, hl, hin, hse⟩ := cw
  have hK : vx_Back l R p e below s args y 3 8 (PreOf R mc ms Pc) (PostOf Qc mc ms free) (vx_Post XC mc ms free) := vx_backW (hh := hh) (bytes := bytes) (maxL := maxL) (ret := ret) hM hp.1 hrc hrs hfr hlo hws hcw (fun a' U hW => word_at hW (Or.inl (by first | rfl | simp [Cond.onTables, Cond.keeps, Cond.steady])) hini)
  obtain ⟨hx, hb, hml, ho, -⟩ := S
  obtain ⟨-, ⟨cellB, hcB, hoB, hclB⟩, hPc⟩ := hp
  intro T hT X
  rcases vx_callVX X hx (C := C) (hh := hh) (bytes := bytes) (maxL := maxL) (ret := ret) ho hl hin hse hcode hy hK (by rw [hT]; exact hcB) hoB hclB hg (hsize.trans hml.symm) (argsL := As) (rest := rest) (fun sig h => hn.trans (hlen sig h)) hstack hW (by rw [hb]; exact hdg)
    (fun vm₁ hW₁ => ⟨hf.1, hf.2, hPc (T.setVm vm₁) hT hW₁⟩) with ⟨v, vm₁, ⟨U', l2, c2, s2⟩, hW₁, X', ⟨g', mk, t, L, e1, e2, hq, h1, hL, h2, h3⟩, st⟩ | ⟨q, vm₁, ⟨U', l2, c2, s2⟩, hW₁, X', ⟨g', mk, t, L, E, ce, e1, e2, hq, hce, hcv, hcl, h1, hL, h2, h3⟩, st⟩
  · dsimp only [Pt.U, Pt.locs, Pt.cells, Pt.slots] at X' e1 e2 h1 h2 h3 st
    subst h1; subst h2; subst h3
    exact Or.inl ⟨v, (T.setVm vm₁).calling g' mk (Value.ref b :: As).toArray, t, U', L, hT, X', hL, e1, e2, hq, st⟩
  · dsimp only [Pt.U, Pt.locs, Pt.cells, Pt.slots] at X' e1 e2 h1 h2 h3 st hcl
    subst h1; subst h2; subst h3
    exact Or.inr ⟨q, (T.setVm vm₁).calling g' mk (Value.ref b :: As).toArray, t, U', L, E, ce, hT, X', hL, e1, e2, hq, hce, hcv, vx_cls hW₁ hcl, st⟩
theorem vx_runSX {hh : List (Nat × Nat × Nat × Nat)} (S : CallFix p m c cc nL s args Ts own) (hM : vx_Met l y ws rm Pc Qc XC mc ms free) (cw : vx_CSW R s args own index y bytes maxL ret hh ws rm mc ms n) (hp : PreS s H Pc As)
    (hg : g.method = m) (hn : As.length = n) (hsize : g.locals.size = nL) (hstack : g.stack = As.reverse ++ rest) (hW : 2 * g.monitorRoom + (rest.map fun v => v.category).sum ≤ 8) (hdg : decode cc g.pc = .ok (.invokestatic index, 3)) (hf : cells + mc ≤ R.cells ∧ slots + ms ≤ R.slots) :
    vx_Run p l e R s m args below meth c H locs cells slots mc ms g rest (Qc As.toArray) XC free := by
  obtain ⟨⟨hrc, hrs, hfr, hlo, hws, hcw⟩, hcode, hini, hy, hlen, hl, hstt⟩ := cw
  have hK : vx_Back l R p e below s args y 3 8 (PreOf R mc ms Pc) (PostOf Qc mc ms free) (vx_Post XC mc ms free) := vx_backW (hh := hh) (bytes := bytes) (maxL := maxL) (ret := ret) hM hp.1 hrc hrs hfr hlo hws hcw (fun a' U hW => word_at hW (Or.inl (by first | rfl | simp [Cond.onTables, Cond.keeps, Cond.steady])) hini)
  obtain ⟨hx, hb, hml, ho, -⟩ := S
  intro T hT X
  rcases vx_callSX X hx (hh := hh) (bytes := bytes) (maxL := maxL) (ret := ret) ho hl hstt hini hcode hy hK hg (hsize.trans hml.symm) (argsL := As) (rest := rest) (fun sig h => hn.trans (hlen sig h)) hstack hW (by rw [hb]; exact hdg)
    (fun vm₁ hW₁ => ⟨hf.1, hf.2, hp.2 (T.setVm vm₁) hT hW₁⟩) with ⟨v, vm₁, ⟨U', l2, c2, s2⟩, hW₁, X', ⟨g', mk, t, L, e1, e2, hq, h1, hL, h2, h3⟩, st⟩ | ⟨q, vm₁, ⟨U', l2, c2, s2⟩, hW₁, X', ⟨g', mk, t, L, E, ce, e1, e2, hq, hce, hcv, hcl, h1, hL, h2, h3⟩, st⟩
  · dsimp only [Pt.U, Pt.locs, Pt.cells, Pt.slots] at X' e1 e2 h1 h2 h3 st
    subst h1; subst h2; subst h3
    exact Or.inl ⟨v, (T.setVm vm₁).calling g' mk As.toArray, t, U', L, hT, X', hL, e1, e2, hq, st⟩
  · dsimp only [Pt.U, Pt.locs, Pt.cells, Pt.slots] at X' e1 e2 h1 h2 h3 st hcl
    subst h1; subst h2; subst h3
    exact Or.inr ⟨q, (T.setVm vm₁).calling g' mk As.toArray, t, U', L, E, ce, hT, X', hL, e1, e2, hq, hce, hcv, vx_cls hW₁ hcl, st⟩
end
end VXH
theorem vx_ofWH {l : Launch} {y : MethodName} {ws ws' : List Cond} {rm : Room} {Pc : Array Value → State → Prop} {Qc : Array Value → State → Outcome → State → Prop} {XC : String → State → State → Prop} {mc ms : Nat} {free : Addr → Prop} {cc : ByteArray} {maxL : Nat} {ret : Option FieldType} {hh : List (Nat × Nat × Nat × Nat)}
    (hy : plainName y.cls = true) (hw : ws = Cond.codeWith y cc maxL ret hh :: ws')
    (body : ∀ p e s m args below meth c s₁, BodyLoose p l y (headSpec ws rm) cc maxL ret e s m args below meth c s₁ → c.maxLocals = maxL → Pc args s →
      W p l e (headSpec ws rm).room s m args below meth c s.heap [] 0 0 (vx_MQ below Qc XC args s mc ms free) (entryFrame m args maxL)) : vx_Met l y ws rm Pc Qc XC mc ms free := by
  refine MetFree.of_bodyS (code := cc) (maxLocals := maxL) (ret := ret) hy ?_ ?_
  · intro args s m h hn
    obtain ⟨m9, meth, c, hn9, h1, h2, h3, h4, -, h5, h6, -⟩ := Cond.codeWith_spec (atoms_spec (ws := ws) h _ (by rw [hw]; exact List.mem_cons_self))
    cases hn.symm.trans hn9
    exact ⟨meth, c, h1, h2, h3, h4, h5, h6⟩
  · intro p e s m args below meth c s₁ B hml hP _
    have hh0 : s₁.heap = s.heap := by rw [B.state]; rfl
    obtain ⟨t, a1, o, b1, b2, b3⟩ := body p e s m args below meth c s₁ B hml hP s₁ hh0 (Stand.of_body B)
    exact ⟨t, o, a1, b1, b2, b3⟩
/-! ===== END ===== -/
end
section
/-! NAMES: classes, fields, words -/
def N_X : String := "OrderRows3"
def T_X : u_T := fun k => match k with
  | 0 => ("OrderRows3", "orders", "Ljava/util/ArrayList;", true)
  | _ => ("OrderRows3", "lines", "Ljava/util/ArrayList;", true)
def t_X : Nat → FieldType := fun k => match k with
  | 0 => .object "java/util/ArrayList"
  | _ => .object "java/util/ArrayList"
def N_O : String := "OrderRows3$Order"
def T_O : u_T := fun k => match k with
  | 0 => ("OrderRows3$Order", "index", "I", true)
  | 1 => ("OrderRows3$Order", "customer", "I", true)
  | 2 => ("OrderRows3$Order", "ownNumber", "I", true)
  | 3 => ("OrderRows3$Order", "rank", "I", true)
  | 4 => ("OrderRows3$Order", "lines", "Ljava/util/ArrayList;", true)
  | 5 => ("OrderRows3$Order", "day", "I", false)
  | 6 => ("OrderRows3$Order", "phase", "I", false)
  | 7 => ("OrderRows3$Order", "blockers", "I", false)
  | 8 => ("OrderRows3$Order", "version", "I", false)
  | _ => ("OrderRows3$Order", "mergedInto", "I", false)
def t_O : Nat → FieldType := fun k => match k with
  | 0 => .int
  | 1 => .int
  | 2 => .int
  | 3 => .int
  | 4 => .object "java/util/ArrayList"
  | 5 => .int
  | 6 => .int
  | 7 => .int
  | 8 => .int
  | _ => .int
def N_L : String := "OrderRows3$Line"
def T_L : u_T := fun k => match k with
  | 0 => ("OrderRows3$Line", "index", "I", true)
  | 1 => ("OrderRows3$Line", "good", "I", true)
  | 2 => ("OrderRows3$Line", "home", "LOrderRows3$Order;", false)
  | 3 => ("OrderRows3$Line", "wanted", "I", false)
  | 4 => ("OrderRows3$Line", "rules", "I", false)
  | 5 => ("OrderRows3$Line", "held", "I", false)
  | 6 => ("OrderRows3$Line", "picked", "I", false)
  | 7 => ("OrderRows3$Line", "shipped", "I", false)
  | 8 => ("OrderRows3$Line", "instead", "I", false)
  | 9 => ("OrderRows3$Line", "live", "Z", false)
  | _ => ("OrderRows3$Line", "backordered", "Z", false)
def t_L : Nat → FieldType := fun k => match k with
  | 0 => .int
  | 1 => .int
  | 2 => .object "OrderRows3$Order"
  | 3 => .int
  | 4 => .int
  | 5 => .int
  | 6 => .int
  | 7 => .int
  | 8 => .int
  | 9 => .boolean
  | _ => .boolean
def N_A : String := "java/util/ArrayList"
def T_A : u_T := fun k => match k with
  | 0 => ("java/util/ArrayList", "elementData", "[Ljava/lang/Object;", false)
  | 1 => ("java/util/ArrayList", "size", "I", false)
  | _ => ("java/util/AbstractList", "modCount", "I", false)
def t_A : Nat → FieldType := fun k => match k with
  | 0 => .array (.object "java/lang/Object")
  | 1 => .int
  | _ => .int
def N_R : String := "OrderRows3Model"
def T_R : u_T := fun k => match k with
  | 0 => ("OrderRows3Model", "code", "I", false)
  | 1 => ("OrderRows3Model", "orders", "I", false)
  | 2 => ("OrderRows3Model", "customer", "[I", true)
  | 3 => ("OrderRows3Model", "number", "[I", true)
  | 4 => ("OrderRows3Model", "rank", "[I", true)
  | 5 => ("OrderRows3Model", "day", "[I", true)
  | 6 => ("OrderRows3Model", "phase", "[I", true)
  | 7 => ("OrderRows3Model", "blocks", "[I", true)
  | 8 => ("OrderRows3Model", "version", "[I", true)
  | 9 => ("OrderRows3Model", "into", "[I", true)
  | 10 => ("OrderRows3Model", "size", "[I", true)
  | 11 => ("OrderRows3Model", "linesOf", "[I", true)
  | 12 => ("OrderRows3Model", "lines", "I", false)
  | 13 => ("OrderRows3Model", "orderOf", "[I", true)
  | 14 => ("OrderRows3Model", "good", "[I", true)
  | 15 => ("OrderRows3Model", "instead", "[I", true)
  | 16 => ("OrderRows3Model", "rules", "[I", true)
  | 17 => ("OrderRows3Model", "wanted", "[I", true)
  | 18 => ("OrderRows3Model", "held", "[I", true)
  | 19 => ("OrderRows3Model", "picked", "[I", true)
  | 20 => ("OrderRows3Model", "shipped", "[I", true)
  | 21 => ("OrderRows3Model", "live", "[Z", true)
  | _ => ("OrderRows3Model", "again", "[Z", true)
def t_R : Nat → FieldType := fun k => match k with
  | 0 => .int
  | 1 => .int
  | 2 => .array .int
  | 3 => .array .int
  | 4 => .array .int
  | 5 => .array .int
  | 6 => .array .int
  | 7 => .array .int
  | 8 => .array .int
  | 9 => .array .int
  | 10 => .array .int
  | 11 => .array .int
  | 12 => .int
  | 13 => .array .int
  | 14 => .array .int
  | 15 => .array .int
  | 16 => .array .int
  | 17 => .array .int
  | 18 => .array .int
  | 19 => .array .int
  | 20 => .array .int
  | 21 => .array .boolean
  | _ => .array .boolean
def ev_cl : List vw_C := [(N_X, T_X, 2), (N_O, T_O, 10), (N_L, T_L, 11), (N_A, T_A, 3), (N_R, T_R, 23)]
theorem ev_cl_len : ev_cl.length < 100 := by decide
def ev_TB : List Cond := lw_tbl.filter goodWord
theorem ev_good : GoodIn ev_TB ev_TB := fun w hw => ⟨hw, good_of_word (List.mem_filter.mp hw).2⟩
theorem ev_tb {w : Cond} (i : Nat) (h : tables_1[i]? = some w) (g : goodWord w = true) : w ∈ ev_TB := List.mem_filter.mpr ⟨List.mem_append_right _ (List.mem_of_getElem? h), g⟩
theorem ev_tp {w : Cond} (i : Nat) (h : (k2_sels lw_privs)[i]? = some w) (g : goodWord w = true) : w ∈ ev_TB := List.mem_filter.mpr ⟨List.mem_append_left _ (List.mem_of_getElem? h), g⟩
def ev_strs : List (String × Nat × String) := [("OrderRows3", 208, "a number outside its range"), ("OrderRows3", 219, "no room"), ("OrderRows3", 203, "no such order"), ("OrderRows3", 214, "not as it is now"), ("OrderRows3", 206, "no such line"), ("OrderRows3", 210, "a place below 0"), ("OrderRows3", 184, "an order tells 0 to 9")]
def ev_casts : List (String × String) := [("java/lang/IllegalArgumentException", "java/lang/IllegalArgumentException"), ("java/lang/UnsupportedOperationException", "java/lang/UnsupportedOperationException"), ("java/util/NoSuchElementException", "java/util/NoSuchElementException"), ("java/lang/IllegalStateException", "java/lang/IllegalStateException"), ("OrderRows3$Line", "OrderRows3$Line"), ("OrderRows3$Order", "OrderRows3$Order"), ("OrderRows3", "java/lang/Object"), ("OrderRows3Model", "java/lang/Object"), ("OrderRows3$Order", "java/lang/Object"), ("OrderRows3$Line", "java/lang/Object"), ("java/lang/String", "java/lang/Object")]
def ev_decls : List MethodName := [⟨"java/lang/RuntimeException", "<init>", "()V"⟩, ⟨"java/lang/RuntimeException", "<init>", "(Ljava/lang/String;)V"⟩, ⟨"java/lang/Exception", "<init>", "()V"⟩, ⟨"java/lang/Exception", "<init>", "(Ljava/lang/String;)V"⟩, ⟨"java/lang/Throwable", "<init>", "()V"⟩, ⟨"java/lang/Throwable", "<init>", "(Ljava/lang/String;)V"⟩, ⟨"java/lang/Object", "getClass", "()Ljava/lang/Class;"⟩]
def ev_nocasts : List (String × String) := [("OrderRows3", "java/lang/IllegalArgumentException"), ("OrderRows3", "java/lang/IllegalStateException"), ("OrderRows3", "java/lang/UnsupportedOperationException"), ("OrderRows3", "java/util/NoSuchElementException"), ("OrderRows3$Line", "java/lang/IllegalArgumentException"), ("OrderRows3$Line", "java/lang/IllegalStateException"), ("OrderRows3$Line", "java/lang/UnsupportedOperationException"), ("OrderRows3$Line", "java/util/NoSuchElementException"), ("OrderRows3$Order", "java/lang/IllegalArgumentException"), ("OrderRows3$Order", "java/lang/IllegalStateException"), ("OrderRows3$Order", "java/lang/UnsupportedOperationException"), ("OrderRows3$Order", "java/util/NoSuchElementException"), ("OrderRows3Model", "java/lang/IllegalArgumentException"), ("OrderRows3Model", "java/lang/IllegalStateException"), ("OrderRows3Model", "java/lang/UnsupportedOperationException"), ("OrderRows3Model", "java/util/NoSuchElementException"), ("java/lang/IllegalArgumentException", "java/lang/IllegalStateException"), ("java/lang/IllegalArgumentException", "java/lang/UnsupportedOperationException"), ("java/lang/IllegalArgumentException", "java/util/NoSuchElementException"), ("java/lang/IllegalStateException", "java/lang/IllegalArgumentException"), ("java/lang/IllegalStateException", "java/lang/UnsupportedOperationException"), ("java/lang/IllegalStateException", "java/util/NoSuchElementException"), ("java/lang/UnsupportedOperationException", "java/lang/IllegalArgumentException"), ("java/lang/UnsupportedOperationException", "java/lang/IllegalStateException"), ("java/lang/UnsupportedOperationException", "java/util/NoSuchElementException"), ("java/util/ArrayList", "java/lang/IllegalArgumentException"), ("java/util/ArrayList", "java/lang/IllegalStateException"), ("java/util/ArrayList", "java/lang/UnsupportedOperationException"), ("java/util/ArrayList", "java/util/NoSuchElementException"), ("java/util/NoSuchElementException", "java/lang/IllegalArgumentException"), ("java/util/NoSuchElementException", "java/lang/IllegalStateException"), ("java/util/NoSuchElementException", "java/lang/UnsupportedOperationException")]
end
section
/-! CORE: one heap of the mind for all methods. A cell is (kind, contents); kinds below 100 are places in ev_cl, 100 + j is an array of the type ev_ty j. -/
abbrev ev_Cel : Type := Nat × List Value
abbrev ev_AH : Type := Nat → Option ev_Cel
/-- where the law's own cells begin; class numbers; slots; array classes; the empty list's array; the mirror of Object[]; the script: cell, length, ints -/
abbrev ev_G : Type := Nat × (Nat → ClassId) × (Nat → Nat → Nat) × (Nat → ClassId) × Nat × Nat × Nat × Nat × (Nat → Int32)
def g_B (G : ev_G) : Nat := G.1
abbrev g_D (G : ev_G) : va_G := (G.2.1, G.2.2.1)
def g_A (G : ev_G) : Nat → Prop := fun q => g_B G ≤ q
def g_dA (G : ev_G) : Nat → ClassId := G.2.2.2.1
def g_t0 (G : ev_G) : Nat := G.2.2.2.2.1
def g_mi (G : ev_G) : Nat := G.2.2.2.2.2.1
def g_sb (G : ev_G) : Nat := G.2.2.2.2.2.2.1
def g_sL (G : ev_G) : Nat := G.2.2.2.2.2.2.2.1
def g_xs (G : ev_G) : Nat → Int32 := G.2.2.2.2.2.2.2.2
def g_tys (G : ev_G) : List (ClassId × FieldType) := [(g_dA G 0, .int), (g_dA G 1, .boolean), (g_dA G 2, .long), (g_dA G 3, .object "java/lang/Object")]
def ev_at (G : ev_G) (a : Nat) (c : ev_Cel) (H : Heap) : Prop :=
  (∃ r : vw_C, ev_cl[c.1]? = some r ∧ c.2.length = r.2.2 ∧ t_OB a (G.2.1 c.1) r.2.2 (G.2.2.1 c.1) H (vp_V c.2)) ∨
  (∃ j : Nat, j < 4 ∧ c.1 = 100 + j ∧ H[a]? = some (arrV (g_dA G j) c.2.length (vp_V c.2)))
theorem ev_at.kept {G : ev_G} {a : Nat} {c : ev_Cel} {H H1 : Heap} (h : ev_at G a c H) (hq : H1[a]? = H[a]?) : ev_at G a c H1 := by
  rcases h with ⟨r, h1, h2, h3⟩ | ⟨j, h1, h2, h3⟩
  · exact Or.inl ⟨r, h1, h2, h3.kept hq⟩
  · exact Or.inr ⟨j, h1, h2, hq.trans h3⟩
theorem ev_at.lt {G : ev_G} {a : Nat} {c : ev_Cel} {H : Heap} (h : ev_at G a c H) : a < H.size := by
  rcases h with ⟨r, h1, h2, cell, h3, -⟩ | ⟨j, h1, h2, h3⟩
  · exact (Array.getElem?_eq_some_iff.mp h3).1
  · exact (Array.getElem?_eq_some_iff.mp h3).1
def ev_H (G : ev_G) (h : ev_AH) (H : Heap) : Prop := ∀ (a : Nat) (c : ev_Cel), h a = some c → g_B G ≤ a ∧ ev_at G a c H
def ev_up (h : ev_AH) (a : Nat) (c : ev_Cel) : ev_AH := fun b => if b = a then some c else h b
theorem ev_H.up {G : ev_G} {h : ev_AH} {H H1 : Heap} {a : Nat} {c : ev_Cel} (hH : ev_H G h H) (hB : g_B G ≤ a) (he : ev_at G a c H1) (oq : ∀ q : Nat, q ≠ a → H1[q]? = H[q]?) : ev_H G (ev_up h a c) H1 := by
  intro b d hb
  unfold ev_up at hb
  by_cases e : b = a
  · rw [if_pos e] at hb
    cases hb
    subst e
    exact ⟨hB, he⟩
  · rw [if_neg e] at hb
    exact ⟨(hH b d hb).1, (hH b d hb).2.kept (oq b e)⟩
theorem ev_H.fresh {G : ev_G} {h : ev_AH} {H : Heap} (hH : ev_H G h H) {q : Nat} (hq : H.size ≤ q) : h q = none := by
  cases e : h q with
  | none => rfl
  | some c => exact absurd (hH q c e).2.lt (by omega)
theorem ev_H.new {G : ev_G} {h : ev_AH} {H H1 : Heap} {c : ev_Cel} (hH : ev_H G h H) (hB : g_B G ≤ H.size) (he : ev_at G H.size c H1) (o1 : ∀ q : Nat, q < H.size → H1[q]? = H[q]?) : ev_H G (ev_up h H.size c) H1 := by
  intro b d hb
  unfold ev_up at hb
  by_cases e : b = H.size
  · rw [if_pos e] at hb
    cases hb
    subst e
    exact ⟨hB, he⟩
  · rw [if_neg e] at hb
    exact ⟨(hH b d hb).1, (hH b d hb).2.kept (o1 b (hH b d hb).2.lt)⟩
theorem ev_H.keep {G : ev_G} {h : ev_AH} {H H1 : Heap} (hH : ev_H G h H) (o1 : ∀ q : Nat, q < H.size → H1[q]? = H[q]?) : ev_H G h H1 :=
  fun b d hb => ⟨(hH b d hb).1, (hH b d hb).2.kept (o1 b (hH b d hb).2.lt)⟩
/-- what a cell of the kind ci holds at its place k -/
def ev_f (h : ev_AH) (a ci k : Nat) : Option Value := match h a with
  | some c => if c.1 = ci then c.2[k]? else none
  | none => none
/-- how many places a cell of the kind ci has -/
def ev_n (h : ev_AH) (a ci : Nat) : Option Nat := match h a with
  | some c => if c.1 = ci then some c.2.length else none
  | none => none
/-- a place of a cell written -/
def ev_s (h : ev_AH) (a k : Nat) (v : Value) : ev_AH := fun b => if b = a then (h a).map (fun c => (c.1, c.2.set k v)) else h b
theorem ev_f_of {h : ev_AH} {a ci k : Nat} {v : Value} (e : ev_f h a ci k = some v) : ∃ fs : List Value, h a = some (ci, fs) ∧ fs[k]? = some v := by
  unfold ev_f at e
  cases q : h a with
  | none => rw [q] at e; cases e
  | some c =>
    rw [q] at e
    by_cases z : c.1 = ci
    · simp only [z, if_true] at e
      exact ⟨c.2, by rw [← z], e⟩
    · simp only [z, if_false] at e
      cases e
theorem ev_n_of {h : ev_AH} {a ci n : Nat} (e : ev_n h a ci = some n) : ∃ fs : List Value, h a = some (ci, fs) ∧ fs.length = n := by
  unfold ev_n at e
  cases q : h a with
  | none => rw [q] at e; cases e
  | some c =>
    rw [q] at e
    by_cases z : c.1 = ci
    · simp only [z, if_true, Option.some.injEq] at e
      exact ⟨c.2, by rw [← z], e⟩
    · simp only [z, if_false] at e
      cases e
theorem ev_s_eq {h : ev_AH} {a ci k : Nat} {fs : List Value} {v : Value} (e : h a = some (ci, fs)) : ev_s h a k v = ev_up h a (ci, fs.set k v) := by
  funext b
  unfold ev_s ev_up
  by_cases z : b = a
  · rw [if_pos z, if_pos z, e]; rfl
  · rw [if_neg z, if_neg z]
/-! reading behind writing -/
theorem ev_f_s {h : ev_AH} {a b ci k j : Nat} {v w : Value} (e : ev_f h a ci k = some w) : ev_f (ev_s h a k v) b ci j = if b = a ∧ j = k then some v else ev_f h b ci j := by
  obtain ⟨fs, h1, h2⟩ := ev_f_of e
  by_cases z : b = a
  · subst z
    unfold ev_f ev_s
    rw [if_pos rfl, h1]
    have hl : k < fs.length := (List.getElem?_eq_some_iff.mp h2).1
    by_cases y : j = k
    · subst y
      simp [hl]
    · simp [y, Ne.symm y]
  · unfold ev_f ev_s
    rw [if_neg z, if_neg (fun q => z q.1)]
theorem ev_f_so {h : ev_AH} {a b ci cj k j : Nat} {v w : Value} (e : ev_f h a ci k = some w) (hc : cj ≠ ci) : ev_f (ev_s h a k v) b cj j = ev_f h b cj j := by
  obtain ⟨fs, h1, h2⟩ := ev_f_of e
  by_cases z : b = a
  · subst z
    unfold ev_f ev_s
    rw [if_pos rfl, h1]
    simp [Ne.symm hc]
  · unfold ev_f ev_s
    rw [if_neg z]
theorem ev_n_s {h : ev_AH} {a b cj k : Nat} {v : Value} : ev_n (ev_s h a k v) b cj = ev_n h b cj := by
  unfold ev_n ev_s
  by_cases z : b = a
  · subst z
    rw [if_pos rfl]
    cases h b with
    | none => rfl
    | some c => simp
  · rw [if_neg z]
theorem ev_f_up {h : ev_AH} {a b ci j : Nat} {c : ev_Cel} (hb : b ≠ a) : ev_f (ev_up h a c) b ci j = ev_f h b ci j := by
  unfold ev_f ev_up
  rw [if_neg hb]
theorem ev_f_upn {h : ev_AH} {a b ci j : Nat} {c : ev_Cel} {v : Value} (hn : h a = none) (e : ev_f h b ci j = some v) : ev_f (ev_up h a c) b ci j = some v := by
  have hb : b ≠ a := fun z => by
    subst z
    unfold ev_f at e
    rw [hn] at e
    cases e
  rw [ev_f_up hb]
  exact e
theorem ev_f_new {h : ev_AH} {a ci j : Nat} {fs : List Value} : ev_f (ev_up h a (ci, fs)) a ci j = fs[j]? := by
  unfold ev_f ev_up
  rw [if_pos rfl]
  simp
/-! the start's own things: statics, strings, the script -/
def ev_Low (G : ev_G) (U : State) (H : Heap) : Prop :=
  va_Z "java/util/ArrayList" "DEFAULTCAPACITY_EMPTY_ELEMENTDATA" "[Ljava/lang/Object;" (.ref (g_t0 G)) (g_A G) U H ∧
  va_T (.object "java/lang/Object") (g_t0 G) 0 (fun _ => .null) (g_A G) U H ∧
  vx_Zq Bundle.tN "UNASSIGNED_STACK" Bundle.steD (g_A G) U H ∧ vx_Zq Bundle.tN "SUPPRESSED_SENTINEL" Bundle.listD (g_A G) U H ∧
  (∀ q ∈ ev_strs, ∃ a : Nat, vk_R q.1 q.2.1 q.2.2 a U) ∧ va_Mi "[Ljava/lang/Object;" (g_mi G) U ∧ va_X (g_sb G) (g_sL G) (g_xs G) U H ∧ g_sb G < g_B G ∧ g_t0 G < g_B G ∧
  (∀ q ∈ ev_casts, va_Nw (.castable q.1 q.2) U) ∧ (∀ q ∈ ev_nocasts, va_Nc q.1 q.2 U) ∧ va_AO "java/lang/Object" U ∧ va_Dc U ∧ (∀ x ∈ ev_decls, va_Nw (.declares x) U)
end
section
/-! EV: a method's walk over the heap of the mind -/
/-- a method: name, bytes, locals, answer; frames, locals' words, cells, slots; its table -/
abbrev ev_M : Type := MethodName × ByteArray × Nat × Option FieldType × (Nat × Nat × Nat × Nat) × List (Nat × Nat × Nat × Nat)
def m_y (M : ev_M) : MethodName := M.1
def m_cc (M : ev_M) : ByteArray := M.2.1
def m_nL (M : ev_M) : Nat := M.2.2.1
def m_rt (M : ev_M) : Option FieldType := M.2.2.2.1
def m_mc (M : ev_M) : Nat := M.2.2.2.2.1.2.2.1
def m_ms (M : ev_M) : Nat := M.2.2.2.2.1.2.2.2
def m_rm (M : ev_M) : Room := { frames := M.2.2.2.2.1.1, cells := m_mc M, slots := m_ms M, locals := M.2.2.2.2.1.2.1 }
def m_ht (M : ev_M) : List (Nat × Nat × Nat × Nat) := M.2.2.2.2.2
def ev_C (l : Launch) (G : ev_G) (M : ev_M) (p : Program) (s : State) (m : MethodId) (args : Array Value) (meth : Method) (c : Code) : Prop :=
  p.tables.exec = Jvm.exec ∧ c.code = m_cc M ∧ c.maxLocals = m_nL M ∧ s.vm.findClass (m_y M).cls = some m.cls ∧ (∀ w ∈ ev_TB, w.before args s = true) ∧ meth.sig.returnType = m_rt M ∧ meth.locks = false ∧ meth.name = (m_y M).name ∧
  c.exceptionTable.toList = tableOf (m_ht M) ∧ l.stackTraces = false ∧ va_K (g_D G) ev_cl (g_tys G) s ∧ g_B G ≤ s.heap.size ∧ ev_Low G s s.heap
abbrev ev_Fin : Type := List Frame → Array Value → State → State → Prop
def Ev (l : Launch) (G : ev_G) (M : ev_M) (pc : Nat) (ls : List (Nat × Value)) (st : List Value) (h : ev_AH) (uc us : Nat) (Q : ev_Fin) : Prop :=
  ∀ (p : Program) (e : Env) (s : State) (m : MethodId) (args : Array Value) (below : List Frame) (meth : Method) (c : Code) (H : Heap) (locs : List Loc) (cells slots : Nat) (lsA : Array Slot),
    ev_C l G M p s m args meth c → ev_H G h H → va_S (g_A G) s.heap H locs → lv_has lsA (m_nL M) ls → cells + uc ≤ m_mc M → slots + us ≤ m_ms M →
    W p l e (m_rm M) s m args below meth c H locs cells slots (Q below args s) (F0 m pc lsA st)
/-- thrown over the frame at pc: an object of the class E -/
def EvX (l : Launch) (G : ev_G) (M : ev_M) (pc : Nat) (ls : List (Nat × Value)) (h : ev_AH) (uc us : Nat) (Q : ev_Fin) (E : String) : Prop :=
  ∀ (p : Program) (e : Env) (s : State) (m : MethodId) (args : Array Value) (below : List Frame) (meth : Method) (c : Code) (H : Heap) (locs : List Loc) (cells slots : Nat) (lsA : Array Slot) (st : List Value) (q : Addr) (ce : Cell),
    ev_C l G M p s m args meth c → ev_H G h H → va_S (g_A G) s.heap H locs → lv_has lsA (m_nL M) ls → cells + uc ≤ m_mc M → slots + us ≤ m_ms M → H[q]? = some ce → ce.vm = .none → s.vm.findClass E = some ce.cls →
    vx_W p l e (m_rm M) s m args below meth c H locs cells slots (Q below args s) (F0 m pc lsA st) q
/-- a method's end: an answer, or the name of what is thrown; the heap then -/
abbrev ev_Post : Type := Option Value ⊕ String → ev_AH → Prop
def ev_Qc (G : ev_G) (P : ev_Post) : Array Value → State → Outcome → State → Prop := fun _ st o t => ∃ (v : Option Value) (h : ev_AH), o = .returned v ∧ P (.inl v) h ∧ ev_H G h t.heap ∧ va_F (g_A G) st t
def ev_XC (G : ev_G) (P : ev_Post) : String → State → State → Prop := fun E st t => ∃ h : ev_AH, P (.inr E) h ∧ ev_H G h t.heap ∧ va_F (g_A G) st t
def ev_fin (G : ev_G) (M : ev_M) (P : ev_Post) : ev_Fin := fun below args s => vx_MQ below (ev_Qc G P) (ev_XC G P) args s (m_mc M) (m_ms M) (g_A G)
def ev_Pc (l : Launch) (G : ev_G) (as : List Value) (h : ev_AH) : Array Value → State → Prop := fun v U => v = as.toArray ∧ l.stackTraces = false ∧ ev_H G h U.heap ∧ va_K (g_D G) ev_cl (g_tys G) U ∧ g_B G ≤ U.heap.size ∧ ev_Low G U U.heap
def m_code (M : ev_M) : Cond := match M.2.2.2.2.2 with
  | [] => .code (m_y M) (m_cc M) (m_nL M) (m_rt M)
  | _ => .codeWith (m_y M) (m_cc M) (m_nL M) (m_rt M) (m_ht M)
/-- a method's contract at these arguments and this heap -/
def Mt (l : Launch) (G : ev_G) (M : ev_M) (as : List Value) (h : ev_AH) (P : ev_Post) : Prop :=
  vx_Met l (m_y M) (m_code M :: ev_TB) (m_rm M) (ev_Pc l G as h) (ev_Qc G P) (ev_XC G P) (m_mc M) (m_ms M) (g_A G)
theorem ev_Low.moved {G : ev_G} {u U : State} {H : Heap} (hW : u.WarmedH U.vm) (h : ev_Low G u H) : ev_Low G U H := by
  obtain ⟨h1, h2, h3, h4, h5, h6, h7, h8, h9, h10, h11, h12, h13, h14⟩ := h
  have hvm := hW.alike
  exact ⟨va_Z.moved hvm h1, va_T.moved hvm h2, vx_Zq.moved hvm h3, vx_Zq.moved hvm h4, fun q hq => (h5 q hq).imp fun a ha => vk_R.warm hW ha, va_Mi.moved hvm h6, va_X.moved hvm h7, h8, h9, fun q hq => va_Nw.warmC hW (h10 q hq), fun q hq => va_Nc.moved hvm (h11 q hq), va_AO.moved hvm h12, va_Dc.moved hvm h13, fun x hx => va_Nw.warmD hW (h14 x hx)⟩
theorem ev_Low.kept {G : ev_G} {U : State} {H H1 : Heap} (h : ev_Low G U H) (hq : ∀ a : Nat, a < H.size → ¬ g_A G a → H1[a]? = H[a]?) : ev_Low G U H1 := by
  obtain ⟨h1, h2, h3, h4, h5, h6, h7, h8, h9, h10⟩ := h
  refine ⟨h1.kept hq, h2.kept hq, h3.kept hq, h4.kept hq, h5, h6, h7.kept (hq _ ?_ ?_), h8, h9, h10⟩
  · obtain ⟨scr, e, -⟩ := h7
    exact (Array.getElem?_eq_some_iff.mp e).1
  · unfold g_A
    omega
/-- the same tables, another stack of frames -/
theorem ev_Low.same {G : ev_G} {u U : State} {H : Heap} (hv : U.vm = u.vm) (h : ev_Low G u H) : ev_Low G U H := by
  refine ev_Low.moved (u := u) ?_ h
  rw [hv]
  exact State.WarmedH.refl u
theorem ev_Pc.blind {l : Launch} {G : ev_G} {as : List Value} {h : ev_AH} : FrameBlind (ev_Pc l G as h) := by
  intro a U g mk q
  obtain ⟨q0, q1, q2, q3, q4, q5⟩ := q
  exact ⟨q0, q1, q2, va_K.moved (u := U) (U := U.calling g mk a) (Vm.Alike.refl U.vm) q3, q4, ev_Low.same (u := U) (U := U.calling g mk a) rfl q5⟩
section EV
variable {l : Launch} {G : ev_G} {M : ev_M} {pc : Nat} {ls : List (Nat × Value)} {st : List Value} {h : ev_AH} {uc us : Nat} {Q : ev_Fin} {P : ev_Post}
theorem Ev.widen {vc vs : Nat} (hc : vc ≤ uc) (hs : vs ≤ us) (K : Ev l G M pc ls st h vc vs Q) : Ev l G M pc ls st h uc us Q :=
  fun p e s m args below meth c H locs cells slots lsA C hH hS hl h1 h2 => K p e s m args below meth c H locs cells slots lsA C hH hS hl (by omega) (by omega)
theorem Ev.loc {ls' : List (Nat × Value)} (ks : List Nat) (hk : lv_pick ls ks = ls') (K : Ev l G M pc ls' st h uc us Q) : Ev l G M pc ls st h uc us Q :=
  fun p e s m args below meth c H locs cells slots lsA C hH hS hl h1 h2 => K p e s m args below meth c H locs cells slots lsA C hH hS (lv_sub hl ks hk) h1 h2
/-- the walk from the entry gives the contract: a method without a table -/
theorem Mt.of {as : List Value} (hy : plainName (m_y M).cls = true) (ht : m_ht M = []) (hn : (lg_sl as).length ≤ m_nL M) (K : Ev l G M 0 (lv_args 0 as) [] h (m_mc M) (m_ms M) (ev_fin G M P)) : Mt l G M as h P := by
  have hcode : m_code M = .code (m_y M) (m_cc M) (m_nL M) (m_rt M) := by
    unfold m_code
    unfold m_ht at ht
    rw [ht]
  unfold Mt
  rw [hcode]
  refine vx_ofW (cc := m_cc M) (maxL := m_nL M) (ret := m_rt M) hy rfl ?_
  intro p e s m args below meth c s₁ B hml htab hv
  obtain ⟨rfl, hst, hH, hK, hB, hL⟩ := hv
  have hts := atoms_spec (ws := Cond.code (m_y M) (m_cc M) (m_nL M) (m_rt M) :: ev_TB) B.pre
  have htb : c.exceptionTable.toList = tableOf (m_ht M) := by
    rw [ht]
    cases q : c.exceptionTable.toList with
    | nil => rfl
    | cons x xs => exact (htab x (by rw [q]; exact List.mem_cons_self)).elim
  have hl := lv_entry as (n := m_nL M) hn
  rw [lg_entry_eq]
  exact K p e s m _ below meth c s.heap [] 0 0 _ ⟨B.exec, B.bytes, hml, findClass_of_methodNamed B.named, fun w hw => hts w (List.mem_cons_of_mem _ hw), B.returns, B.notSynchronized, (name_of_methodNamed B.named B.method).1, htb, hst, hK, hB, hL⟩ hH va_S.rf hl (by omega) (by omega)
end EV
end
section
section ROWS
variable {l : Launch} {G : ev_G} {M : ev_M} {pc : Nat} {ls : List (Nat × Value)} {st : List Value} {h : ev_AH} {uc us : Nat} {Q : ev_Fin} {P : ev_Post}
theorem e_iconst {n : Int} {v : Int32} (hd : decode (m_cc M) pc = .ok (.iconst n, 1)) (hv : Int32.ofInt n = v) (K : Ev l G M (pc + 1) ls (.int v :: st) h uc us Q) : Ev l G M pc ls st h uc us Q :=
  fun p e s m args below meth c H locs cells slots lsA C hH hS hl h1 h2 => lv_iconst C.1 C.2.1 hd hv (K p e s m args below meth c H locs cells slots lsA C hH hS hl h1 h2)
theorem e_bipush {n : Int} {v : Int32} (hd : decode (m_cc M) pc = .ok (.bipush n, 2)) (hv : (Int8.ofInt n).toInt32 = v) (K : Ev l G M (pc + 2) ls (.int v :: st) h uc us Q) : Ev l G M pc ls st h uc us Q :=
  fun p e s m args below meth c H locs cells slots lsA C hH hS hl h1 h2 => lv_bipush C.1 C.2.1 hd hv (K p e s m args below meth c H locs cells slots lsA C hH hS hl h1 h2)
theorem e_sipush {n : Int} {v : Int32} (hd : decode (m_cc M) pc = .ok (.sipush n, 3)) (hv : (Int16.ofInt n).toInt32 = v) (K : Ev l G M (pc + 3) ls (.int v :: st) h uc us Q) : Ev l G M pc ls st h uc us Q :=
  fun p e s m args below meth c H locs cells slots lsA C hH hS hl h1 h2 => lv_sipush C.1 C.2.1 hd hv (K p e s m args below meth c H locs cells slots lsA C hH hS hl h1 h2)
theorem e_lconst {n : Fin 2} {v : Int64} (hd : decode (m_cc M) pc = .ok (.lconst n, 1)) (hv : Int64.ofNat (n : Nat) = v) (K : Ev l G M (pc + 1) ls (.long v :: st) h uc us Q) : Ev l G M pc ls st h uc us Q :=
  fun p e s m args below meth c H locs cells slots lsA C hH hS hl h1 h2 => lv_lconst C.1 C.2.1 hd hv (K p e s m args below meth c H locs cells slots lsA C hH hS hl h1 h2)
theorem e_null (hd : decode (m_cc M) pc = .ok (.aconst_null, 1)) (K : Ev l G M (pc + 1) ls (.null :: st) h uc us Q) : Ev l G M pc ls st h uc us Q :=
  fun p e s m args below meth c H locs cells slots lsA C hH hS hl h1 h2 => lv_null C.1 C.2.1 hd (K p e s m args below meth c H locs cells slots lsA C hH hS hl h1 h2)
theorem e_iload_n {q : Fin 4} {i : Nat} {x : Int32} (hd : decode (m_cc M) pc = .ok (.iload_n q, 1)) (hi : (q : Nat) = i) (k : Nat) (hk : ls[k]? = some (i, .int x)) (K : Ev l G M (pc + 1) ls (.int x :: st) h uc us Q) : Ev l G M pc ls st h uc us Q :=
  fun p e s m args below meth c H locs cells slots lsA C hH hS hl h1 h2 => lv_iload_n C.1 C.2.1 hd hi (lv_at hl k hk) (K p e s m args below meth c H locs cells slots lsA C hH hS hl h1 h2)
theorem e_iload {i : Nat} {x : Int32} (hd : decode (m_cc M) pc = .ok (.iload i, 2)) (k : Nat) (hk : ls[k]? = some (i, .int x)) (K : Ev l G M (pc + 2) ls (.int x :: st) h uc us Q) : Ev l G M pc ls st h uc us Q :=
  fun p e s m args below meth c H locs cells slots lsA C hH hS hl h1 h2 => lv_iload C.1 C.2.1 hd (lv_at hl k hk) (K p e s m args below meth c H locs cells slots lsA C hH hS hl h1 h2)
theorem e_lload_n {q : Fin 4} {i : Nat} {x : Int64} (hd : decode (m_cc M) pc = .ok (.lload_n q, 1)) (hi : (q : Nat) = i) (k : Nat) (hk : ls[k]? = some (i, .long x)) (K : Ev l G M (pc + 1) ls (.long x :: st) h uc us Q) : Ev l G M pc ls st h uc us Q :=
  fun p e s m args below meth c H locs cells slots lsA C hH hS hl h1 h2 => lv_lload_n C.1 C.2.1 hd hi (lv_at hl k hk) (K p e s m args below meth c H locs cells slots lsA C hH hS hl h1 h2)
theorem e_lload {i : Nat} {x : Int64} (hd : decode (m_cc M) pc = .ok (.lload i, 2)) (k : Nat) (hk : ls[k]? = some (i, .long x)) (K : Ev l G M (pc + 2) ls (.long x :: st) h uc us Q) : Ev l G M pc ls st h uc us Q :=
  fun p e s m args below meth c H locs cells slots lsA C hH hS hl h1 h2 => lv_lload C.1 C.2.1 hd (lv_at hl k hk) (K p e s m args below meth c H locs cells slots lsA C hH hS hl h1 h2)
theorem e_aload_n {q : Fin 4} {i : Nat} {x : Nat} (hd : decode (m_cc M) pc = .ok (.aload_n q, 1)) (hi : (q : Nat) = i) (k : Nat) (hk : ls[k]? = some (i, .ref x)) (K : Ev l G M (pc + 1) ls (.ref x :: st) h uc us Q) : Ev l G M pc ls st h uc us Q :=
  fun p e s m args below meth c H locs cells slots lsA C hH hS hl h1 h2 => lv_aload_n C.1 C.2.1 hd hi (lv_at hl k hk) (K p e s m args below meth c H locs cells slots lsA C hH hS hl h1 h2)
theorem e_aload {i : Nat} {x : Nat} (hd : decode (m_cc M) pc = .ok (.aload i, 2)) (k : Nat) (hk : ls[k]? = some (i, .ref x)) (K : Ev l G M (pc + 2) ls (.ref x :: st) h uc us Q) : Ev l G M pc ls st h uc us Q :=
  fun p e s m args below meth c H locs cells slots lsA C hH hS hl h1 h2 => lv_aload C.1 C.2.1 hd (lv_at hl k hk) (K p e s m args below meth c H locs cells slots lsA C hH hS hl h1 h2)
theorem e_aload_nN {q : Fin 4} {i : Nat} (hd : decode (m_cc M) pc = .ok (.aload_n q, 1)) (hi : (q : Nat) = i) (k : Nat) (hk : ls[k]? = some (i, .null)) (K : Ev l G M (pc + 1) ls (.null :: st) h uc us Q) : Ev l G M pc ls st h uc us Q :=
  fun p e s m args below meth c H locs cells slots lsA C hH hS hl h1 h2 => lv_aload_nN C.1 C.2.1 hd hi (lv_at hl k hk) (K p e s m args below meth c H locs cells slots lsA C hH hS hl h1 h2)
theorem e_istore_n {q : Fin 4} {i : Nat} {x : Int32} {ls' : List (Nat × Value)} (hd : decode (m_cc M) pc = .ok (.istore_n q, 1)) (hi : (q : Nat) = i) (hn : i < m_nL M) (hl' : (i, Value.int x) :: ls.filter (fun q => !(q.1 == i) && !(q.1 + 1 == i && q.2.category == 2)) = ls') (K : Ev l G M (pc + 1) ls' st h uc us Q) : Ev l G M pc ls (.int x :: st) h uc us Q :=
  fun p e s m args below meth c H locs cells slots lsA C hH hS hl h1 h2 => lv_istore_n C.1 C.2.1 hd hi hl hn hl' (fun lsB hb => K p e s m args below meth c H locs cells slots lsB C hH hS hb h1 h2)
theorem e_istore {i : Nat} {x : Int32} {ls' : List (Nat × Value)} (hd : decode (m_cc M) pc = .ok (.istore i, 2)) (hn : i < m_nL M) (hl' : (i, Value.int x) :: ls.filter (fun q => !(q.1 == i) && !(q.1 + 1 == i && q.2.category == 2)) = ls') (K : Ev l G M (pc + 2) ls' st h uc us Q) : Ev l G M pc ls (.int x :: st) h uc us Q :=
  fun p e s m args below meth c H locs cells slots lsA C hH hS hl h1 h2 => lv_istore C.1 C.2.1 hd hl hn hl' (fun lsB hb => K p e s m args below meth c H locs cells slots lsB C hH hS hb h1 h2)
theorem e_astore_n {q : Fin 4} {i : Nat} {x : Nat} {ls' : List (Nat × Value)} (hd : decode (m_cc M) pc = .ok (.astore_n q, 1)) (hi : (q : Nat) = i) (hn : i < m_nL M) (hl' : (i, Value.ref x) :: ls.filter (fun q => !(q.1 == i) && !(q.1 + 1 == i && q.2.category == 2)) = ls') (K : Ev l G M (pc + 1) ls' st h uc us Q) : Ev l G M pc ls (.ref x :: st) h uc us Q :=
  fun p e s m args below meth c H locs cells slots lsA C hH hS hl h1 h2 => lv_astore_n C.1 C.2.1 hd hi hl hn hl' (fun lsB hb => K p e s m args below meth c H locs cells slots lsB C hH hS hb h1 h2)
theorem e_astore {i : Nat} {x : Nat} {ls' : List (Nat × Value)} (hd : decode (m_cc M) pc = .ok (.astore i, 2)) (hn : i < m_nL M) (hl' : (i, Value.ref x) :: ls.filter (fun q => !(q.1 == i) && !(q.1 + 1 == i && q.2.category == 2)) = ls') (K : Ev l G M (pc + 2) ls' st h uc us Q) : Ev l G M pc ls (.ref x :: st) h uc us Q :=
  fun p e s m args below meth c H locs cells slots lsA C hH hS hl h1 h2 => lv_astore C.1 C.2.1 hd hl hn hl' (fun lsB hb => K p e s m args below meth c H locs cells slots lsB C hH hS hb h1 h2)
theorem e_lstore_n {q : Fin 4} {i : Nat} {x : Int64} {ls' : List (Nat × Value)} (hd : decode (m_cc M) pc = .ok (.lstore_n q, 1)) (hi : (q : Nat) = i) (hn : i + 1 < m_nL M) (hl' : (i, Value.long x) :: ls.filter (fun q => !(q.1 == i) && (!(q.1 == i + 1) && !(q.1 + 1 == i && q.2.category == 2))) = ls') (K : Ev l G M (pc + 1) ls' st h uc us Q) : Ev l G M pc ls (.long x :: st) h uc us Q :=
  fun p e s m args below meth c H locs cells slots lsA C hH hS hl h1 h2 => lv_lstore_n C.1 C.2.1 hd hi hl hn hl' (fun lsB hb => K p e s m args below meth c H locs cells slots lsB C hH hS hb h1 h2)
theorem e_lstore {i : Nat} {x : Int64} {ls' : List (Nat × Value)} (hd : decode (m_cc M) pc = .ok (.lstore i, 2)) (hn : i + 1 < m_nL M) (hl' : (i, Value.long x) :: ls.filter (fun q => !(q.1 == i) && (!(q.1 == i + 1) && !(q.1 + 1 == i && q.2.category == 2))) = ls') (K : Ev l G M (pc + 2) ls' st h uc us Q) : Ev l G M pc ls (.long x :: st) h uc us Q :=
  fun p e s m args below meth c H locs cells slots lsA C hH hS hl h1 h2 => lv_lstore C.1 C.2.1 hd hl hn hl' (fun lsB hb => K p e s m args below meth c H locs cells slots lsB C hH hS hb h1 h2)
theorem e_iinc {i k : Nat} {n : Int} {x v : Int32} {ls' : List (Nat × Value)} (hd : decode (m_cc M) pc = .ok (.iinc i n, 3)) (hk : ls[k]? = some (i, .int x)) (hv : x + Int32.ofInt n = v) (hn : i < m_nL M) (hl' : (i, Value.int v) :: ls.filter (fun q => !(q.1 == i) && !(q.1 + 1 == i && q.2.category == 2)) = ls') (K : Ev l G M (pc + 3) ls' st h uc us Q) : Ev l G M pc ls st h uc us Q :=
  fun p e s m args below meth c H locs cells slots lsA C hH hS hl h1 h2 => lv_iinc C.1 C.2.1 hd hl hk hv hn hl' (fun lsB hb => K p e s m args below meth c H locs cells slots lsB C hH hS hb h1 h2)
theorem e_iadd {x y : Int32} (hd : decode (m_cc M) pc = .ok (.iadd, 1)) (K : Ev l G M (pc + 1) ls (.int (x + y) :: st) h uc us Q) : Ev l G M pc ls (.int y :: .int x :: st) h uc us Q :=
  fun p e s m args below meth c H locs cells slots lsA C hH hS hl h1 h2 => lv_iadd C.1 C.2.1 hd (K p e s m args below meth c H locs cells slots lsA C hH hS hl h1 h2)
theorem e_isub {x y : Int32} (hd : decode (m_cc M) pc = .ok (.isub, 1)) (K : Ev l G M (pc + 1) ls (.int (x - y) :: st) h uc us Q) : Ev l G M pc ls (.int y :: .int x :: st) h uc us Q :=
  fun p e s m args below meth c H locs cells slots lsA C hH hS hl h1 h2 => lv_isub C.1 C.2.1 hd (K p e s m args below meth c H locs cells slots lsA C hH hS hl h1 h2)
theorem e_imul {x y : Int32} (hd : decode (m_cc M) pc = .ok (.imul, 1)) (K : Ev l G M (pc + 1) ls (.int (x * y) :: st) h uc us Q) : Ev l G M pc ls (.int y :: .int x :: st) h uc us Q :=
  fun p e s m args below meth c H locs cells slots lsA C hH hS hl h1 h2 => lv_imul C.1 C.2.1 hd (K p e s m args below meth c H locs cells slots lsA C hH hS hl h1 h2)
theorem e_iand {x y : Int32} (hd : decode (m_cc M) pc = .ok (.iand, 1)) (K : Ev l G M (pc + 1) ls (.int (x &&& y) :: st) h uc us Q) : Ev l G M pc ls (.int y :: .int x :: st) h uc us Q :=
  fun p e s m args below meth c H locs cells slots lsA C hH hS hl h1 h2 => lv_iand C.1 C.2.1 hd (K p e s m args below meth c H locs cells slots lsA C hH hS hl h1 h2)
theorem e_ior {x y : Int32} (hd : decode (m_cc M) pc = .ok (.ior, 1)) (K : Ev l G M (pc + 1) ls (.int (x ||| y) :: st) h uc us Q) : Ev l G M pc ls (.int y :: .int x :: st) h uc us Q :=
  fun p e s m args below meth c H locs cells slots lsA C hH hS hl h1 h2 => lv_ior C.1 C.2.1 hd (K p e s m args below meth c H locs cells slots lsA C hH hS hl h1 h2)
theorem e_ixor {x y : Int32} (hd : decode (m_cc M) pc = .ok (.ixor, 1)) (K : Ev l G M (pc + 1) ls (.int (x ^^^ y) :: st) h uc us Q) : Ev l G M pc ls (.int y :: .int x :: st) h uc us Q :=
  fun p e s m args below meth c H locs cells slots lsA C hH hS hl h1 h2 => lv_ixor C.1 C.2.1 hd (K p e s m args below meth c H locs cells slots lsA C hH hS hl h1 h2)
theorem e_ishl {x y : Int32} (hd : decode (m_cc M) pc = .ok (.ishl, 1)) (K : Ev l G M (pc + 1) ls (.int (x <<< (y &&& 31)) :: st) h uc us Q) : Ev l G M pc ls (.int y :: .int x :: st) h uc us Q :=
  fun p e s m args below meth c H locs cells slots lsA C hH hS hl h1 h2 => lv_ishl C.1 C.2.1 hd (K p e s m args below meth c H locs cells slots lsA C hH hS hl h1 h2)
theorem e_ishr {x y : Int32} (hd : decode (m_cc M) pc = .ok (.ishr, 1)) (K : Ev l G M (pc + 1) ls (.int (x >>> (y &&& 31)) :: st) h uc us Q) : Ev l G M pc ls (.int y :: .int x :: st) h uc us Q :=
  fun p e s m args below meth c H locs cells slots lsA C hH hS hl h1 h2 => lv_ishr C.1 C.2.1 hd (K p e s m args below meth c H locs cells slots lsA C hH hS hl h1 h2)
theorem e_lor {x y : Int64} (hd : decode (m_cc M) pc = .ok (.lor, 1)) (K : Ev l G M (pc + 1) ls (.long (x ||| y) :: st) h uc us Q) : Ev l G M pc ls (.long y :: .long x :: st) h uc us Q :=
  fun p e s m args below meth c H locs cells slots lsA C hH hS hl h1 h2 => lv_lor C.1 C.2.1 hd (K p e s m args below meth c H locs cells slots lsA C hH hS hl h1 h2)
theorem e_lshl {x v : Int64} {y : Int32} (hd : decode (m_cc M) pc = .ok (.lshl, 1)) (hv : x <<< (y.toInt64 &&& 63) = v) (K : Ev l G M (pc + 1) ls (.long v :: st) h uc us Q) : Ev l G M pc ls (.int y :: .long x :: st) h uc us Q :=
  fun p e s m args below meth c H locs cells slots lsA C hH hS hl h1 h2 => lv_lshl C.1 C.2.1 hd hv (K p e s m args below meth c H locs cells slots lsA C hH hS hl h1 h2)
theorem e_i2l {x : Int32} {v : Int64} (hd : decode (m_cc M) pc = .ok (.i2l, 1)) (hv : x.toInt64 = v) (K : Ev l G M (pc + 1) ls (.long v :: st) h uc us Q) : Ev l G M pc ls (.int x :: st) h uc us Q :=
  fun p e s m args below meth c H locs cells slots lsA C hH hS hl h1 h2 => lv_i2l C.1 C.2.1 hd hv (K p e s m args below meth c H locs cells slots lsA C hH hS hl h1 h2)
theorem e_lcmp {x y : Int64} (hd : decode (m_cc M) pc = .ok (.lcmp, 1)) (K : Ev l G M (pc + 1) ls (.int (lg_cmp x y) :: st) h uc us Q) : Ev l G M pc ls (.long y :: .long x :: st) h uc us Q :=
  fun p e s m args below meth c H locs cells slots lsA C hH hS hl h1 h2 => W.lcmp C.1 C.2.1 hd (K p e s m args below meth c H locs cells slots lsA C hH hS hl h1 h2)
theorem e_dup {v : Value} (hd : decode (m_cc M) pc = .ok (.dup, 1)) (hv : v.category = 1) (K : Ev l G M (pc + 1) ls (v :: v :: st) h uc us Q) : Ev l G M pc ls (v :: st) h uc us Q :=
  fun p e s m args below meth c H locs cells slots lsA C hH hS hl h1 h2 => lv_dup C.1 C.2.1 hd hv (K p e s m args below meth c H locs cells slots lsA C hH hS hl h1 h2)
theorem e_pop {v : Value} (hd : decode (m_cc M) pc = .ok (.pop, 1)) (hv : v.category = 1) (K : Ev l G M (pc + 1) ls st h uc us Q) : Ev l G M pc ls (v :: st) h uc us Q :=
  fun p e s m args below meth c H locs cells slots lsA C hH hS hl h1 h2 => lv_pop C.1 C.2.1 hd hv (K p e s m args below meth c H locs cells slots lsA C hH hS hl h1 h2)
theorem e_dup_x1 {v w : Value} (hd : decode (m_cc M) pc = .ok (.dup_x1, 1)) (hv : v.category = 1) (hw : w.category = 1) (K : Ev l G M (pc + 1) ls (v :: w :: v :: st) h uc us Q) : Ev l G M pc ls (v :: w :: st) h uc us Q :=
  fun p e s m args below meth c H locs cells slots lsA C hH hS hl h1 h2 => lv_dup_x1 C.1 C.2.1 hd hv hw (K p e s m args below meth c H locs cells slots lsA C hH hS hl h1 h2)
theorem e_dup2 {v w : Value} (hd : decode (m_cc M) pc = .ok (.dup2, 1)) (hv : v.category = 1) (hw : w.category = 1) (K : Ev l G M (pc + 1) ls (v :: w :: v :: w :: st) h uc us Q) : Ev l G M pc ls (v :: w :: st) h uc us Q :=
  fun p e s m args below meth c H locs cells slots lsA C hH hS hl h1 h2 => lv_dup2_11 C.1 C.2.1 hd hv hw (K p e s m args below meth c H locs cells slots lsA C hH hS hl h1 h2)
theorem e_if_eq {x : Int32} {off : Int} {tgt : Nat} (hd : decode (m_cc M) pc = .ok (.ifCond .eq off, 3)) (ht : (pc : Int) + off = (tgt : Int)) (kt : x = 0 → Ev l G M tgt ls st h uc us Q) (kf : ¬ x = 0 → Ev l G M (pc + 3) ls st h uc us Q) : Ev l G M pc ls (.int x :: st) h uc us Q :=
  fun p e s m args below meth c H locs cells slots lsA C hH hS hl h1 h2 => lv_if_eq C.1 C.2.1 hd ht (fun z => kt z p e s m args below meth c H locs cells slots lsA C hH hS hl h1 h2) (fun z => kf z p e s m args below meth c H locs cells slots lsA C hH hS hl h1 h2)
theorem e_icmp_eq {x y : Int32} {off : Int} {tgt : Nat} (hd : decode (m_cc M) pc = .ok (.if_icmp .eq off, 3)) (ht : (pc : Int) + off = (tgt : Int)) (kt : x = y → Ev l G M tgt ls st h uc us Q) (kf : ¬ x = y → Ev l G M (pc + 3) ls st h uc us Q) : Ev l G M pc ls (.int y :: .int x :: st) h uc us Q :=
  fun p e s m args below meth c H locs cells slots lsA C hH hS hl h1 h2 => lv_icmp_eq C.1 C.2.1 hd ht (fun z => kt z p e s m args below meth c H locs cells slots lsA C hH hS hl h1 h2) (fun z => kf z p e s m args below meth c H locs cells slots lsA C hH hS hl h1 h2)
theorem e_if_ne {x : Int32} {off : Int} {tgt : Nat} (hd : decode (m_cc M) pc = .ok (.ifCond .ne off, 3)) (ht : (pc : Int) + off = (tgt : Int)) (kt : ¬ x = 0 → Ev l G M tgt ls st h uc us Q) (kf : x = 0 → Ev l G M (pc + 3) ls st h uc us Q) : Ev l G M pc ls (.int x :: st) h uc us Q :=
  fun p e s m args below meth c H locs cells slots lsA C hH hS hl h1 h2 => lv_if_ne C.1 C.2.1 hd ht (fun z => kt z p e s m args below meth c H locs cells slots lsA C hH hS hl h1 h2) (fun z => kf z p e s m args below meth c H locs cells slots lsA C hH hS hl h1 h2)
theorem e_icmp_ne {x y : Int32} {off : Int} {tgt : Nat} (hd : decode (m_cc M) pc = .ok (.if_icmp .ne off, 3)) (ht : (pc : Int) + off = (tgt : Int)) (kt : ¬ x = y → Ev l G M tgt ls st h uc us Q) (kf : x = y → Ev l G M (pc + 3) ls st h uc us Q) : Ev l G M pc ls (.int y :: .int x :: st) h uc us Q :=
  fun p e s m args below meth c H locs cells slots lsA C hH hS hl h1 h2 => lv_icmp_ne C.1 C.2.1 hd ht (fun z => kt z p e s m args below meth c H locs cells slots lsA C hH hS hl h1 h2) (fun z => kf z p e s m args below meth c H locs cells slots lsA C hH hS hl h1 h2)
theorem e_if_lt {x : Int32} {off : Int} {tgt : Nat} (hd : decode (m_cc M) pc = .ok (.ifCond .lt off, 3)) (ht : (pc : Int) + off = (tgt : Int)) (kt : x < 0 → Ev l G M tgt ls st h uc us Q) (kf : ¬ x < 0 → Ev l G M (pc + 3) ls st h uc us Q) : Ev l G M pc ls (.int x :: st) h uc us Q :=
  fun p e s m args below meth c H locs cells slots lsA C hH hS hl h1 h2 => lv_if_lt C.1 C.2.1 hd ht (fun z => kt z p e s m args below meth c H locs cells slots lsA C hH hS hl h1 h2) (fun z => kf z p e s m args below meth c H locs cells slots lsA C hH hS hl h1 h2)
theorem e_icmp_lt {x y : Int32} {off : Int} {tgt : Nat} (hd : decode (m_cc M) pc = .ok (.if_icmp .lt off, 3)) (ht : (pc : Int) + off = (tgt : Int)) (kt : x < y → Ev l G M tgt ls st h uc us Q) (kf : ¬ x < y → Ev l G M (pc + 3) ls st h uc us Q) : Ev l G M pc ls (.int y :: .int x :: st) h uc us Q :=
  fun p e s m args below meth c H locs cells slots lsA C hH hS hl h1 h2 => lv_icmp_lt C.1 C.2.1 hd ht (fun z => kt z p e s m args below meth c H locs cells slots lsA C hH hS hl h1 h2) (fun z => kf z p e s m args below meth c H locs cells slots lsA C hH hS hl h1 h2)
theorem e_if_ge {x : Int32} {off : Int} {tgt : Nat} (hd : decode (m_cc M) pc = .ok (.ifCond .ge off, 3)) (ht : (pc : Int) + off = (tgt : Int)) (kt : 0 ≤ x → Ev l G M tgt ls st h uc us Q) (kf : ¬ 0 ≤ x → Ev l G M (pc + 3) ls st h uc us Q) : Ev l G M pc ls (.int x :: st) h uc us Q :=
  fun p e s m args below meth c H locs cells slots lsA C hH hS hl h1 h2 => lv_if_ge C.1 C.2.1 hd ht (fun z => kt z p e s m args below meth c H locs cells slots lsA C hH hS hl h1 h2) (fun z => kf z p e s m args below meth c H locs cells slots lsA C hH hS hl h1 h2)
theorem e_icmp_ge {x y : Int32} {off : Int} {tgt : Nat} (hd : decode (m_cc M) pc = .ok (.if_icmp .ge off, 3)) (ht : (pc : Int) + off = (tgt : Int)) (kt : y ≤ x → Ev l G M tgt ls st h uc us Q) (kf : ¬ y ≤ x → Ev l G M (pc + 3) ls st h uc us Q) : Ev l G M pc ls (.int y :: .int x :: st) h uc us Q :=
  fun p e s m args below meth c H locs cells slots lsA C hH hS hl h1 h2 => lv_icmp_ge C.1 C.2.1 hd ht (fun z => kt z p e s m args below meth c H locs cells slots lsA C hH hS hl h1 h2) (fun z => kf z p e s m args below meth c H locs cells slots lsA C hH hS hl h1 h2)
theorem e_if_gt {x : Int32} {off : Int} {tgt : Nat} (hd : decode (m_cc M) pc = .ok (.ifCond .gt off, 3)) (ht : (pc : Int) + off = (tgt : Int)) (kt : 0 < x → Ev l G M tgt ls st h uc us Q) (kf : ¬ 0 < x → Ev l G M (pc + 3) ls st h uc us Q) : Ev l G M pc ls (.int x :: st) h uc us Q :=
  fun p e s m args below meth c H locs cells slots lsA C hH hS hl h1 h2 => lv_if_gt C.1 C.2.1 hd ht (fun z => kt z p e s m args below meth c H locs cells slots lsA C hH hS hl h1 h2) (fun z => kf z p e s m args below meth c H locs cells slots lsA C hH hS hl h1 h2)
theorem e_icmp_gt {x y : Int32} {off : Int} {tgt : Nat} (hd : decode (m_cc M) pc = .ok (.if_icmp .gt off, 3)) (ht : (pc : Int) + off = (tgt : Int)) (kt : y < x → Ev l G M tgt ls st h uc us Q) (kf : ¬ y < x → Ev l G M (pc + 3) ls st h uc us Q) : Ev l G M pc ls (.int y :: .int x :: st) h uc us Q :=
  fun p e s m args below meth c H locs cells slots lsA C hH hS hl h1 h2 => lv_icmp_gt C.1 C.2.1 hd ht (fun z => kt z p e s m args below meth c H locs cells slots lsA C hH hS hl h1 h2) (fun z => kf z p e s m args below meth c H locs cells slots lsA C hH hS hl h1 h2)
theorem e_if_le {x : Int32} {off : Int} {tgt : Nat} (hd : decode (m_cc M) pc = .ok (.ifCond .le off, 3)) (ht : (pc : Int) + off = (tgt : Int)) (kt : x ≤ 0 → Ev l G M tgt ls st h uc us Q) (kf : ¬ x ≤ 0 → Ev l G M (pc + 3) ls st h uc us Q) : Ev l G M pc ls (.int x :: st) h uc us Q :=
  fun p e s m args below meth c H locs cells slots lsA C hH hS hl h1 h2 => lv_if_le C.1 C.2.1 hd ht (fun z => kt z p e s m args below meth c H locs cells slots lsA C hH hS hl h1 h2) (fun z => kf z p e s m args below meth c H locs cells slots lsA C hH hS hl h1 h2)
theorem e_icmp_le {x y : Int32} {off : Int} {tgt : Nat} (hd : decode (m_cc M) pc = .ok (.if_icmp .le off, 3)) (ht : (pc : Int) + off = (tgt : Int)) (kt : x ≤ y → Ev l G M tgt ls st h uc us Q) (kf : ¬ x ≤ y → Ev l G M (pc + 3) ls st h uc us Q) : Ev l G M pc ls (.int y :: .int x :: st) h uc us Q :=
  fun p e s m args below meth c H locs cells slots lsA C hH hS hl h1 h2 => lv_icmp_le C.1 C.2.1 hd ht (fun z => kt z p e s m args below meth c H locs cells slots lsA C hH hS hl h1 h2) (fun z => kf z p e s m args below meth c H locs cells slots lsA C hH hS hl h1 h2)
theorem e_acmp_eq {x y : Nat} {off : Int} {tgt : Nat} (hd : decode (m_cc M) pc = .ok (.if_acmp .eq off, 3)) (ht : (pc : Int) + off = (tgt : Int)) (kt : x = y → Ev l G M tgt ls st h uc us Q) (kf : ¬ x = y → Ev l G M (pc + 3) ls st h uc us Q) : Ev l G M pc ls (.ref y :: .ref x :: st) h uc us Q :=
  fun p e s m args below meth c H locs cells slots lsA C hH hS hl h1 h2 => lv_acmp_eq (rx := some x) (ry := some y) C.1 C.2.1 hd ht (fun z => kt (by simpa using z) p e s m args below meth c H locs cells slots lsA C hH hS hl h1 h2) (fun z => kf (by simpa using z) p e s m args below meth c H locs cells slots lsA C hH hS hl h1 h2)
theorem e_acmp_ne {x y : Nat} {off : Int} {tgt : Nat} (hd : decode (m_cc M) pc = .ok (.if_acmp .ne off, 3)) (ht : (pc : Int) + off = (tgt : Int)) (kt : ¬ x = y → Ev l G M tgt ls st h uc us Q) (kf : x = y → Ev l G M (pc + 3) ls st h uc us Q) : Ev l G M pc ls (.ref y :: .ref x :: st) h uc us Q :=
  fun p e s m args below meth c H locs cells slots lsA C hH hS hl h1 h2 => lv_acmp_ne (rx := some x) (ry := some y) C.1 C.2.1 hd ht (fun z => kt (by simpa using z) p e s m args below meth c H locs cells slots lsA C hH hS hl h1 h2) (fun z => kf (by simpa using z) p e s m args below meth c H locs cells slots lsA C hH hS hl h1 h2)
theorem e_goto {off : Int} {tgt : Nat} (hd : decode (m_cc M) pc = .ok (.goto off, 3)) (ht : (pc : Int) + off = (tgt : Int)) (K : Ev l G M tgt ls st h uc us Q) : Ev l G M pc ls st h uc us Q :=
  fun p e s m args below meth c H locs cells slots lsA C hH hS hl h1 h2 => lv_goto C.1 C.2.1 hd ht (K p e s m args below meth c H locs cells slots lsA C hH hS hl h1 h2)
theorem e_tin {dflt lo hi : Int} {offs : Array Int} {len : Nat} {x : Int32} {off : Int} {tgt : Nat} (hd : decode (m_cc M) pc = .ok (.tableswitch dflt lo hi offs, len)) (i1 : ¬ x.toInt < lo) (i2 : ¬ hi < x.toInt) (ho : offs[(x.toInt - lo).toNat]? = some off) (ht : (pc : Int) + off = (tgt : Int)) (K : Ev l G M tgt ls st h uc us Q) : Ev l G M pc ls (.int x :: st) h uc us Q :=
  fun p e s m args below meth c H locs cells slots lsA C hH hS hl h1 h2 => lv_tableIn C.1 C.2.1 hd i1 i2 ho ht (K p e s m args below meth c H locs cells slots lsA C hH hS hl h1 h2)
theorem e_tout {dflt lo hi : Int} {offs : Array Int} {len : Nat} {x : Int32} {tgt : Nat} (hd : decode (m_cc M) pc = .ok (.tableswitch dflt lo hi offs, len)) (i1 : x.toInt < lo ∨ hi < x.toInt) (ht : (pc : Int) + dflt = (tgt : Int)) (K : Ev l G M tgt ls st h uc us Q) : Ev l G M pc ls (.int x :: st) h uc us Q :=
  fun p e s m args below meth c H locs cells slots lsA C hH hS hl h1 h2 => lv_tableOut C.1 C.2.1 hd i1 ht (K p e s m args below meth c H locs cells slots lsA C hH hS hl h1 h2)
end ROWS
end
section
/-! HEAP ROWS: fields, arrays, new cells, answers -/
/-- a class of the list: its words are there, its fields' types, their names apart -/
def ev_cls (ci : Nat) (r : vw_C) (ty : Nat → FieldType) : Prop := ev_cl[ci]? = some r ∧ (∀ w ∈ u_ws r.1 r.2.1 r.2.2, w ∈ ev_TB) ∧ (∀ k, k < r.2.2 → parseFieldDescriptor (r.2.1 k).2.2.1 = some (ty k)) ∧ ∀ a, a < r.2.2 → ∀ b, b < r.2.2 → a ≠ b → (r.2.1 a).2.1 ≠ (r.2.1 b).2.1
/-- the pool's place idx of the class own names field k of class ci -/
def ev_FL (own : String) (idx ci k : Nat) : Prop := ∃ (r : vw_C) (ty : Nat → FieldType) (ref : String), ev_cls ci r ty ∧ k < r.2.2 ∧ Cond.fieldLink own idx ref (r.2.1 k).2.1 (r.2.1 k).2.2.1 ∈ ev_TB ∧ (ref = (r.2.1 k).1 ∨ Cond.sameField ref (r.2.1 k).1 (r.2.1 k).2.1 (r.2.1 k).2.2.1 ∈ ev_TB)
/-- .. and it may be written: its type -/
def ev_FP (own : String) (idx ci k : Nat) (ft : FieldType) : Prop := ∃ (r : vw_C) (ty : Nat → FieldType) (ref : String), ev_cls ci r ty ∧ k < r.2.2 ∧ Cond.fieldLink own idx ref (r.2.1 k).2.1 (r.2.1 k).2.2.1 ∈ ev_TB ∧ (ref = (r.2.1 k).1 ∨ Cond.sameField ref (r.2.1 k).1 (r.2.1 k).2.1 (r.2.1 k).2.2.1 ∈ ev_TB) ∧ (r.2.1 k).2.2.2 = false ∧ ty k = ft
/-- .. a final one, in its class's constructor -/
def ev_FF (own : String) (idx ci k : Nat) (ft : FieldType) : Prop := ∃ (r : vw_C) (ty : Nat → FieldType) (ref : String), ev_cls ci r ty ∧ k < r.2.2 ∧ Cond.fieldLink own idx ref (r.2.1 k).2.1 (r.2.1 k).2.2.1 ∈ ev_TB ∧ ref = (r.2.1 k).1 ∧ (r.2.1 k).2.2.2 = true ∧ (r.2.1 k).1 = own ∧ ty k = ft
/-- 'new' of class ci by the pool's place idx; its fields at first -/
def ev_NW (own : String) (idx ci : Nat) (fs : List Value) : Prop := ∃ (r : vw_C) (ty : Nat → FieldType), ev_cls ci r ty ∧ Cond.classLink own idx r.1 ∈ ev_TB ∧ Cond.instantiable r.1 r.2.2 ∈ ev_TB ∧ Cond.initialized r.1 ∈ ev_TB ∧ fs.length = r.2.2 ∧ ∀ j, j < r.2.2 → defaultValue (ty j) = vp_V fs j
theorem ev_obj {G : ev_G} {h : ev_AH} {H : Heap} {a ci : Nat} {fs : List Value} {r : vw_C} (hH : ev_H G h H) (e : h a = some (ci, fs)) (hr : ev_cl[ci]? = some r) : g_A G a ∧ fs.length = r.2.2 ∧ t_OB a (G.2.1 ci) r.2.2 (G.2.2.1 ci) H (vp_V fs) := by
  obtain ⟨hB, hat⟩ := hH a _ e
  rcases hat with ⟨r', g1, g2, g3⟩ | ⟨j, j1, j2, -⟩
  · have hrr : r' = r := Option.some.inj (g1.symm.trans hr)
    subst hrr
    exact ⟨hB, g2, g3⟩
  · have hlt : ci < ev_cl.length := (List.getElem?_eq_some_iff.mp hr).1
    have hle := ev_cl_len
    have j3 : ci = 100 + j := j2
    omega
theorem ev_arr {G : ev_G} {h : ev_AH} {H : Heap} {a j : Nat} {vs : List Value} (hH : ev_H G h H) (e : h a = some (100 + j, vs)) : g_A G a ∧ j < 4 ∧ H[a]? = some (arrV (g_dA G j) vs.length (vp_V vs)) := by
  obtain ⟨hB, hat⟩ := hH a _ e
  rcases hat with ⟨r', g1, g2, g3⟩ | ⟨i, j1, j2, j3⟩
  · have hlt : 100 + j < ev_cl.length := (List.getElem?_eq_some_iff.mp g1).1
    have hle := ev_cl_len
    omega
  · have hij : i = j := by
      have z : 100 + j = 100 + i := j2
      omega
    subst hij
    exact ⟨hB, j1, j3⟩
theorem ev_one {D : va_G} {cl : List vw_C} {a : Nat} {e : va_E} {H : Heap} (h : va_at D cl (a, e) H) : va_P D cl [(a, e)] H := by
  intro k q hk
  cases k with
  | zero => cases hk; exact h
  | succ k => simp at hk
theorem ev_tyAt (G : ev_G) : (g_tys G)[0]? = some (g_dA G 0, .int) ∧ (g_tys G)[1]? = some (g_dA G 1, .boolean) ∧ (g_tys G)[2]? = some (g_dA G 2, .long) ∧ (g_tys G)[3]? = some (g_dA G 3, .object "java/lang/Object") := ⟨rfl, rfl, rfl, rfl⟩
theorem ev_arrSet {cA : ClassId} {vs : List Value} {k : Nat} (v : Value) (hk : k < vs.length) : (arrV cA vs.length (vp_V vs)).setSlot k v = arrV cA (vs.set k v).length (vp_V (vs.set k v)) := by
  rw [arrV_store, List.length_set]
  congr 1
  funext j
  exact vp_updV_set hk v j
theorem ev_arrEq {cA : ClassId} {n : Nat} {f g : Nat → Value} (h : ∀ j, j < n → f j = g j) : arrV cA n f = arrV cA n g := by
  unfold arrV
  congr 2
  funext j
  exact h j.val j.isLt
theorem ev_rep (cA : ClassId) (n : Nat) (x : Value) : some (arrV cA n (fun _ => x)) = some (arrV cA (List.replicate n x).length (vp_V (List.replicate n x))) := by
  rw [List.length_replicate]
  exact congrArg some (ev_arrEq fun j hj => by simp [vp_V, hj])
section HROWS
variable {l : Launch} {G : ev_G} {M : ev_M} {pc : Nat} {ls : List (Nat × Value)} {st : List Value} {h : ev_AH} {uc us : Nat} {Q : ev_Fin} {P : ev_Post}
theorem e_get {idx ci k a : Nat} {v : Value} (hd : decode (m_cc M) pc = .ok (.getfield idx, 3)) (hF : ev_FL (m_y M).cls idx ci k) (hv : ev_f h a ci k = some v) (K : Ev l G M (pc + 3) ls (v :: st) h uc us Q) : Ev l G M pc ls (.ref a :: st) h uc us Q := by
  intro p e s m args below meth c H locs cells slots lsA C hH hS hl h1 h2
  obtain ⟨hx, hb, hml, hown, hts, hr, hlk, hnm, htb, hst, hK, hB, hL⟩ := id C
  obtain ⟨fs, q1, q2⟩ := ev_f_of hv
  obtain ⟨r, ty, ref, ⟨f1, f3, -, -⟩, f2, f4, f5⟩ := hF
  obtain ⟨hBa, g2, g3⟩ := ev_obj hH q1 f1
  refine va_get (D := g_D G) (ci := ci) (v := v) (C := r.1) (T := r.2.1) (N := r.2.2) hx hb hts f3 hown hK (ev_one (e := .inr (ci, fs)) ⟨r, f1, g3⟩) 0 rfl f1 k f2 (hts _ f4) ?_ q2 hd (K p e s m args below meth c H locs cells slots lsA C hH hS hl h1 h2)
  intro x hx9
  rcases f5 with rfl | f5
  · exact hx9
  · exact u_same (hts _ f5) x hx9
theorem e_put {idx ci k a : Nat} {v w : Value} {ft : FieldType} (hd : decode (m_cc M) pc = .ok (.putfield idx, 3)) (hF : ev_FP (m_y M).cls idx ci k ft) (hv : ev_f h a ci k = some w) (hn : narrow ft v = v) (hfit : fits ft v = true) (K : ∀ h' : ev_AH, h' = ev_s h a k v → Ev l G M (pc + 3) ls st h' uc us Q) : Ev l G M pc ls (v :: .ref a :: st) h uc us Q := by
  intro p e s m args below meth c H locs cells slots lsA C hH hS hl h1 h2
  obtain ⟨hx, hb, hml, hown, hts, hr, hlk, hnm, htb, hst, hK, hB, hL⟩ := id C
  obtain ⟨fs, q1, q2⟩ := ev_f_of hv
  obtain ⟨r, ty, ref, ⟨f1, f3, f6, f7⟩, f2, f4, f5, hfin, f8⟩ := hF
  obtain ⟨hBa, g2, cell, p1, p2, p3, p4⟩ := ev_obj hH q1 f1
  have hap := va_apart (D := g_D G) (own := (m_y M).cls) hts f3 ty f6 f7 hK f1
  obtain ⟨hS', hfc, kC, hkC, hkind⟩ := hK.1 ci _ f1
  obtain ⟨cf, kf, fi, f, hi, hsl⟩ := hS' k f2
  have hlay := hts _ (f3 _ (u_in_lay f2))
  unfold u_lay at hlay
  rw [if_neg (by rw [hfin]; decide)] at hlay
  have hst2 := (u_facts hfc hkC (u_lays hts f3 f2) hi).1
  have h6 := u_store hfc hkC hkind hlay hi (f6 k f2) (by rw [f8]; exact hn) (by rw [f8]; exact hfit)
  have hsame : ∀ x, s.fieldFound? (r.2.1 k).1 (r.2.1 k).2.1 (r.2.1 k).2.2.1 = some x → s.fieldFound? ref (r.2.1 k).2.1 (r.2.1 k).2.2.1 = some x := by
    intro x hx9
    rcases f5 with rfl | f5
    · exact hx9
    · exact u_same (hts _ f5) x hx9
  have hlk9 : k < fs.length := (List.getElem?_eq_some_iff.mp q2).1
  refine W.putK hx hb (f := f) ⟨hown, hts _ f4, ⟨_, _, _, hsame _ hi⟩, hst2⟩ (by rw [p2]; exact h6) p1 p3 (by rw [hsl]; exact k2_hasslot (p4 k f2)) rfl rfl hd fun H' e1 e2 e3 => ?_
  rw [hsl] at e1
  exact K _ (ev_s_eq q1).symm p e s m args below meth c H' _ cells slots lsA C (hH.up hBa (Or.inl ⟨r, f1, by rw [List.length_set]; exact g2, t_OB.to (V := updV (vp_V fs) k v) ⟨_, e1, p2, p3, t_set p4 hap f2 v⟩ (fun j _ => vp_updV_set hlk9 v j)⟩) e3) (hS.put e2 e3 hBa) hl h1 h2
theorem e_putF {idx ci k a : Nat} {v w : Value} {ft : FieldType} (hd : decode (m_cc M) pc = .ok (.putfield idx, 3)) (hF : ev_FF (m_y M).cls idx ci k ft) (hin : (m_y M).name = "<init>") (hv : ev_f h a ci k = some w) (hn : narrow ft v = v) (hfit : fits ft v = true) (K : ∀ h' : ev_AH, h' = ev_s h a k v → Ev l G M (pc + 3) ls st h' uc us Q) : Ev l G M pc ls (v :: .ref a :: st) h uc us Q := by
  intro p e s m args below meth c H locs cells slots lsA C hH hS hl h1 h2
  obtain ⟨hx, hb, hml, hown, hts, hr, hlk, hnm, htb, hst, hK, hB, hL⟩ := id C
  obtain ⟨fs, q1, q2⟩ := ev_f_of hv
  obtain ⟨r, ty, ref, ⟨f1, f3, f6, f7⟩, f2, f4, rfl, hfin, hdecl, f8⟩ := hF
  obtain ⟨hBa, g2, cell, p1, p2, p3, p4⟩ := ev_obj hH q1 f1
  have hap := va_apart (D := g_D G) (own := (m_y M).cls) hts f3 ty f6 f7 hK f1
  obtain ⟨hS', hfc, kC, hkC, hkind⟩ := hK.1 ci _ f1
  obtain ⟨cf, kf, fi, f, hi, hsl⟩ := hS' k f2
  have hlay := hts _ (f3 _ (u_in_lay f2))
  unfold u_lay at hlay
  rw [if_pos hfin] at hlay
  have hst2 := (u_facts hfc hkC (u_lays hts f3 f2) hi).1
  have hcf : m.cls = cf := by
    obtain ⟨_, _, c', _, _, _, -, -, hf', -, -, -, hown2, -⟩ := Cond.laysFinal_spec hlay
    have e1 : c' = cf := by have := hi.symm.trans hf'; simp at this; exact this.1.symm
    rw [hdecl] at hown2
    rw [← e1]; exact Option.some.inj (hown.symm.trans hown2)
  have h6 := u_fits hfc hkC hkind (Or.inr hlay) hi (f6 k f2) (by rw [f8]; exact hn) (by rw [f8]; exact hfit)
  have hlk9 : k < fs.length := (List.getElem?_eq_some_iff.mp q2).1
  refine W.putFinK hx hb hown (hts _ f4) hi hst2 hcf (hnm.trans hin) (by rw [p2]; exact h6) p1 p3 (by rw [hsl]; exact k2_hasslot (p4 k f2)) rfl rfl hd fun H' e1 e2 e3 => ?_
  rw [hsl] at e1
  exact K _ (ev_s_eq q1).symm p e s m args below meth c H' _ cells slots lsA C (hH.up hBa (Or.inl ⟨r, f1, by rw [List.length_set]; exact g2, t_OB.to (V := updV (vp_V fs) k v) ⟨_, e1, p2, p3, t_set p4 hap f2 v⟩ (fun j _ => vp_updV_set hlk9 v j)⟩) e3) (hS.put e2 e3 hBa) hl h1 h2
theorem e_new {idx ci n uc' us' : Nat} {fs : List Value} (hd : decode (m_cc M) pc = .ok (.new idx, 3)) (hN : ev_NW (m_y M).cls idx ci fs) (hn : fs.length = n) (hc : 1 + uc' ≤ uc) (hs : n + us' ≤ us) (K : ∀ q : Nat, h q = none → ∀ h' : ev_AH, h' = ev_up h q (ci, fs) → Ev l G M (pc + 3) ls (.ref q :: st) h' uc' us' Q) : Ev l G M pc ls st h uc us Q := by
  intro p e s m args below meth c H locs cells slots lsA C hH hS hl h1 h2
  obtain ⟨hx, hb, hml, hown, hts, hr, hlk, hnm, htb, hst, hK, hB, hL⟩ := id C
  obtain ⟨r, ty, ⟨f1, f3, f6, f7⟩, n1, n2, n3, n4, n5⟩ := hN
  have hKn := hK.1 ci _ f1
  have hrc : (m_rm M).cells = m_mc M := rfl
  have hrs : (m_rm M).slots = m_ms M := rfl
  refine W.newcK hx hb hown (hts _ n1) (hts _ n2) (hts _ n3) rfl hd (by rw [hrc]; omega) (by rw [hrs]; omega) hKn.2.1 rfl fun H1 kC hkC e1 z1 o1 => ?_
  have hS1 : va_S (g_A G) s.heap H1 locs := ⟨Nat.le_trans hS.1 (by omega), fun x a1 a2 => (o1 x (Nat.lt_of_lt_of_le a1 hS.1)).trans (hS.2.1 x a1 a2), hS.2.2⟩
  exact K H.size (hH.fresh (Nat.le_refl _)) _ rfl p e s m args below meth c H1 locs (cells + 1) (slots + r.2.2) lsA C (hH.new (Nat.le_trans hB hS.1) (Or.inl ⟨r, f1, n4, (u_born ty hts f3 hKn hkC e1 f6).to n5⟩) o1) hS1 hl (by omega) (by omega)
theorem e_alen {j a n : Nat} {v : Int32} (hd : decode (m_cc M) pc = .ok (.arraylength, 1)) (hn : ev_n h a (100 + j) = some n) (hv : nI n = v) (K : Ev l G M (pc + 1) ls (.int v :: st) h uc us Q) : Ev l G M pc ls (.ref a :: st) h uc us Q := by
  intro p e s m args below meth c H locs cells slots lsA C hH hS hl h1 h2
  obtain ⟨hx, hb, hml, hown, hts, hr, hlk, hnm, htb, hst, hK, hB, hL⟩ := id C
  obtain ⟨vs, q1, q2⟩ := ev_n_of hn
  obtain ⟨hBa, hj, hc⟩ := ev_arr hH q1
  have ht := ev_tyAt G
  have hsz : (arrV (g_dA G j) vs.length (vp_V vs)).slots.size.toInt32 = v := by rw [arrV_size, q2]; exact hv
  rcases (show j = 0 ∨ j = 1 ∨ j = 2 ∨ j = 3 by omega) with rfl | rfl | rfl | rfl
  · exact W.alen hx hb hc ((hK.2 0 _ ht.1).1 vs.length (vp_V vs)) hsz rfl rfl hd (K p e s m args below meth c H locs cells slots lsA C hH hS hl h1 h2)
  · exact W.alen hx hb hc ((hK.2 1 _ ht.2.1).1 vs.length (vp_V vs)) hsz rfl rfl hd (K p e s m args below meth c H locs cells slots lsA C hH hS hl h1 h2)
  · exact W.alen hx hb hc ((hK.2 2 _ ht.2.2.1).1 vs.length (vp_V vs)) hsz rfl rfl hd (K p e s m args below meth c H locs cells slots lsA C hH hS hl h1 h2)
  · exact W.alen hx hb hc ((hK.2 3 _ ht.2.2.2).1 vs.length (vp_V vs)) hsz rfl rfl hd (K p e s m args below meth c H locs cells slots lsA C hH hS hl h1 h2)
theorem ev_in {i : Int32} {vs : List Value} {v : Value} (h0 : ¬ i < 0) (q : vs[i.toNatClampNeg]? = some v) {cA : ClassId} : ¬ (i < 0 ∨ (arrV cA vs.length (vp_V vs)).slots.size ≤ i.toNatClampNeg) ∧ (arrV cA vs.length (vp_V vs)).slots[i.toNatClampNeg]? = some v := by
  have hlt := (List.getElem?_eq_some_iff.mp q).1
  refine ⟨fun z => z.elim h0 (fun y => by rw [arrV_size] at y; omega), ?_⟩
  rw [arrV_read _ _ hlt]
  simp [vp_V, q]
theorem e_iald {a : Nat} {i : Int32} {x : Int32} (hd : decode (m_cc M) pc = .ok (.iaload, 1)) (h0 : ¬ i < 0) (hv : ev_f h a 100 i.toNatClampNeg = some (.int x)) (K : Ev l G M (pc + 1) ls (.int x :: st) h uc us Q) : Ev l G M pc ls (.int i :: .ref a :: st) h uc us Q := by
  intro p e s m args below meth c H locs cells slots lsA C hH hS hl h1 h2
  obtain ⟨hx, hb, hml, hown, hts, hr, hlk, hnm, htb, hst, hK, hB, hL⟩ := id C
  obtain ⟨vs, q1, q2⟩ := ev_f_of hv
  obtain ⟨hBa, hj, hc⟩ := ev_arr (j := 0) hH q1
  have ht := ev_tyAt G
  obtain ⟨i1, i2⟩ := ev_in (cA := g_dA G 0) h0 q2
  exact W.iald hx hb hc ((hK.2 0 _ ht.1).1 vs.length (vp_V vs)) (fun z => by cases z) i1 i2 rfl rfl hd (K p e s m args below meth c H locs cells slots lsA C hH hS hl h1 h2)
theorem e_zald {a : Nat} {i : Int32} {x : Int32} (hd : decode (m_cc M) pc = .ok (.baload, 1)) (h0 : ¬ i < 0) (hv : ev_f h a 101 i.toNatClampNeg = some (.int x)) (K : Ev l G M (pc + 1) ls (.int x :: st) h uc us Q) : Ev l G M pc ls (.int i :: .ref a :: st) h uc us Q := by
  intro p e s m args below meth c H locs cells slots lsA C hH hS hl h1 h2
  obtain ⟨hx, hb, hml, hown, hts, hr, hlk, hnm, htb, hst, hK, hB, hL⟩ := id C
  obtain ⟨vs, q1, q2⟩ := ev_f_of hv
  obtain ⟨hBa, hj, hc⟩ := ev_arr (j := 1) hH q1
  have ht := ev_tyAt G
  obtain ⟨i1, i2⟩ := ev_in (cA := g_dA G 1) h0 q2
  exact W.zald hx hb hc ((hK.2 1 _ ht.2.1).1 vs.length (vp_V vs)) (fun z => by cases z) i1 i2 rfl rfl hd (K p e s m args below meth c H locs cells slots lsA C hH hS hl h1 h2)
theorem e_lald {a : Nat} {i : Int32} {x : Int64} (hd : decode (m_cc M) pc = .ok (.laload, 1)) (h0 : ¬ i < 0) (hv : ev_f h a 102 i.toNatClampNeg = some (.long x)) (K : Ev l G M (pc + 1) ls (.long x :: st) h uc us Q) : Ev l G M pc ls (.int i :: .ref a :: st) h uc us Q := by
  intro p e s m args below meth c H locs cells slots lsA C hH hS hl h1 h2
  obtain ⟨hx, hb, hml, hown, hts, hr, hlk, hnm, htb, hst, hK, hB, hL⟩ := id C
  obtain ⟨vs, q1, q2⟩ := ev_f_of hv
  obtain ⟨hBa, hj, hc⟩ := ev_arr (j := 2) hH q1
  have ht := ev_tyAt G
  obtain ⟨i1, i2⟩ := ev_in (cA := g_dA G 2) h0 q2
  exact W.lald hx hb hc ((hK.2 2 _ ht.2.2.1).1 vs.length (vp_V vs)) (fun z => by cases z) i1 i2 rfl rfl hd (K p e s m args below meth c H locs cells slots lsA C hH hS hl h1 h2)
theorem e_iast {a : Nat} {i : Int32} {x : Int32} {w : Value} (hd : decode (m_cc M) pc = .ok (.iastore, 1)) (h0 : ¬ i < 0) (hv : ev_f h a 100 i.toNatClampNeg = some w) (K : ∀ h' : ev_AH, h' = ev_s h a i.toNatClampNeg (.int x) → Ev l G M (pc + 1) ls st h' uc us Q) : Ev l G M pc ls (.int x :: .int i :: .ref a :: st) h uc us Q := by
  intro p e s m args below meth c H locs cells slots lsA C hH hS hl h1 h2
  obtain ⟨hx, hb, hml, hown, hts, hr, hlk, hnm, htb, hst, hK, hB, hL⟩ := id C
  obtain ⟨vs, q1, q2⟩ := ev_f_of hv
  obtain ⟨hBa, hj, hc⟩ := ev_arr (j := 0) hH q1
  have ht := ev_tyAt G
  obtain ⟨i1, i2⟩ := ev_in (cA := g_dA G 0) h0 q2
  have hlt := (List.getElem?_eq_some_iff.mp q2).1
  refine W.iast hx hb hc ((hK.2 0 _ ht.1).1 vs.length (vp_V vs)) (fun z => by cases z) i1 rfl rfl hd fun H' e1 e2 e3 => ?_
  rw [ev_arrSet _ hlt] at e1
  exact K _ (ev_s_eq q1).symm p e s m args below meth c H' _ cells slots lsA C (hH.up hBa (Or.inr ⟨0, by omega, rfl, e1⟩) e3) (hS.put e2 e3 hBa) hl h1 h2
theorem e_zast {a : Nat} {i : Int32} {x : Int32} {w : Value} (hd : decode (m_cc M) pc = .ok (.bastore, 1)) (h0 : ¬ i < 0) (hv : ev_f h a 101 i.toNatClampNeg = some w) (K : ∀ h' : ev_AH, h' = ev_s h a i.toNatClampNeg (narrow .boolean (.int x)) → Ev l G M (pc + 1) ls st h' uc us Q) : Ev l G M pc ls (.int x :: .int i :: .ref a :: st) h uc us Q := by
  intro p e s m args below meth c H locs cells slots lsA C hH hS hl h1 h2
  obtain ⟨hx, hb, hml, hown, hts, hr, hlk, hnm, htb, hst, hK, hB, hL⟩ := id C
  obtain ⟨vs, q1, q2⟩ := ev_f_of hv
  obtain ⟨hBa, hj, hc⟩ := ev_arr (j := 1) hH q1
  have ht := ev_tyAt G
  obtain ⟨i1, i2⟩ := ev_in (cA := g_dA G 1) h0 q2
  have hlt := (List.getElem?_eq_some_iff.mp q2).1
  refine W.zast hx hb hc ((hK.2 1 _ ht.2.1).1 vs.length (vp_V vs)) (fun z => by cases z) i1 rfl rfl hd fun H' e1 e2 e3 => ?_
  rw [ev_arrSet _ hlt] at e1
  exact K _ (ev_s_eq q1).symm p e s m args below meth c H' _ cells slots lsA C (hH.up hBa (Or.inr ⟨1, by omega, rfl, e1⟩) e3) (hS.put e2 e3 hBa) hl h1 h2
theorem e_last {a : Nat} {i : Int32} {x : Int64} {w : Value} (hd : decode (m_cc M) pc = .ok (.lastore, 1)) (h0 : ¬ i < 0) (hv : ev_f h a 102 i.toNatClampNeg = some w) (K : ∀ h' : ev_AH, h' = ev_s h a i.toNatClampNeg (.long x) → Ev l G M (pc + 1) ls st h' uc us Q) : Ev l G M pc ls (.long x :: .int i :: .ref a :: st) h uc us Q := by
  intro p e s m args below meth c H locs cells slots lsA C hH hS hl h1 h2
  obtain ⟨hx, hb, hml, hown, hts, hr, hlk, hnm, htb, hst, hK, hB, hL⟩ := id C
  obtain ⟨vs, q1, q2⟩ := ev_f_of hv
  obtain ⟨hBa, hj, hc⟩ := ev_arr (j := 2) hH q1
  have ht := ev_tyAt G
  obtain ⟨i1, i2⟩ := ev_in (cA := g_dA G 2) h0 q2
  have hlt := (List.getElem?_eq_some_iff.mp q2).1
  refine W.last hx hb hc ((hK.2 2 _ ht.2.2.1).1 vs.length (vp_V vs)) (fun z => by cases z) i1 rfl rfl hd fun H' e1 e2 e3 => ?_
  rw [ev_arrSet _ hlt] at e1
  exact K _ (ev_s_eq q1).symm p e s m args below meth c H' _ cells slots lsA C (hH.up hBa (Or.inr ⟨2, by omega, rfl, e1⟩) e3) (hS.put e2 e3 hBa) hl h1 h2
theorem e_aald {a : Nat} {i : Int32} {v : Value} (hd : decode (m_cc M) pc = .ok (.aaload, 1)) (h0 : ¬ i < 0) (hv : ev_f h a 103 i.toNatClampNeg = some v) (K : Ev l G M (pc + 1) ls (v :: st) h uc us Q) : Ev l G M pc ls (.int i :: .ref a :: st) h uc us Q := by
  intro p e s m args below meth c H locs cells slots lsA C hH hS hl h1 h2
  obtain ⟨hx, hb, hml, hown, hts, hr, hlk, hnm, htb, hst, hK, hB, hL⟩ := id C
  obtain ⟨vs, q1, q2⟩ := ev_f_of hv
  obtain ⟨hBa, hj, hc⟩ := ev_arr (j := 3) hH q1
  have ht := ev_tyAt G
  obtain ⟨i1, i2⟩ := ev_in (cA := g_dA G 3) h0 q2
  exact W.aald hx hb hc ((hK.2 3 _ ht.2.2.2).1 vs.length (vp_V vs)) rfl (fun z => by cases z) i1 i2 rfl rfl hd (K p e s m args below meth c H locs cells slots lsA C hH hS hl h1 h2)
theorem e_aast {a v ci : Nat} {i : Int32} {w : Value} {fs : List Value} {r : vw_C} (hd : decode (m_cc M) pc = .ok (.aastore, 1)) (h0 : ¬ i < 0) (hv : ev_f h a 103 i.toNatClampNeg = some w) (ho : h v = some (ci, fs)) (hr : ev_cl[ci]? = some r) (hca : (r.1, "java/lang/Object") ∈ ev_casts) (K : ∀ h' : ev_AH, h' = ev_s h a i.toNatClampNeg (.ref v) → Ev l G M (pc + 1) ls st h' uc us Q) : Ev l G M pc ls (.ref v :: .int i :: .ref a :: st) h uc us Q := by
  intro p e s m args below meth c H locs cells slots lsA C hH hS hl h1 h2
  obtain ⟨hx, hb, hml, hown, hts, hrt, hlk, hnm, htb, hst, hK, hB, hL⟩ := id C
  obtain ⟨vs, q1, q2⟩ := ev_f_of hv
  obtain ⟨hBa, hj, hc⟩ := ev_arr (j := 3) hH q1
  obtain ⟨i1, i2⟩ := ev_in (cA := g_dA G 3) h0 q2
  have hlt := (List.getElem?_eq_some_iff.mp q2).1
  obtain ⟨-, -, cellV, g1, g2, g3, -⟩ := ev_obj hH ho hr
  have hcls := (hK.1 ci r hr).2
  obtain ⟨kA, comp, k1, k2, k3, -⟩ := (hK.2 3 _ (ev_tyAt G).2.2.2).2
  obtain ⟨kE, hkE, -⟩ := Vm.findClass_spec k3
  obtain ⟨c0, t1, f1, f2, f3⟩ := Cond.castable_spec (va_Nw.use (A := args) rfl (hL.2.2.2.2.2.2.2.2.2.1 _ hca))
  cases hcls.1.symm.trans f1
  cases k3.symm.trans f2
  obtain ⟨kC, hkC, -⟩ := hcls.2
  refine W.aast hx hb hc (fun q z => by cases z) (fun z => by cases z) k1 k2 rfl hkE ⟨h0, by rw [arrV_size]; exact hlt⟩ g1 (fun q z => by rw [g3] at z; cases z) (by rw [g2]; exact hkC) (by rw [g2]; exact f3) rfl rfl hd fun H' e1 e2 e3 => ?_
  rw [ev_arrSet _ hlt] at e1
  exact K _ (ev_s_eq q1).symm p e s m args below meth c H' _ cells slots lsA C (hH.up hBa (Or.inr ⟨3, by omega, rfl, e1⟩) e3) (hS.put e2 e3 hBa) hl h1 h2
theorem e_newa0 {i : Int32} {n uc' us' : Nat} (hd : decode (m_cc M) pc = .ok (.newarray .int, 2)) (hw : Cond.arrayClass .int ∈ ev_TB) (hi : nI n = i) (hn : n < 1000) (hc : 1 + uc' ≤ uc) (hs : n + us' ≤ us) (K : ∀ q : Nat, h q = none → ∀ h' : ev_AH, h' = (ev_up h q (100, List.replicate n (.int 0))) → Ev l G M (pc + 2) ls (.ref q :: st) h' uc' us' Q) : Ev l G M pc ls (.int i :: st) h uc us Q := by
  intro p e s m args below meth c H locs cells slots lsA C hH hS hl h1 h2
  obtain ⟨hx, hb, hml, hown, hts, hr, hlk, hnm, htb, hst, hK, hB, hL⟩ := id C
  subst hi
  have hrc : (m_rm M).cells = m_mc M := rfl
  have hrs : (m_rm M).slots = m_ms M := rfl
  have hN : (nI n).toNatClampNeg = n := nI_clamp (by omega)
  refine W.newa (atype := .int) hx hb (hts _ hw) rfl hd rfl (nI_pos (by omega)) (by rw [hN]; show n * _ ≤ _; simp [componentBytes, newarray.typeOf]; omega) (by rw [hrc]; omega) (by rw [hrs, hN]; omega) fun cA kA comp f1 f2 f3 => ?_
  rw [hN]
  have hcA : cA = g_dA G 0 := Option.some.inj (f1.symm.trans (hK.2 0 _ (ev_tyAt G).1).2)
  subst hcA
  generalize hH1 : H.push ({ cls := g_dA G 0, slots := Array.replicate n (defaultValue (newarray.typeOf .int)), vm := .none } : Cell) = H1
  have z1 : H1.size = H.size + 1 := by rw [← hH1, Array.size_push]
  have e1 : H1[H.size]? = some (arrV (g_dA G 0) n (fun _ => .int 0)) := by rw [← hH1, Array.getElem?_push_size, ← arrV_new]; rfl
  have o1 : ∀ q : Nat, q < H.size → H1[q]? = H[q]? := fun q hq => by rw [← hH1, Array.getElem?_push, if_neg (Nat.ne_of_lt hq)]
  have hS1 : va_S (g_A G) s.heap H1 locs := ⟨Nat.le_trans hS.1 (by omega), fun x a1 a2 => (o1 x (Nat.lt_of_lt_of_le a1 hS.1)).trans (hS.2.1 x a1 a2), hS.2.2⟩
  refine K H.size (hH.fresh (Nat.le_refl _)) _ rfl p e s m args below meth c H1 locs (cells + 1) (slots + n) lsA C (hH.new (Nat.le_trans hB hS.1) (Or.inr ⟨0, by omega, rfl, ?_⟩) o1) hS1 hl (by omega) (by omega)
  rw [e1]
  exact ev_rep _ _ _
theorem e_newa1 {i : Int32} {n uc' us' : Nat} (hd : decode (m_cc M) pc = .ok (.newarray .boolean, 2)) (hw : Cond.arrayClass .boolean ∈ ev_TB) (hi : nI n = i) (hn : n < 1000) (hc : 1 + uc' ≤ uc) (hs : n + us' ≤ us) (K : ∀ q : Nat, h q = none → ∀ h' : ev_AH, h' = (ev_up h q (101, List.replicate n (.int 0))) → Ev l G M (pc + 2) ls (.ref q :: st) h' uc' us' Q) : Ev l G M pc ls (.int i :: st) h uc us Q := by
  intro p e s m args below meth c H locs cells slots lsA C hH hS hl h1 h2
  obtain ⟨hx, hb, hml, hown, hts, hr, hlk, hnm, htb, hst, hK, hB, hL⟩ := id C
  subst hi
  have hrc : (m_rm M).cells = m_mc M := rfl
  have hrs : (m_rm M).slots = m_ms M := rfl
  have hN : (nI n).toNatClampNeg = n := nI_clamp (by omega)
  refine W.newa (atype := .boolean) hx hb (hts _ hw) rfl hd rfl (nI_pos (by omega)) (by rw [hN]; show n * _ ≤ _; simp [componentBytes, newarray.typeOf]; omega) (by rw [hrc]; omega) (by rw [hrs, hN]; omega) fun cA kA comp f1 f2 f3 => ?_
  rw [hN]
  have hcA : cA = g_dA G 1 := Option.some.inj (f1.symm.trans (hK.2 1 _ (ev_tyAt G).2.1).2)
  subst hcA
  generalize hH1 : H.push ({ cls := g_dA G 1, slots := Array.replicate n (defaultValue (newarray.typeOf .boolean)), vm := .none } : Cell) = H1
  have z1 : H1.size = H.size + 1 := by rw [← hH1, Array.size_push]
  have e1 : H1[H.size]? = some (arrV (g_dA G 1) n (fun _ => .int 0)) := by rw [← hH1, Array.getElem?_push_size, ← arrV_new]; rfl
  have o1 : ∀ q : Nat, q < H.size → H1[q]? = H[q]? := fun q hq => by rw [← hH1, Array.getElem?_push, if_neg (Nat.ne_of_lt hq)]
  have hS1 : va_S (g_A G) s.heap H1 locs := ⟨Nat.le_trans hS.1 (by omega), fun x a1 a2 => (o1 x (Nat.lt_of_lt_of_le a1 hS.1)).trans (hS.2.1 x a1 a2), hS.2.2⟩
  refine K H.size (hH.fresh (Nat.le_refl _)) _ rfl p e s m args below meth c H1 locs (cells + 1) (slots + n) lsA C (hH.new (Nat.le_trans hB hS.1) (Or.inr ⟨1, by omega, rfl, ?_⟩) o1) hS1 hl (by omega) (by omega)
  rw [e1]
  exact ev_rep _ _ _
theorem e_newa2 {i : Int32} {n uc' us' : Nat} (hd : decode (m_cc M) pc = .ok (.newarray .long, 2)) (hw : Cond.arrayClass .long ∈ ev_TB) (hi : nI n = i) (hn : n < 1000) (hc : 1 + uc' ≤ uc) (hs : n + us' ≤ us) (K : ∀ q : Nat, h q = none → ∀ h' : ev_AH, h' = (ev_up h q (102, List.replicate n (.long 0))) → Ev l G M (pc + 2) ls (.ref q :: st) h' uc' us' Q) : Ev l G M pc ls (.int i :: st) h uc us Q := by
  intro p e s m args below meth c H locs cells slots lsA C hH hS hl h1 h2
  obtain ⟨hx, hb, hml, hown, hts, hr, hlk, hnm, htb, hst, hK, hB, hL⟩ := id C
  subst hi
  have hrc : (m_rm M).cells = m_mc M := rfl
  have hrs : (m_rm M).slots = m_ms M := rfl
  have hN : (nI n).toNatClampNeg = n := nI_clamp (by omega)
  refine W.newa (atype := .long) hx hb (hts _ hw) rfl hd rfl (nI_pos (by omega)) (by rw [hN]; show n * _ ≤ _; simp [componentBytes, newarray.typeOf]; omega) (by rw [hrc]; omega) (by rw [hrs, hN]; omega) fun cA kA comp f1 f2 f3 => ?_
  rw [hN]
  have hcA : cA = g_dA G 2 := Option.some.inj (f1.symm.trans (hK.2 2 _ (ev_tyAt G).2.2.1).2)
  subst hcA
  generalize hH1 : H.push ({ cls := g_dA G 2, slots := Array.replicate n (defaultValue (newarray.typeOf .long)), vm := .none } : Cell) = H1
  have z1 : H1.size = H.size + 1 := by rw [← hH1, Array.size_push]
  have e1 : H1[H.size]? = some (arrV (g_dA G 2) n (fun _ => .long 0)) := by rw [← hH1, Array.getElem?_push_size, ← arrV_new]; rfl
  have o1 : ∀ q : Nat, q < H.size → H1[q]? = H[q]? := fun q hq => by rw [← hH1, Array.getElem?_push, if_neg (Nat.ne_of_lt hq)]
  have hS1 : va_S (g_A G) s.heap H1 locs := ⟨Nat.le_trans hS.1 (by omega), fun x a1 a2 => (o1 x (Nat.lt_of_lt_of_le a1 hS.1)).trans (hS.2.1 x a1 a2), hS.2.2⟩
  refine K H.size (hH.fresh (Nat.le_refl _)) _ rfl p e s m args below meth c H1 locs (cells + 1) (slots + n) lsA C (hH.new (Nat.le_trans hB hS.1) (Or.inr ⟨2, by omega, rfl, ?_⟩) o1) hS1 hl (by omega) (by omega)
  rw [e1]
  exact ev_rep _ _ _
end HROWS
end
section
/-! CALLS AND ENDS -/
/-- what a call of M' by M needs of the tables and of the room; n arguments -/
def ev_room (M M' : ev_M) : Prop := (m_rm M').frames + 1 ≤ (m_rm M).frames ∧ 8 + (m_nL M' + 11) + (m_rm M').locals ≤ (m_rm M).locals
def ev_CV (M : ev_M) (idx : Nat) (M' : ev_M) (ci n : Nat) : Prop := (∃ r : vw_C, ev_cl[ci]? = some r ∧ (m_y M').cls = r.1) ∧ m_ht M' = [] ∧ Cond.methodLink (m_y M).cls idx (m_y M') ∈ ev_TB ∧ Cond.instanceMethod (m_y M') ∈ ev_TB ∧ Cond.selects (m_y M').cls (m_y M') (m_y M') ∈ ev_TB ∧ Cond.initialized (m_y M').cls ∈ ev_TB ∧ m_code M' ∈ ev_TB ∧
  ((m_y M').cls ≠ "java/lang/invoke/MethodHandle" ∧ (m_y M').cls ≠ "java/lang/invoke/VarHandle" ∧ (parseMethodDescriptor (m_y M').desc).map (fun d => d.parameters.length) = some n) ∧ ev_room M M'
def ev_CS (M : ev_M) (idx : Nat) (M' : ev_M) (n : Nat) : Prop := m_ht M' = [] ∧ Cond.methodLink (m_y M).cls idx (m_y M') ∈ ev_TB ∧ Cond.static (m_y M') ∈ ev_TB ∧ Cond.initialized (m_y M').cls ∈ ev_TB ∧ m_code M' ∈ ev_TB ∧
  ((m_y M').cls ≠ "java/lang/invoke/MethodHandle" ∧ (m_y M').cls ≠ "java/lang/invoke/VarHandle" ∧ (parseMethodDescriptor (m_y M').desc).map (fun d => d.parameters.length) = some n) ∧ ev_room M M'
theorem m_code_nil {M : ev_M} (ht : m_ht M = []) : m_code M = .code (m_y M) (m_cc M) (m_nL M) (m_rt M) := by
  unfold m_code
  unfold m_ht at ht
  rw [ht]
theorem ev_goodW {M : ev_M} (hc : m_code M ∈ ev_TB) : GoodIn ev_TB (m_code M :: ev_TB) := by
  intro w hw
  rcases List.mem_cons.mp hw with rfl | hw
  · exact ev_good _ hc
  · exact ev_good _ hw
section CALLS
variable {l : Launch} {G : ev_G} {M M' : ev_M} {pc : Nat} {ls : List (Nat × Value)} {st as stk : List Value} {h : ev_AH} {uc us uc' us' : Nat} {Q : ev_Fin} {P P' : ev_Post}
/-- what the caller hands over -/
theorem ev_hand {p : Program} {s : State} {m : MethodId} {args : Array Value} {meth : Method} {c : Code} {H : Heap} {locs : List Loc} (C : ev_C l G M p s m args meth c) (hH : ev_H G h H) (hS : va_S (g_A G) s.heap H locs) (as : List Value) (U : State) (hU : U.heap = H) (hW : s.WarmedH U.vm) : ev_Pc l G as h as.toArray U := by
  obtain ⟨hx, hb, hml, hown, hts, hr, hlk, hnm, htb, hst, hK, hB, hL⟩ := C
  refine ⟨rfl, hst, by rw [hU]; exact hH, va_K.moved hW.alike hK, by rw [hU]; exact Nat.le_trans hB hS.1, ?_⟩
  rw [hU]
  exact ev_Low.moved hW (hL.kept hS.2.1)
/-- behind a call -/
theorem ev_back {p : Program} {e : Env} {s : State} {m : MethodId} {args : Array Value} {below : List Frame} {meth : Method} {c : Code} {H : Heap} {locs : List Loc} {cells slots : Nat} {lsA : Array Slot} {a : Array Value}
    (hr : vx_Run p l e (m_rm M) s m args below meth c H locs cells slots (m_mc M') (m_ms M') (F0 m pc lsA stk) st (ev_Qc G P' a) (ev_XC G P') (g_A G))
    (C : ev_C l G M p s m args meth c) (hS : va_S (g_A G) s.heap H locs) (hl : lv_has lsA (m_nL M) ls) (h1 : cells + uc ≤ m_mc M) (h2 : slots + us ≤ m_ms M) (hc : m_mc M' + uc' ≤ uc) (hs : m_ms M' + us' ≤ us)
    (K : ∀ (v : Option Value) (h' : ev_AH), P' (.inl v) h' → Ev l G M (pc + 3) ls (v.toList ++ st) h' uc' us' Q)
    (X : ∀ (E : String) (h' : ev_AH), P' (.inr E) h' → EvX l G M pc ls h' uc' us' Q E) : W p l e (m_rm M) s m args below meth c H locs cells slots (Q below args s) (F0 m pc lsA stk) := by
  intro T hT Y
  rcases hr T hT Y with ⟨v, st₀, t, T', L, h0, Y', hL', e1, e2, ⟨v', h', hv, hP, hH', hF⟩, stp⟩ | ⟨q, st₀, t, T', L, E, ce, h0, Y', hL', e1, e2, ⟨h', hP, hH', hF⟩, hce, hcv, hcl, stp⟩
  · cases hv
    have hS' : va_S (g_A G) s.heap T'.heap (locs ++ L) := (vx_keep h0 e1 hS (fun _ _ z => z) (fun _ z => z) hL' hF).2.2
    obtain ⟨t2, a1, b1⟩ := K v h' hP p e s m args below meth c T'.heap (locs ++ L) (cells + m_mc M') (slots + m_ms M') lsA C (by rw [e1]; exact hH') hS' hl (by omega) (by omega) T' rfl Y'
    exact ⟨t2, stp t2 a1, b1⟩
  · have hS' : va_S (g_A G) s.heap T'.heap (locs ++ L) := (vx_keep h0 e1 hS (fun _ _ z => z) (fun _ z => z) hL' hF).2.2
    obtain ⟨t2, a1, b1⟩ := X E h' hP p e s m args below meth c T'.heap (locs ++ L) (cells + m_mc M') (slots + m_ms M') lsA st q ce C (by rw [e1]; exact hH') hS' hl (by omega) (by omega) (by rw [e1]; exact hce) hcv hcl T' rfl Y'
    exact ⟨t2, stp.trans a1, b1⟩
theorem e_callV {b idx ci n : Nat} (hd : decode (m_cc M) pc = .ok (.invokevirtual idx, 3)) (hw : ev_CV M idx M' ci n) (hn : as.length = n) (hstk : as.reverse ++ .ref b :: st = stk) (hob : ∃ fs : List Value, h b = some (ci, fs)) (hm : Mt l G M' (.ref b :: as) h P') (hsum : (st.map fun v => v.category).sum ≤ 8) (hc : m_mc M' + uc' ≤ uc) (hs : m_ms M' + us' ≤ us)
    (K : ∀ (v : Option Value) (h' : ev_AH), P' (.inl v) h' → Ev l G M (pc + 3) ls (v.toList ++ st) h' uc' us' Q)
    (X : ∀ (E : String) (h' : ev_AH), P' (.inr E) h' → EvX l G M pc ls h' uc' us' Q E) : Ev l G M pc ls stk h uc us Q := by
  intro p e s m args below meth c H locs cells slots lsA C hH hS hl h1 h2
  obtain ⟨hx, hb, hml, hown, hts, hr, hlk, hnm, htb, hst, hK, hB, hL⟩ := id C
  obtain ⟨⟨r, r1, r2⟩, w0, w1, w2, w3, w4, w5, w6, w7⟩ := hw
  obtain ⟨fs, ho⟩ := hob
  obtain ⟨-, -, cellB, g1, g2, g3, -⟩ := ev_obj hH ho r1
  have hcode := m_code_nil w0
  have hm' : vx_Met l (m_y M') (m_code M' :: ev_TB) (m_rm M') (ev_Pc l G (.ref b :: as) h) (ev_Qc G P') (ev_XC G P') (m_mc M') (m_ms M') (g_A G) := hm
  have cw : CallW (m_rm M) s args (m_y M).cls (m_y M').cls idx (m_y M') (m_cc M') (m_nL M') (m_rt M') (m_code M' :: ev_TB) (m_rm M') (m_mc M') (m_ms M') n :=
    ⟨callB_of n hts (ev_goodW w5) (by rw [hcode]) rfl rfl (hts _ w4) (hts _ w1) w6 w7, hts _ w2, hts _ w3⟩
  have hrec : ∃ cell : Cell, H[b]? = some cell ∧ cell.vm.isStatics = false ∧ s.vm.findClass (m_y M').cls = some cell.cls := ⟨cellB, g1, by rw [g3]; rfl, by rw [r2, g2]; exact (hK.1 ci r r1).2.1⟩
  refine ev_back (st := st) (vx_runV (As := as) (rest := st) (b := b) (cc := m_cc M) (nL := m_nL M) ⟨hx, hb, hml, hown, hts⟩ hm' cw ⟨ev_Pc.blind, hrec, fun U hU hW => ev_hand C hH hS _ U hU hW⟩ rfl hn hl.1 hstk.symm (lv_room hsum) hd ⟨?_, ?_⟩) C hS hl h1 h2 hc hs K X
  · show cells + _ ≤ m_mc M
    omega
  · show slots + _ ≤ m_ms M
    omega
theorem e_callS {idx n : Nat} (hd : decode (m_cc M) pc = .ok (.invokestatic idx, 3)) (hw : ev_CS M idx M' n) (hn : as.length = n) (hstk : as.reverse ++ st = stk) (hm : Mt l G M' as h P') (hsum : (st.map fun v => v.category).sum ≤ 8) (hc : m_mc M' + uc' ≤ uc) (hs : m_ms M' + us' ≤ us)
    (K : ∀ (v : Option Value) (h' : ev_AH), P' (.inl v) h' → Ev l G M (pc + 3) ls (v.toList ++ st) h' uc' us' Q)
    (X : ∀ (E : String) (h' : ev_AH), P' (.inr E) h' → EvX l G M pc ls h' uc' us' Q E) : Ev l G M pc ls stk h uc us Q := by
  intro p e s m args below meth c H locs cells slots lsA C hH hS hl h1 h2
  obtain ⟨hx, hb, hml, hown, hts, hr, hlk, hnm, htb, hst, hK, hB, hL⟩ := id C
  obtain ⟨w0, w1, w2, w4, w5, w6, w7⟩ := hw
  have hcode := m_code_nil w0
  have hm' : vx_Met l (m_y M') (m_code M' :: ev_TB) (m_rm M') (ev_Pc l G as h) (ev_Qc G P') (ev_XC G P') (m_mc M') (m_ms M') (g_A G) := hm
  have cw : CallB (m_rm M) s args (m_y M).cls idx (m_y M') (m_cc M') (m_nL M') (m_rt M') (m_code M' :: ev_TB) (m_rm M') (m_mc M') (m_ms M') n ∧ (Cond.static (m_y M')).before args s = true :=
    ⟨callB_of n hts (ev_goodW w5) (by rw [hcode]) rfl rfl (hts _ w4) (hts _ w1) w6 w7, hts _ w2⟩
  refine ev_back (st := st) (vx_runS (As := as) (rest := st) (cc := m_cc M) (nL := m_nL M) ⟨hx, hb, hml, hown, hts⟩ hm' cw ⟨ev_Pc.blind, fun U hU hW => ev_hand C hH hS _ U hU hW⟩ rfl hn hl.1 hstk.symm (lv_room hsum) hd ⟨?_, ?_⟩) C hS hl h1 h2 hc hs K X
  · show cells + _ ≤ m_mc M
    omega
  · show slots + _ ≤ m_ms M
    omega
/-- it leaves this method too -/
theorem e_out {E : String} (hnone : ∀ x ∈ tableOf (m_ht M), covers x pc = false) (hP : P (.inr E) h) : EvX l G M pc ls h uc us (ev_fin G M P) E := by
  intro p e s m args below meth c H locs cells slots lsA st q ce C hH hS hl h1 h2 hce hcv hcl
  obtain ⟨hx, hb, hml, hown, hts, hr, hlk, hnm, htb, hst, hK, hB, hL⟩ := id C
  exact vx_out (by rw [htb]; exact hnone) hlk hce hcv hcl (fun t ht hvm => ⟨h, hP, by rw [ht]; exact hH, hS.F ht⟩) hS.2.2 (by omega) (by omega)
theorem e_iret {v : Int32} (hd : decode (m_cc M) pc = .ok (.ireturn, 1)) (hr : m_rt M = some .int) (hP : P (.inl (some (.int v))) h) : Ev l G M pc ls [.int v] h uc us (ev_fin G M P) := by
  intro p e s m args below meth c H locs cells slots lsA C hH hS hl h1 h2
  obtain ⟨hx, hb, hml, hown, hts, hrt, hlk, hnm, htb, hst, hK, hB, hL⟩ := id C
  refine vx_ret (W.widen (k := m_mc M) (n := m_ms M) (by omega) (by omega) ?_)
  exact W.iret hx hb (hrt.trans hr) (fun t ht hW => ⟨_, h, rfl, hP, by rw [ht]; exact hH, hS.F ht⟩) hS.2.2 hd
theorem e_zret {v : Int32} (hd : decode (m_cc M) pc = .ok (.ireturn, 1)) (hr : m_rt M = some .boolean) (hn : narrow .boolean (.int v) = .int v) (hP : P (.inl (some (.int v))) h) : Ev l G M pc ls [.int v] h uc us (ev_fin G M P) := by
  intro p e s m args below meth c H locs cells slots lsA C hH hS hl h1 h2
  obtain ⟨hx, hb, hml, hown, hts, hrt, hlk, hnm, htb, hst, hK, hB, hL⟩ := id C
  refine vx_ret (W.widen (k := m_mc M) (n := m_ms M) (by omega) (by omega) ?_)
  exact W.zret hx hb (hrt.trans hr) hn (fun t ht hW => ⟨_, h, rfl, hP, by rw [ht]; exact hH, hS.F ht⟩) hS.2.2 hd
theorem e_lret {v : Int64} (hd : decode (m_cc M) pc = .ok (.lreturn, 1)) (hr : m_rt M = some .long) (hP : P (.inl (some (.long v))) h) : Ev l G M pc ls [.long v] h uc us (ev_fin G M P) := by
  intro p e s m args below meth c H locs cells slots lsA C hH hS hl h1 h2
  obtain ⟨hx, hb, hml, hown, hts, hrt, hlk, hnm, htb, hst, hK, hB, hL⟩ := id C
  refine vx_ret (W.widen (k := m_mc M) (n := m_ms M) (by omega) (by omega) ?_)
  exact W.lret hx hb (hrt.trans hr) (fun t ht hW => ⟨_, h, rfl, hP, by rw [ht]; exact hH, hS.F ht⟩) hS.2.2 hd
theorem e_vret (hd : decode (m_cc M) pc = .ok (.return_, 1)) (hr : m_rt M = none) (hP : P (.inl none) h) : Ev l G M pc ls [] h uc us (ev_fin G M P) := by
  intro p e s m args below meth c H locs cells slots lsA C hH hS hl h1 h2
  obtain ⟨hx, hb, hml, hown, hts, hrt, hlk, hnm, htb, hst, hK, hB, hL⟩ := id C
  refine vx_ret (W.widen (k := m_mc M) (n := m_ms M) (by omega) (by omega) ?_)
  exact W.vret hx hb (hrt.trans hr) (fun t ht hW => ⟨_, h, rfl, hP, by rw [ht]; exact hH, hS.F ht⟩) hS.2.2 hd
theorem e_aret {a : Nat} {rt : FieldType} (hd : decode (m_cc M) pc = .ok (.areturn, 1)) (hr : m_rt M = some rt) (hrt2 : (∃ n, rt = .object n) ∨ ∃ t, rt = .array t) (hP : P (.inl (some (.ref a))) h) : Ev l G M pc ls [.ref a] h uc us (ev_fin G M P) := by
  intro p e s m args below meth c H locs cells slots lsA C hH hS hl h1 h2
  obtain ⟨hx, hb, hml, hown, hts, hrt, hlk, hnm, htb, hst, hK, hB, hL⟩ := id C
  refine vx_ret (W.widen (k := m_mc M) (n := m_ms M) (by omega) (by omega) ?_)
  exact W.aret hx hb (hrt.trans hr) hrt2 (Or.inr ⟨a, rfl⟩) (fun t ht hW => ⟨_, h, rfl, hP, by rw [ht]; exact hH, hS.F ht⟩) hS.2.2 hd
end CALLS
def ev_CI (M : ev_M) (idx : Nat) (M' : ev_M) (n : Nat) : Prop := m_ht M' = [] ∧ m_rt M' = none ∧ (m_y M').name = "<init>" ∧ Cond.methodLink (m_y M).cls idx (m_y M') ∈ ev_TB ∧ Cond.instanceMethod (m_y M') ∈ ev_TB ∧ Cond.initialized (m_y M').cls ∈ ev_TB ∧ m_code M' ∈ ev_TB ∧
  ((m_y M').cls ≠ "java/lang/invoke/MethodHandle" ∧ (m_y M').cls ≠ "java/lang/invoke/VarHandle" ∧ (parseMethodDescriptor (m_y M').desc).map (fun d => d.parameters.length) = some n) ∧ ev_room M M'
section CALLI
variable {l : Launch} {G : ev_G} {M M' : ev_M} {pc : Nat} {ls : List (Nat × Value)} {st as stk : List Value} {h : ev_AH} {uc us uc' us' : Nat} {Q : ev_Fin} {P P' : ev_Post}
theorem Mt.met (hm : Mt l G M as h P) (hno : ∀ (E : String) (h' : ev_AH), ¬ P (.inr E) h') : Met l (m_y M) (m_code M :: ev_TB) (m_rm M) (ev_Pc l G as h) (ev_Qc G P) (m_mc M) (m_ms M) (g_A G) := by
  intro p e ha hc hk s m args below hf happ hP hK
  obtain ⟨n, o, a1, a2, a3, a4⟩ := hm p e ha hc hk s m args below hf happ hP hK
  refine ⟨n, o, a1, a2, a3, ?_⟩
  rcases a4 with a4 | ⟨q, -, E, ce, L, ⟨h', hx, -⟩, -⟩
  · exact a4
  · exact absurd hx (hno E h')
theorem e_callI {b idx n : Nat} (hd : decode (m_cc M) pc = .ok (.invokespecial idx, 3)) (hw : ev_CI M idx M' n) (hn : as.length = n) (hstk : as.reverse ++ .ref b :: st = stk) (hm : Mt l G M' (.ref b :: as) h P') (hno : ∀ (E : String) (h' : ev_AH), ¬ P' (.inr E) h') (hsum : (st.map fun v => v.category).sum ≤ 8) (hc : m_mc M' + uc' ≤ uc) (hs : m_ms M' + us' ≤ us)
    (K : ∀ (v : Option Value) (h' : ev_AH), P' (.inl v) h' → Ev l G M (pc + 3) ls (v.toList ++ st) h' uc' us' Q) : Ev l G M pc ls stk h uc us Q := by
  intro p e s m args below meth c H locs cells slots lsA C hH hS hl h1 h2
  obtain ⟨hx, hb, hml, hown, hts, hr, hlk, hnm, htb, hst, hK, hB, hL⟩ := id C
  obtain ⟨w0, w01, w02, w1, w2, w4, w5, w6, w7⟩ := hw
  have hcode := m_code_nil w0
  rw [w01] at hcode
  have cw : CallB (m_rm M) s args (m_y M).cls idx (m_y M') (m_cc M') (m_nL M') none (m_code M' :: ev_TB) (m_rm M') (m_mc M') (m_ms M') n ∧ (m_y M').name = "<init>" ∧ (Cond.instanceMethod (m_y M')).before args s = true :=
    ⟨callB_of n hts (ev_goodW w5) (by rw [hcode]) rfl rfl (hts _ w4) (hts _ w1) w6 w7, w02, hts _ w2⟩
  have hrun := va_runI (As := as) (rest := st) (b := b) (g := F0 m pc lsA stk) (below := below) (meth := meth) (e := e) (locs := locs) (cells := cells) (slots := slots) (cc := m_cc M) (nL := m_nL M) ⟨hx, hb, hml, hown, hts⟩ (Mt.met hm hno) cw ⟨ev_Pc.blind, fun U hU hW => ev_hand C hH hS _ U hU hW⟩ rfl hn hl.1 hstk.symm (lv_room hsum) hd ⟨by show cells + _ ≤ m_mc M; omega, by show slots + _ ≤ m_ms M; omega⟩
  intro T hT Y
  obtain ⟨v, st₀, t, T', L, h0, Y', hL', e1, e2, ⟨v', h', hv, hP, hH', hF⟩, stp⟩ := hrun T hT Y
  cases hv
  have hS' : va_S (g_A G) s.heap T'.heap (locs ++ L) := (vx_keep h0 e1 hS (fun _ _ z => z) (fun _ z => z) hL' hF).2.2
  obtain ⟨t2, a1, b1⟩ := K v h' hP p e s m args below meth c T'.heap (locs ++ L) (cells + m_mc M') (slots + m_ms M') lsA C (by rw [e1]; exact hH') hS' hl (by omega) (by omega) T' rfl Y'
  exact ⟨t2, stp t2 a1, b1⟩
/-- Object's constructor -/
theorem e_obj {idx a : Nat} (hd : decode (m_cc M) pc = .ok (.invokespecial idx, 3)) (w1 : Cond.methodLink (m_y M).cls idx objectInit ∈ ev_TB) (w2 : Cond.instanceMethod objectInit ∈ ev_TB) (w3 : Cond.code objectInit ⟨#[0xb1]⟩ 1 none ∈ ev_TB) (hf : 1 ≤ (m_rm M).frames) (hlo : (st.map fun v => v.category).sum + 12 ≤ (m_rm M).locals) (K : Ev l G M (pc + 3) ls st h uc us Q) : Ev l G M pc ls (.ref a :: st) h uc us Q := by
  intro p e s m args below meth c H locs cells slots lsA C hH hS hl h1 h2
  obtain ⟨hx, hb, hml, hown, hts, hr, hlk, hnm, htb, hst, hK, hB, hL⟩ := id C
  exact W.objInit hx hb hown (hts _ w1) (hts _ w2) (hts _ w3) rfl (by rw [hml]; exact hl.1) rfl hd hf (by show 2 * 0 + _ + 12 ≤ _; omega) (K p e s m args below meth c H locs cells slots lsA C hH hS hl h1 h2)
end CALLI
end
section
/-! TYPED ENDS: the answer's type is known -/
abbrev ev_pi (A : Int32 → ev_AH → Prop) (X : String → ev_AH → Prop) : ev_Post := fun r h => match r with
  | .inl (some (.int v)) => A v h
  | .inr E => X E h
  | _ => False
abbrev ev_pl (A : Int64 → ev_AH → Prop) (X : String → ev_AH → Prop) : ev_Post := fun r h => match r with
  | .inl (some (.long v)) => A v h
  | .inr E => X E h
  | _ => False
abbrev ev_pr (A : Nat → ev_AH → Prop) (X : String → ev_AH → Prop) : ev_Post := fun r h => match r with
  | .inl (some (.ref v)) => A v h
  | .inr E => X E h
  | _ => False
abbrev ev_pv (A : ev_AH → Prop) (X : String → ev_AH → Prop) : ev_Post := fun r h => match r with
  | .inl none => A h
  | .inr E => X E h
  | _ => False
theorem ev_pi_of {A : Int32 → ev_AH → Prop} {X : String → ev_AH → Prop} {v : Option Value} {h : ev_AH} (q : ev_pi A X (.inl v) h) : ∃ r : Int32, v = some (.int r) ∧ A r h := by
  unfold ev_pi at q
  split at q
  · rename_i e; cases e; exact ⟨_, rfl, q⟩
  · rename_i e; cases e
  · exact q.elim
theorem ev_pl_of {A : Int64 → ev_AH → Prop} {X : String → ev_AH → Prop} {v : Option Value} {h : ev_AH} (q : ev_pl A X (.inl v) h) : ∃ r : Int64, v = some (.long r) ∧ A r h := by
  unfold ev_pl at q
  split at q
  · rename_i e; cases e; exact ⟨_, rfl, q⟩
  · rename_i e; cases e
  · exact q.elim
theorem ev_pr_of {A : Nat → ev_AH → Prop} {X : String → ev_AH → Prop} {v : Option Value} {h : ev_AH} (q : ev_pr A X (.inl v) h) : ∃ r : Nat, v = some (.ref r) ∧ A r h := by
  unfold ev_pr at q
  split at q
  · rename_i e; cases e; exact ⟨_, rfl, q⟩
  · rename_i e; cases e
  · exact q.elim
theorem ev_pv_of {A : ev_AH → Prop} {X : String → ev_AH → Prop} {v : Option Value} {h : ev_AH} (q : ev_pv A X (.inl v) h) : v = none ∧ A h := by
  unfold ev_pv at q
  split at q
  · rename_i e; cases e; exact ⟨rfl, q⟩
  · rename_i e; cases e
  · exact q.elim
section TYPED
variable {l : Launch} {G : ev_G} {M M' : ev_M} {pc : Nat} {ls : List (Nat × Value)} {st as stk : List Value} {h : ev_AH} {uc us uc' us' : Nat} {Q : ev_Fin} {P P' : ev_Post} {X : String → ev_AH → Prop}
theorem e_callVi {A : Int32 → ev_AH → Prop} {b idx ci n : Nat} (hd : decode (m_cc M) pc = .ok (.invokevirtual idx, 3)) (hw : ev_CV M idx M' ci n) (hn : as.length = n) (hstk : as.reverse ++ .ref b :: st = stk) (hob : ∃ fs : List Value, h b = some (ci, fs)) (hm : Mt l G M' (.ref b :: as) h (ev_pi A X)) (hsum : (st.map fun v => v.category).sum ≤ 8) (hc : m_mc M' + uc' ≤ uc) (hs : m_ms M' + us' ≤ us) (K : ∀ (r : Int32) (h' : ev_AH), A r h' → Ev l G M (pc + 3) ls (.int r :: st) h' uc' us' Q) (KX : ∀ (E : String) (h' : ev_AH), X E h' → EvX l G M pc ls h' uc' us' Q E) : Ev l G M pc ls stk h uc us Q :=
  e_callV hd hw hn hstk hob hm hsum hc hs (fun v h' q => by obtain ⟨r, rfl, q⟩ := ev_pi_of q; exact K r h' q) (fun E h' q => KX E h' q)
theorem e_callSi {A : Int32 → ev_AH → Prop} {idx n : Nat} (hd : decode (m_cc M) pc = .ok (.invokestatic idx, 3)) (hw : ev_CS M idx M' n) (hn : as.length = n) (hstk : as.reverse ++ st = stk) (hm : Mt l G M' as h (ev_pi A X)) (hsum : (st.map fun v => v.category).sum ≤ 8) (hc : m_mc M' + uc' ≤ uc) (hs : m_ms M' + us' ≤ us) (K : ∀ (r : Int32) (h' : ev_AH), A r h' → Ev l G M (pc + 3) ls (.int r :: st) h' uc' us' Q) (KX : ∀ (E : String) (h' : ev_AH), X E h' → EvX l G M pc ls h' uc' us' Q E) : Ev l G M pc ls stk h uc us Q :=
  e_callS hd hw hn hstk hm hsum hc hs (fun v h' q => by obtain ⟨r, rfl, q⟩ := ev_pi_of q; exact K r h' q) (fun E h' q => KX E h' q)
theorem e_callVl {A : Int64 → ev_AH → Prop} {b idx ci n : Nat} (hd : decode (m_cc M) pc = .ok (.invokevirtual idx, 3)) (hw : ev_CV M idx M' ci n) (hn : as.length = n) (hstk : as.reverse ++ .ref b :: st = stk) (hob : ∃ fs : List Value, h b = some (ci, fs)) (hm : Mt l G M' (.ref b :: as) h (ev_pl A X)) (hsum : (st.map fun v => v.category).sum ≤ 8) (hc : m_mc M' + uc' ≤ uc) (hs : m_ms M' + us' ≤ us) (K : ∀ (r : Int64) (h' : ev_AH), A r h' → Ev l G M (pc + 3) ls (.long r :: st) h' uc' us' Q) (KX : ∀ (E : String) (h' : ev_AH), X E h' → EvX l G M pc ls h' uc' us' Q E) : Ev l G M pc ls stk h uc us Q :=
  e_callV hd hw hn hstk hob hm hsum hc hs (fun v h' q => by obtain ⟨r, rfl, q⟩ := ev_pl_of q; exact K r h' q) (fun E h' q => KX E h' q)
theorem e_callSl {A : Int64 → ev_AH → Prop} {idx n : Nat} (hd : decode (m_cc M) pc = .ok (.invokestatic idx, 3)) (hw : ev_CS M idx M' n) (hn : as.length = n) (hstk : as.reverse ++ st = stk) (hm : Mt l G M' as h (ev_pl A X)) (hsum : (st.map fun v => v.category).sum ≤ 8) (hc : m_mc M' + uc' ≤ uc) (hs : m_ms M' + us' ≤ us) (K : ∀ (r : Int64) (h' : ev_AH), A r h' → Ev l G M (pc + 3) ls (.long r :: st) h' uc' us' Q) (KX : ∀ (E : String) (h' : ev_AH), X E h' → EvX l G M pc ls h' uc' us' Q E) : Ev l G M pc ls stk h uc us Q :=
  e_callS hd hw hn hstk hm hsum hc hs (fun v h' q => by obtain ⟨r, rfl, q⟩ := ev_pl_of q; exact K r h' q) (fun E h' q => KX E h' q)
theorem e_callVr {A : Nat → ev_AH → Prop} {b idx ci n : Nat} (hd : decode (m_cc M) pc = .ok (.invokevirtual idx, 3)) (hw : ev_CV M idx M' ci n) (hn : as.length = n) (hstk : as.reverse ++ .ref b :: st = stk) (hob : ∃ fs : List Value, h b = some (ci, fs)) (hm : Mt l G M' (.ref b :: as) h (ev_pr A X)) (hsum : (st.map fun v => v.category).sum ≤ 8) (hc : m_mc M' + uc' ≤ uc) (hs : m_ms M' + us' ≤ us) (K : ∀ (r : Nat) (h' : ev_AH), A r h' → Ev l G M (pc + 3) ls (.ref r :: st) h' uc' us' Q) (KX : ∀ (E : String) (h' : ev_AH), X E h' → EvX l G M pc ls h' uc' us' Q E) : Ev l G M pc ls stk h uc us Q :=
  e_callV hd hw hn hstk hob hm hsum hc hs (fun v h' q => by obtain ⟨r, rfl, q⟩ := ev_pr_of q; exact K r h' q) (fun E h' q => KX E h' q)
theorem e_callSr {A : Nat → ev_AH → Prop} {idx n : Nat} (hd : decode (m_cc M) pc = .ok (.invokestatic idx, 3)) (hw : ev_CS M idx M' n) (hn : as.length = n) (hstk : as.reverse ++ st = stk) (hm : Mt l G M' as h (ev_pr A X)) (hsum : (st.map fun v => v.category).sum ≤ 8) (hc : m_mc M' + uc' ≤ uc) (hs : m_ms M' + us' ≤ us) (K : ∀ (r : Nat) (h' : ev_AH), A r h' → Ev l G M (pc + 3) ls (.ref r :: st) h' uc' us' Q) (KX : ∀ (E : String) (h' : ev_AH), X E h' → EvX l G M pc ls h' uc' us' Q E) : Ev l G M pc ls stk h uc us Q :=
  e_callS hd hw hn hstk hm hsum hc hs (fun v h' q => by obtain ⟨r, rfl, q⟩ := ev_pr_of q; exact K r h' q) (fun E h' q => KX E h' q)
theorem e_callVv {A : ev_AH → Prop} {b idx ci n : Nat} (hd : decode (m_cc M) pc = .ok (.invokevirtual idx, 3)) (hw : ev_CV M idx M' ci n) (hn : as.length = n) (hstk : as.reverse ++ .ref b :: st = stk) (hob : ∃ fs : List Value, h b = some (ci, fs)) (hm : Mt l G M' (.ref b :: as) h (ev_pv A X)) (hsum : (st.map fun v => v.category).sum ≤ 8) (hc : m_mc M' + uc' ≤ uc) (hs : m_ms M' + us' ≤ us) (K : ∀ h' : ev_AH, A h' → Ev l G M (pc + 3) ls st h' uc' us' Q) (KX : ∀ (E : String) (h' : ev_AH), X E h' → EvX l G M pc ls h' uc' us' Q E) : Ev l G M pc ls stk h uc us Q :=
  e_callV hd hw hn hstk hob hm hsum hc hs (fun v h' q => by obtain ⟨rfl, q⟩ := ev_pv_of q; exact K h' q) (fun E h' q => KX E h' q)
theorem e_callSv {A : ev_AH → Prop} {idx n : Nat} (hd : decode (m_cc M) pc = .ok (.invokestatic idx, 3)) (hw : ev_CS M idx M' n) (hn : as.length = n) (hstk : as.reverse ++ st = stk) (hm : Mt l G M' as h (ev_pv A X)) (hsum : (st.map fun v => v.category).sum ≤ 8) (hc : m_mc M' + uc' ≤ uc) (hs : m_ms M' + us' ≤ us) (K : ∀ h' : ev_AH, A h' → Ev l G M (pc + 3) ls st h' uc' us' Q) (KX : ∀ (E : String) (h' : ev_AH), X E h' → EvX l G M pc ls h' uc' us' Q E) : Ev l G M pc ls stk h uc us Q :=
  e_callS hd hw hn hstk hm hsum hc hs (fun v h' q => by obtain ⟨rfl, q⟩ := ev_pv_of q; exact K h' q) (fun E h' q => KX E h' q)
theorem e_callIv {A : ev_AH → Prop} {b idx n : Nat} (hd : decode (m_cc M) pc = .ok (.invokespecial idx, 3)) (hw : ev_CI M idx M' n) (hn : as.length = n) (hstk : as.reverse ++ .ref b :: st = stk) (hm : Mt l G M' (.ref b :: as) h (ev_pv A (fun _ _ => False))) (hsum : (st.map fun v => v.category).sum ≤ 8) (hc : m_mc M' + uc' ≤ uc) (hs : m_ms M' + us' ≤ us) (K : ∀ h' : ev_AH, A h' → Ev l G M (pc + 3) ls st h' uc' us' Q) : Ev l G M pc ls stk h uc us Q :=
  e_callI hd hw hn hstk hm (fun _ _ q => q) hsum hc hs (fun v h' q => by obtain ⟨rfl, q⟩ := ev_pv_of q; exact K h' q)
theorem e_topi {x : Int32} (K : ∀ y : Int32, y = x → Ev l G M pc ls (.int y :: st) h uc us Q) : Ev l G M pc ls (.int x :: st) h uc us Q := K x rfl
theorem e_topl {x : Int64} (K : ∀ y : Int64, y = x → Ev l G M pc ls (.long y :: st) h uc us Q) : Ev l G M pc ls (.long x :: st) h uc us Q := K x rfl
end TYPED
end
section
/-! MISC ROWS: statics, casts, the script, constants, Math, arrays of references -/
section MISC
variable {l : Launch} {G : ev_G} {M : ev_M} {pc : Nat} {ls : List (Nat × Value)} {st : List Value} {h : ev_AH} {uc us uc' us' : Nat} {Q : ev_Fin} {P : ev_Post}
theorem e_gets {idx : Nat} (hd : decode (m_cc M) pc = .ok (.getstatic idx, 3)) (hw : Cond.fieldLink (m_y M).cls idx "java/util/ArrayList" "DEFAULTCAPACITY_EMPTY_ELEMENTDATA" "[Ljava/lang/Object;" ∈ ev_TB) (K : Ev l G M (pc + 3) ls (.ref (g_t0 G) :: st) h uc us Q) : Ev l G M pc ls st h uc us Q := by
  intro p e s m args below meth c H locs cells slots lsA C hH hS hl h1 h2
  obtain ⟨hx, hb, hml, hown, hts, hr, hlk, hnm, htb, hst, hK, hB, hL⟩ := id C
  exact va_gets hx hb hL.1 hS hown (hts _ hw) (fun _ z => z) hd (K p e s m args below meth c H locs cells slots lsA C hH hS hl h1 h2)
theorem e_alen0 (hd : decode (m_cc M) pc = .ok (.arraylength, 1)) (K : Ev l G M (pc + 1) ls (.int 0 :: st) h uc us Q) : Ev l G M pc ls (.ref (g_t0 G) :: st) h uc us Q := by
  intro p e s m args below meth c H locs cells slots lsA C hH hS hl h1 h2
  obtain ⟨hx, hb, hml, hown, hts, hr, hlk, hnm, htb, hst, hK, hB, hL⟩ := id C
  exact va_tlen hx hb hL.2.1 hS rfl hd (K p e s m args below meth c H locs cells slots lsA C hH hS hl h1 h2)
theorem e_slen (hd : decode (m_cc M) pc = .ok (.arraylength, 1)) (K : Ev l G M (pc + 1) ls (.int (nI (g_sL G)) :: st) h uc us Q) : Ev l G M pc ls (.ref (g_sb G) :: st) h uc us Q := by
  intro p e s m args below meth c H locs cells slots lsA C hH hS hl h1 h2
  obtain ⟨hx, hb, hml, hown, hts, hr, hlk, hnm, htb, hst, hK, hB, hL⟩ := id C
  have hX := hL.2.2.2.2.2.2.1
  have hsb := hL.2.2.2.2.2.2.2.1
  exact va_slen hx hb hX (by omega) (by unfold g_A; omega) hS hd (K p e s m args below meth c H locs cells slots lsA C hH hS hl h1 h2)
theorem e_sld {i : Int32} (hd : decode (m_cc M) pc = .ok (.iaload, 1)) (hi : vp_in i (g_sL G)) (K : Ev l G M (pc + 1) ls (.int (g_xs G i.toNatClampNeg) :: st) h uc us Q) : Ev l G M pc ls (.int i :: .ref (g_sb G) :: st) h uc us Q := by
  intro p e s m args below meth c H locs cells slots lsA C hH hS hl h1 h2
  obtain ⟨hx, hb, hml, hown, hts, hr, hlk, hnm, htb, hst, hK, hB, hL⟩ := id C
  have hX := hL.2.2.2.2.2.2.1
  have hsb := hL.2.2.2.2.2.2.2.1
  exact va_sld hx hb hX (by omega) (by unfold g_A; omega) hS hi hd (K p e s m args below meth c H locs cells slots lsA C hH hS hl h1 h2)
theorem e_ldc {idx : Nat} {v : Int32} (hd : decode (m_cc M) pc = .ok (.ldc idx, 2)) (hw : Cond.constant (m_y M).cls idx v ∈ ev_TB) (K : Ev l G M (pc + 2) ls (.int v :: st) h uc us Q) : Ev l G M pc ls st h uc us Q := by
  intro p e s m args below meth c H locs cells slots lsA C hH hS hl h1 h2
  obtain ⟨hx, hb, hml, hown, hts, hr, hlk, hnm, htb, hst, hK, hB, hL⟩ := id C
  exact lv_ldc hx hb hown (hts _ hw) hd (K p e s m args below meth c H locs cells slots lsA C hH hS hl h1 h2)
theorem e_ldc2 {idx : Nat} {v : Int64} (hd : decode (m_cc M) pc = .ok (.ldc2_w idx, 3)) (hw : Cond.constantLong (m_y M).cls idx v ∈ ev_TB) (K : Ev l G M (pc + 3) ls (.long v :: st) h uc us Q) : Ev l G M pc ls st h uc us Q := by
  intro p e s m args below meth c H locs cells slots lsA C hH hS hl h1 h2
  obtain ⟨hx, hb, hml, hown, hts, hr, hlk, hnm, htb, hst, hK, hB, hL⟩ := id C
  exact lv_ldc2 hx hb hown (hts _ hw) hd (K p e s m args below meth c H locs cells slots lsA C hH hS hl h1 h2)
def ev_CC (own : String) (idx ci : Nat) : Prop := ∃ r : vw_C, ev_cl[ci]? = some r ∧ Cond.classLink own idx r.1 ∈ ev_TB
theorem e_cast {idx a ci : Nat} (hd : decode (m_cc M) pc = .ok (.checkcast idx, 3)) (hw : ev_CC (m_y M).cls idx ci) (ho : ∃ fs : List Value, h a = some (ci, fs)) (K : Ev l G M (pc + 3) ls (.ref a :: st) h uc us Q) : Ev l G M pc ls (.ref a :: st) h uc us Q := by
  intro p e s m args below meth c H locs cells slots lsA C hH hS hl h1 h2
  obtain ⟨hx, hb, hml, hown, hts, hr, hlk, hnm, htb, hst, hK, hB, hL⟩ := id C
  obtain ⟨r, r1, r2⟩ := hw
  obtain ⟨fs, ho⟩ := ho
  obtain ⟨-, -, cellB, g1, g2, g3, -⟩ := ev_obj hH ho r1
  have hKn := (hK.1 ci r r1).2
  exact va_castS hx hb hown (hts _ r2) hKn ⟨cellB, g1, by rw [g3]; rfl, by rw [g2]; exact hKn.1⟩ hd (K p e s m args below meth c H locs cells slots lsA C hH hS hl h1 h2)
theorem e_aastN {a : Nat} {i : Int32} {w : Value} (hd : decode (m_cc M) pc = .ok (.aastore, 1)) (h0 : ¬ i < 0) (hv : ev_f h a 103 i.toNatClampNeg = some w) (K : ∀ h' : ev_AH, h' = ev_s h a i.toNatClampNeg .null → Ev l G M (pc + 1) ls st h' uc us Q) : Ev l G M pc ls (.null :: .int i :: .ref a :: st) h uc us Q := by
  intro p e s m args below meth c H locs cells slots lsA C hH hS hl h1 h2
  obtain ⟨hx, hb, hml, hown, hts, hr, hlk, hnm, htb, hst, hK, hB, hL⟩ := id C
  obtain ⟨vs, q1, q2⟩ := ev_f_of hv
  obtain ⟨hBa, hj, hc⟩ := ev_arr (j := 3) hH q1
  obtain ⟨i1, i2⟩ := ev_in (cA := g_dA G 3) h0 q2
  have hlt := (List.getElem?_eq_some_iff.mp q2).1
  refine va_WaastN (C := "java/lang/Object") hx hb hc ((hK.2 3 _ (ev_tyAt G).2.2.2).1 vs.length (vp_V vs)) (fun z => by cases z) i1 rfl rfl hd fun H' e1 e2 e3 => ?_
  rw [ev_arrSet _ hlt] at e1
  exact K _ (ev_s_eq q1).symm p e s m args below meth c H' _ cells slots lsA C (hH.up hBa (Or.inr ⟨3, by omega, rfl, e1⟩) e3) (hS.put e2 e3 hBa) hl h1 h2
theorem e_anew {idx n : Nat} {i : Int32} (hd : decode (m_cc M) pc = .ok (.anewarray idx, 3)) (hw : Cond.classLink (m_y M).cls idx "java/lang/Object" ∈ ev_TB) (hi : nI n = i) (hn : n < 1000) (hc : 1 + uc' ≤ uc) (hs : n + us' ≤ us) (K : ∀ q : Nat, h q = none → ∀ h' : ev_AH, h' = ev_up h q (103, List.replicate n .null) → Ev l G M (pc + 3) ls (.ref q :: st) h' uc' us' Q) : Ev l G M pc ls (.int i :: st) h uc us Q := by
  intro p e s m args below meth c H locs cells slots lsA C hH hS hl h1 h2
  obtain ⟨hx, hb, hml, hown, hts, hr, hlk, hnm, htb, hst, hK, hB, hL⟩ := id C
  subst hi
  have hrc : (m_rm M).cells = m_mc M := rfl
  have hrs : (m_rm M).slots = m_ms M := rfl
  have hN : (nI n).toNatClampNeg = n := nI_clamp (by omega)
  have hAO := hL.2.2.2.2.2.2.2.2.2.2.2.1
  refine W.anew hx hb hown (hts _ hw) (va_AO.use hAO) rfl hd rfl (nI_pos (by omega)) (by rw [hN]; omega) (by rw [hrc]; omega) (by rw [hrs, hN]; omega) fun cA kA comp f1 f2 f3 f4 => ?_
  rw [hN]
  obtain ⟨-, -, -, -, -, k4⟩ := (hK.2 3 _ (ev_tyAt G).2.2.2).2
  have hcA : cA = g_dA G 3 := Option.some.inj (f1.symm.trans k4)
  subst hcA
  generalize hH1 : H.push ({ cls := g_dA G 3, slots := Array.replicate n .null, vm := .none } : Cell) = H1
  have z1 : H1.size = H.size + 1 := by rw [← hH1, Array.size_push]
  have e1 : H1[H.size]? = some (arrV (g_dA G 3) n (fun _ => .null)) := by rw [← hH1, Array.getElem?_push_size, ← arrV_new]
  have o1 : ∀ q : Nat, q < H.size → H1[q]? = H[q]? := fun q hq => by rw [← hH1, Array.getElem?_push, if_neg (Nat.ne_of_lt hq)]
  have hS1 : va_S (g_A G) s.heap H1 locs := ⟨Nat.le_trans hS.1 (by omega), fun x a1 a2 => (o1 x (Nat.lt_of_lt_of_le a1 hS.1)).trans (hS.2.1 x a1 a2), hS.2.2⟩
  refine K H.size (hH.fresh (Nat.le_refl _)) _ rfl p e s m args below meth c H1 locs (cells + 1) (slots + n) lsA C (hH.new (Nat.le_trans hB hS.1) (Or.inr ⟨3, by omega, rfl, ?_⟩) o1) hS1 hl (by omega) (by omega)
  rw [e1]
  exact ev_rep _ _ _
theorem e_mmin {idx : Nat} {x y : Int32} (hd : decode (m_cc M) pc = .ok (.invokestatic idx, 3)) (w1 : Cond.methodLink (m_y M).cls idx Lib.Math.min.name ∈ ev_TB) (w2 : Cond.static Lib.Math.min.name ∈ ev_TB) (w3 : Cond.initialized "java/lang/Math" ∈ ev_TB) (w4 : Cond.code Lib.Math.min.name Lib.Math.min.code 2 (some .int) ∈ ev_TB) (hf : 1 ≤ (m_rm M).frames) (hlo : (st.map fun v => v.category).sum + 13 ≤ (m_rm M).locals) (K : Ev l G M (pc + 3) ls (.int (if y < x then y else x) :: st) h uc us Q) : Ev l G M pc ls (.int y :: .int x :: st) h uc us Q := by
  intro p e s m args below meth c H locs cells slots lsA C hH hS hl h1 h2
  obtain ⟨hx, hb, hml, hown, hts, hr, hlk, hnm, htb, hst, hK, hB, hL⟩ := id C
  exact va_mmin hx hb (by rw [hml, hl.1]) hown (hts _ w1) (hts _ w2) (hts _ w3) (hts _ w4) hf hlo (by show cells ≤ m_mc M; omega) (by show slots ≤ m_ms M; omega) hd (K p e s m args below meth c H locs cells slots lsA C hH hS hl h1 h2)
theorem e_mmax {idx : Nat} {x y : Int32} (hd : decode (m_cc M) pc = .ok (.invokestatic idx, 3)) (w1 : Cond.methodLink (m_y M).cls idx Lib.Math.max.name ∈ ev_TB) (w2 : Cond.static Lib.Math.max.name ∈ ev_TB) (w3 : Cond.initialized "java/lang/Math" ∈ ev_TB) (w4 : Cond.code Lib.Math.max.name Lib.Math.max.code 2 (some .int) ∈ ev_TB) (hf : 1 ≤ (m_rm M).frames) (hlo : (st.map fun v => v.category).sum + 13 ≤ (m_rm M).locals) (K : Ev l G M (pc + 3) ls (.int (if x < y then y else x) :: st) h uc us Q) : Ev l G M pc ls (.int y :: .int x :: st) h uc us Q := by
  intro p e s m args below meth c H locs cells slots lsA C hH hS hl h1 h2
  obtain ⟨hx, hb, hml, hown, hts, hr, hlk, hnm, htb, hst, hK, hB, hL⟩ := id C
  exact va_mmax hx hb (by rw [hml, hl.1]) hown (hts _ w1) (hts _ w2) (hts _ w3) (hts _ w4) hf hlo (by show cells ≤ m_mc M; omega) (by show slots ≤ m_ms M; omega) hd (K p e s m args below meth c H locs cells slots lsA C hH hS hl h1 h2)
end MISC
theorem ev_out {x : Int32} (n : Nat) (h : ∀ k, k < n → ¬ x = nI k) (hn : n < 2 ^ 31 := by decide) : x.toInt < 0 ∨ ((n : Int) - 1) < x.toInt := by
  rcases Int.lt_or_le x.toInt 0 with q | q
  · exact Or.inl q
  · refine Or.inr ?_
    rcases Int.lt_or_le ((n : Int) - 1) x.toInt with r | r
    · exact r
    · obtain ⟨j, hj, e⟩ := vp_in_of (vp_in_iff.mpr ⟨q, by omega⟩) hn
      exact absurd e (h j hj)
end
section
/-! THROWING AND CATCHING; methods of the JDK, methods with a table -/
def ev_ens : List String := ["java/lang/RuntimeException", "java/lang/Exception"]
/-- 'throw new cls(text)' in M: the pool's places, the words, the room -/
def ev_TH (M : ev_M) (ik is ic : Nat) (cls text : String) : Prop := Bundle.fit cls = true ∧ Cond.classLink (m_y M).cls ik cls ∈ ev_TB ∧ Cond.initialized cls ∈ ev_TB ∧ ((m_y M).cls, is, text) ∈ ev_strs ∧
  (∀ w ∈ vx_atS (m_y M).cls ic cls ev_ens, w ∈ ev_TB ∨ (∃ q ∈ ev_casts, w = .castable q.1 q.2) ∨ ∃ x ∈ ev_decls, w = .declares x) ∧ (∀ w ∈ Cond.classLink (m_y M).cls ik cls :: Cond.initialized cls :: vx_atS (m_y M).cls ic cls ev_ens, vx_ot w = true) ∧ 6 ≤ (m_rm M).frames ∧ 82 ≤ (m_rm M).locals
theorem ev_ens_fit : ∀ n ∈ ev_ens, Bundle.fit n = true := by decide +kernel
section THROW
variable {l : Launch} {G : ev_G} {M M' : ev_M} {pc : Nat} {ls : List (Nat × Value)} {st as stk : List Value} {h : ev_AH} {uc us uc' us' : Nat} {Q : ev_Fin} {P P' : ev_Post}
theorem e_throwS {ik is ic : Nat} {cls text : String} (d0 : decode (m_cc M) pc = .ok (.new ik, 3)) (d3 : decode (m_cc M) (pc + 3) = .ok (.dup, 1)) (d4 : decode (m_cc M) (pc + 4) = .ok (.ldc is, 2)) (d6 : decode (m_cc M) (pc + 6) = .ok (.invokespecial ic, 3)) (d9 : decode (m_cc M) (pc + 9) = .ok (.athrow, 1))
    (hw : ev_TH M ik is ic cls text) (hc : 1 ≤ uc) (hs : 6 ≤ us) (hP : P (.inr cls) h) (hno : m_ht M = [] := by rfl) : Ev l G M pc ls [] h uc us (ev_fin G M P) := by
  intro p e s m args below meth c H locs cells slots lsA C hH hS hl h1 h2
  obtain ⟨hx, hb, hml, hown, hts, hr, hlk, hnm, htb, hst, hK, hB, hL⟩ := id C
  obtain ⟨w0, w1, w2, w3, w4, w5, w6, w7⟩ := hw
  obtain ⟨l1, l2, l3, l4, l5, l6, l7, l8, l9, l10, l11, l12, l13, l14⟩ := hL
  obtain ⟨sa, hsa⟩ := l5 _ w3
  have hrc : (m_rm M).cells = m_mc M := rfl
  have hrs : (m_rm M).slots = m_ms M := rfl
  refine vx_throwS (A := g_A G) (names := ev_ens) (text := text) (sa := sa) hx hb hst hown w0 ev_ens_fit (hts _ w1) (hts _ w2) hsa ?_ w5 l3 l4 hS (by rw [hml]; exact hl.1) d0 d3 d4 d6 d9 ?_ ?_ ?_ (by rw [hrc]; omega) (by rw [hrs]; omega) hlk ?_ hS.2.2 (by omega) (by omega)
  · intro w hw
    rcases w4 w hw with z | ⟨q, z, rfl⟩ | ⟨x, z, rfl⟩
    · exact hts _ z
    · exact va_Nw.use rfl (l10 _ z)
    · exact va_Nw.use rfl (l14 _ z)
  · rw [htb, hno]
    intro x hx9
    cases hx9
  · show 2 + 3 < _
    omega
  · show 0 + (13 * 3 + 43) ≤ _
    omega
  · intro t _ z1 z2
    exact ⟨h, hP, hH.keep z2, Nat.le_trans hS.1 z1, fun q a1 a2 => (z2 q (Nat.lt_of_lt_of_le a1 hS.1)).trans (hS.2.1 q a1 a2)⟩
/-- caught by the row x of this method's table -/
theorem e_catch {E : String} (pre : List (Nat × Nat × Nat × Nat)) (x : Nat × Nat × Nat × Nat) (suf : List (Nat × Nat × Nat × Nat)) (hsplit : m_ht M = pre ++ x :: suf)
    (hpass : ∀ z ∈ pre, z.2.2.2 ≠ 0 ∧ ∃ nm : String, Cond.classLink (m_y M).cls z.2.2.2 nm ∈ ev_TB ∧ (E, nm) ∈ ev_nocasts) (hcov : covers ⟨x.1, x.2.1, x.2.2.1, x.2.2.2⟩ pc = true) (h0 : x.2.2.2 ≠ 0)
    (hlink : Cond.classLink (m_y M).cls x.2.2.2 E ∈ ev_TB) (hcast : (E, E) ∈ ev_casts) (K : ∀ q : Nat, Ev l G M x.2.2.1 ls [.ref q] h uc us Q) : EvX l G M pc ls h uc us Q E := by
  intro p e s m args below meth c H locs cells slots lsA st q ce C hH hS hl h1 h2 hce hcv hcl
  obtain ⟨hx, hb, hml, hown, hts, hr, hlk, hnm, htb, hst, hK, hB, hL⟩ := id C
  obtain ⟨l1, l2, l3, l4, l5, l6, l7, l8, l9, l10, l11, l12, l13, l14⟩ := hL
  refine vx_catch (own := (m_y M).cls) (name := E) (E := E) hown (tableOf pre) ⟨x.1, x.2.1, x.2.2.1, x.2.2.2⟩ (tableOf suf) (by rw [htb, hsplit]; simp [tableOf]) ?_ hcov h0 (hts _ hlink) (va_Nw.use rfl (l10 _ hcast)) hce hcv hcl (K q p e s m args below meth c H locs cells slots lsA C hH hS hl h1 h2)
  intro z hz
  obtain ⟨y, hy, rfl⟩ := List.mem_map.mp hz
  obtain ⟨y1, nm, y2, y3⟩ := hpass y hy
  exact Or.inr ⟨y1, nm, hts _ y2, l11 _ y3⟩
/-- the walk from the entry gives the contract: a method with a table -/
theorem Mt.ofH {as : List Value} (hy : plainName (m_y M).cls = true) (ht : ∃ q r, m_ht M = q :: r) (hn : (lg_sl as).length ≤ m_nL M) (K : Ev l G M 0 (lv_args 0 as) [] h (m_mc M) (m_ms M) (ev_fin G M P)) : Mt l G M as h P := by
  obtain ⟨q0, r0, ht⟩ := ht
  have hcode : m_code M = .codeWith (m_y M) (m_cc M) (m_nL M) (m_rt M) (m_ht M) := by
    unfold m_code
    unfold m_ht at ht
    rw [ht]
  unfold Mt
  rw [hcode]
  refine vx_ofWH (cc := m_cc M) (maxL := m_nL M) (ret := m_rt M) (hh := m_ht M) hy rfl ?_
  intro p e s m args below meth c s₁ B hml hv
  obtain ⟨rfl, hst, hH, hK, hB, hL⟩ := hv
  have hts := atoms_spec (ws := Cond.codeWith (m_y M) (m_cc M) (m_nL M) (m_rt M) (m_ht M) :: ev_TB) B.pre
  have htb : c.exceptionTable.toList = tableOf (m_ht M) := vx_table (x := m_y M) B (hts _ List.mem_cons_self)
  have hl := lv_entry as (n := m_nL M) hn
  rw [lg_entry_eq]
  exact K p e s m _ below meth c s.heap [] 0 0 _ ⟨B.exec, B.bytes, hml, findClass_of_methodNamed B.named, fun w hw => hts w (List.mem_cons_of_mem _ hw), B.returns, B.notSynchronized, (name_of_methodNamed B.named B.method).1, htb, hst, hK, hB, hL⟩ hH va_S.rf hl (by omega) (by omega)
end THROW
theorem ev_ofWJ {l : Launch} {y : MethodName} {ws ws' : List Cond} {rm : Room} {Pc : Array Value → State → Prop} {Qc : Array Value → State → Outcome → State → Prop} {XC : String → State → State → Prop} {mc ms : Nat} {free : Addr → Prop} {cc : ByteArray} {maxL : Nat} {ret : Option FieldType}
    (hy : plainFor y = true) (hw : ws = Cond.code y cc maxL ret :: ws')
    (body : ∀ p e s m args below meth c s₁, BodyLoose p l y (headSpec ws rm) cc maxL ret e s m args below meth c s₁ → c.maxLocals = maxL → (∀ x ∈ c.exceptionTable.toList, False) → Pc args s →
      W p l e (headSpec ws rm).room s m args below meth c s.heap [] 0 0 (vx_MQ below Qc XC args s mc ms free) (entryFrame m args maxL)) : vx_Met l y ws rm Pc Qc XC mc ms free := by
  refine MetFree.of_bodySF (code := cc) (maxLocals := maxL) (ret := ret) hy ?_ ?_
  · intro args s m h hn
    obtain ⟨meth, c, h1, h2, h3, h4, h5, h6, -, -⟩ := Cond.code_spec hn (atoms_spec (ws := ws) h _ (by rw [hw]; exact List.mem_cons_self))
    exact ⟨meth, c, h1, h2, h3, h4, h5, h6⟩
  · intro p e s m args below meth c s₁ B hml hP _
    have hh0 : s₁.heap = s.heap := by rw [B.state]; rfl
    have ht : ∀ x ∈ c.exceptionTable.toList, False := by
      obtain ⟨meth9, c9, h1, h2, -, -, -, -, h7, -⟩ := Cond.code_spec B.named (atoms_spec (ws := ws) B.pre _ (by rw [hw]; exact List.mem_cons_self))
      cases Option.some.inj (h1.symm.trans B.method)
      cases Option.some.inj (h2.symm.trans (Stand.of_body B).code)
      intro x hx
      rw [Array.isEmpty_iff.mp h7] at hx
      cases hx
    obtain ⟨t, a1, o, b1, b2, b3⟩ := body p e s m args below meth c s₁ B hml ht hP s₁ hh0 (Stand.of_body B)
    exact ⟨t, o, a1, b1, b2, b3⟩
/-- .. a method of the JDK's -/
theorem Mt.ofJ {l : Launch} {G : ev_G} {M : ev_M} {h : ev_AH} {P : ev_Post} {as : List Value} (hy : plainFor (m_y M) = true) (ht : m_ht M = []) (hn : (lg_sl as).length ≤ m_nL M) (K : Ev l G M 0 (lv_args 0 as) [] h (m_mc M) (m_ms M) (ev_fin G M P)) : Mt l G M as h P := by
  have hcode : m_code M = .code (m_y M) (m_cc M) (m_nL M) (m_rt M) := by
    unfold m_code
    unfold m_ht at ht
    rw [ht]
  unfold Mt
  rw [hcode]
  refine ev_ofWJ (cc := m_cc M) (maxL := m_nL M) (ret := m_rt M) hy rfl ?_
  intro p e s m args below meth c s₁ B hml htab hv
  obtain ⟨rfl, hst, hH, hK, hB, hL⟩ := hv
  have hts := atoms_spec (ws := Cond.code (m_y M) (m_cc M) (m_nL M) (m_rt M) :: ev_TB) B.pre
  have htb : c.exceptionTable.toList = tableOf (m_ht M) := by
    rw [ht]
    cases q : c.exceptionTable.toList with
    | nil => rfl
    | cons x xs => exact (htab x (by rw [q]; exact List.mem_cons_self)).elim
  have hl := lv_entry as (n := m_nL M) hn
  rw [lg_entry_eq]
  exact K p e s m _ below meth c s.heap [] 0 0 _ ⟨B.exec, B.bytes, hml, findClass_of_methodNamed B.named, fun w hw => hts w (List.mem_cons_of_mem _ hw), B.returns, B.notSynchronized, (name_of_methodNamed B.named B.method).1, htb, hst, hK, hB, hL⟩ hH va_S.rf hl (by omega) (by omega)
/-- a static call of a method with a table -/
def ev_CW (M : ev_M) (idx : Nat) (M' : ev_M) (n : Nat) : Prop := (∃ q r, m_ht M' = q :: r) ∧ Cond.methodLink (m_y M).cls idx (m_y M') ∈ ev_TB ∧ Cond.static (m_y M') ∈ ev_TB ∧ Cond.initialized (m_y M').cls ∈ ev_TB ∧ m_code M' ∈ ev_TB ∧
  ((m_y M').cls ≠ "java/lang/invoke/MethodHandle" ∧ (m_y M').cls ≠ "java/lang/invoke/VarHandle" ∧ (parseMethodDescriptor (m_y M').desc).map (fun d => d.parameters.length) = some n) ∧ ev_room M M'
section MISC2
variable {l : Launch} {G : ev_G} {M M' : ev_M} {pc : Nat} {ls : List (Nat × Value)} {st as stk : List Value} {h : ev_AH} {uc us uc' us' : Nat} {Q : ev_Fin} {P P' : ev_Post} {X : String → ev_AH → Prop}
theorem e_callW {idx n : Nat} (hd : decode (m_cc M) pc = .ok (.invokestatic idx, 3)) (hw : ev_CW M idx M' n) (hn : as.length = n) (hstk : as.reverse ++ st = stk) (hm : Mt l G M' as h P') (hsum : (st.map fun v => v.category).sum ≤ 8) (hc : m_mc M' + uc' ≤ uc) (hs : m_ms M' + us' ≤ us)
    (K : ∀ (v : Option Value) (h' : ev_AH), P' (.inl v) h' → Ev l G M (pc + 3) ls (v.toList ++ st) h' uc' us' Q)
    (KX : ∀ (E : String) (h' : ev_AH), P' (.inr E) h' → EvX l G M pc ls h' uc' us' Q E) : Ev l G M pc ls stk h uc us Q := by
  intro p e s m args below meth c H locs cells slots lsA C hH hS hl h1 h2
  obtain ⟨hx, hb, hml, hown, hts, hr, hlk, hnm, htb, hst, hK, hB, hL⟩ := id C
  obtain ⟨⟨q0, r0, w0⟩, w1, w2, w4, w5, w6, w7⟩ := hw
  have hcode : m_code M' = .codeWith (m_y M') (m_cc M') (m_nL M') (m_rt M') (m_ht M') := by
    unfold m_code
    unfold m_ht at w0
    rw [w0]
  have hm' : vx_Met l (m_y M') (m_code M' :: ev_TB) (m_rm M') (ev_Pc l G as h) (ev_Qc G P') (ev_XC G P') (m_mc M') (m_ms M') (g_A G) := hm
  have cw : vx_CSW (m_rm M) s args (m_y M).cls idx (m_y M') (m_cc M') (m_nL M') (m_rt M') (m_ht M') (m_code M' :: ev_TB) (m_rm M') (m_mc M') (m_ms M') n := by
    refine ⟨⟨rfl, rfl, w7.1, w7.2, pay_in hts (ev_goodW w5), by rw [hcode]; exact List.mem_cons_self⟩, by rw [← hcode]; exact hts _ w5, hts _ w4, ⟨w6.1, w6.2.1⟩, fun sig hs9 => ?_, hts _ w1, hts _ w2⟩
    have z := w6.2.2
    rw [hs9] at z
    exact (Option.some.inj z).symm
  refine ev_back (st := st) (vx_runSX (As := as) (rest := st) (cc := m_cc M) (nL := m_nL M) ⟨hx, hb, hml, hown, hts⟩ hm' cw ⟨ev_Pc.blind, fun U hU hW => ev_hand C hH hS _ U hU hW⟩ rfl hn hl.1 hstk.symm (lv_room hsum) hd ⟨?_, ?_⟩) C hS hl h1 h2 hc hs K KX
  · show cells + _ ≤ m_mc M
    omega
  · show slots + _ ≤ m_ms M
    omega
theorem e_callWi {A : Int32 → ev_AH → Prop} {idx n : Nat} (hd : decode (m_cc M) pc = .ok (.invokestatic idx, 3)) (hw : ev_CW M idx M' n) (hn : as.length = n) (hstk : as.reverse ++ st = stk) (hm : Mt l G M' as h (ev_pi A X)) (hsum : (st.map fun v => v.category).sum ≤ 8) (hc : m_mc M' + uc' ≤ uc) (hs : m_ms M' + us' ≤ us) (K : ∀ (r : Int32) (h' : ev_AH), A r h' → Ev l G M (pc + 3) ls (.int r :: st) h' uc' us' Q) (KX : ∀ (E : String) (h' : ev_AH), X E h' → EvX l G M pc ls h' uc' us' Q E) : Ev l G M pc ls stk h uc us Q :=
  e_callW hd hw hn hstk hm hsum hc hs (fun v h' q => by obtain ⟨r, rfl, q⟩ := ev_pi_of q; exact K r h' q) (fun E h' q => KX E h' q)
theorem e_iushr {x y v : Int32} (hd : decode (m_cc M) pc = .ok (.iushr, 1)) (hv : (x.toUInt32 >>> (y.toUInt32 &&& Int32.toUInt32 31)).toInt32 = v) (K : Ev l G M (pc + 1) ls (.int v :: st) h uc us Q) : Ev l G M pc ls (.int y :: .int x :: st) h uc us Q :=
  fun p e s m args below meth c H locs cells slots lsA C hH hS hl h1 h2 => lv_iushr C.1 C.2.1 hd hv (K p e s m args below meth c H locs cells slots lsA C hH hS hl h1 h2)
theorem e_ldcw {idx : Nat} {v : Int32} (hd : decode (m_cc M) pc = .ok (.ldc_w idx, 3)) (hw : Cond.constant (m_y M).cls idx v ∈ ev_TB) (K : Ev l G M (pc + 3) ls (.int v :: st) h uc us Q) : Ev l G M pc ls st h uc us Q :=
  fun p e s m args below meth c H locs cells slots lsA C hH hS hl h1 h2 => lv_ldcw C.1 C.2.1 C.2.2.2.1 (C.2.2.2.2.1 _ hw) hd (K p e s m args below meth c H locs cells slots lsA C hH hS hl h1 h2)
/-- the length of a list's array: the empty one of the start, or a made one -/
def ev_len (G : ev_G) (h : ev_AH) (a : Nat) : Option Nat := if a = g_t0 G then some 0 else ev_n h a 103
theorem e_alenQ {a n : Nat} {v : Int32} (hd : decode (m_cc M) pc = .ok (.arraylength, 1)) (hn : ev_len G h a = some n) (hv : nI n = v) (K : Ev l G M (pc + 1) ls (.int v :: st) h uc us Q) : Ev l G M pc ls (.ref a :: st) h uc us Q := by
  unfold ev_len at hn
  by_cases z : a = g_t0 G
  · rw [if_pos z] at hn
    cases hn
    subst z
    subst hv
    exact e_alen0 hd K
  · rw [if_neg z] at hn
    exact e_alen (j := 3) hd hn hv K
end MISC2
end
section
/-! A THROW whose class's own constructor names its parent's by another place of its pool than 7 (java/util/NoSuchElementException of this build: 13). nx_ctor follows the library's proof of Stand.ctorThrowS (BundleOwnThrow.lean), the first link of the chain by its own bytes; e_throwN follows vx_throwS -/
def nx_names : List String := ["java/lang/Exception"]
def nx_atoms (own : String) (ic : Nat) (X : String) (ix : Nat) (rx : ByteArray) : List Cond :=
  Bundle.throwableAtoms ++ Bundle.throwableSAtoms ++ (Bundle.passSAtoms X "java/lang/RuntimeException" ix rx ++ Bundle.chainSAtoms "java/lang/RuntimeException" nx_names) ++
  [.methodLink own ic (Bundle.initS X), .instantiable X 6, .castable X X, .selects X Bundle.tFill0 Bundle.tFill0, .selects X Bundle.tFill Bundle.tFill,
   .lays X Bundle.tN "cause" "Ljava/lang/Throwable;", .lays X Bundle.tN "stackTrace" Bundle.steD, .lays X Bundle.tN "suppressedExceptions" Bundle.listD, .lays X Bundle.tN "detailMessage" "Ljava/lang/String;",
   .isRef (.static Bundle.tN "UNASSIGNED_STACK" Bundle.steD), .isRef (.static Bundle.tN "SUPPRESSED_SENTINEL" Bundle.listD),
   .fieldLink Bundle.tN 198 Bundle.tN "backtrace" "Ljava/lang/Object;", .lays Bundle.tN Bundle.tN "backtrace" "Ljava/lang/Object;", .lays X Bundle.tN "backtrace" "Ljava/lang/Object;"]
section NSE
variable {p : Program} {l : Launch} {e : Env} {R : Room} {s : State} {m₀ : MethodId} {args : Array Value} {below : List Frame} {meth : Method} {c : Code} {W : State} {locs : List Loc} {cells slots : Nat}
set_option maxHeartbeats 2000000 in
theorem nx_ctor (X : Stand p l e R s m₀ args below meth c W locs cells slots) (hexec : p.tables.exec = Jvm.exec) (htr : e.platform.stackTraces = false) {own cls : String} {ic ix : Nat} {rx : ByteArray}
    (x0 : decode rx 0 = .ok (.aload_n 0, 1)) (x1 : decode rx 1 = .ok (.aload_n 1, 1)) (x2 : decode rx 2 = .ok (.invokespecial ix, 3)) (x5 : decode rx 5 = .ok (.return_, 1))
    (hown : s.vm.findClass own = some m₀.cls) (hcls : Bundle.fit cls = true)
    (h : ∀ a ∈ nx_atoms own ic cls ix rx, a.before args s = true)
    (hlocs : ∀ x ∈ locs, ∀ cell, s.heap[x.base]? = some cell → cell.vm.isStatics = false)
    {a : Addr} {cX : ClassId} {kX : Class} (hfoundX : s.vm.findClass cls = some cX) (hkX : s.vm.classes[cX]? = some kX) (hcell : W.heap[a]? = some (freshCell cX kX)) (hnew : s.heap.size ≤ a)
    {msg : Value} (hmsg : msg.isRef = true)
    {g : JFrame} (hg : g.method = m₀) (hsize : g.locals.size = c.maxLocals) (hlocked : g.locked = none) (hentered : g.entered = []) {rest : List Value} (hstack : g.stack = msg :: .ref a :: .ref a :: rest)
    (hd6 : decode c.code g.pc = .ok (.invokespecial ic, 3)) (hd9 : decode c.code (g.pc + 3) = .ok (.athrow, 1)) (hout : ∀ x ∈ c.exceptionTable.toList, covers x (g.pc + 3) = false)
    (hRframes : 5 < R.frames) (hRlocals : 2 * g.monitorRoom + ((Value.ref a :: rest).map fun v => v.category).sum + 81 ≤ R.locals) (hlocks : meth.locks = false) :
    ∃ U : State, Steps p.tables e below (W.setTop g) U ∧ U.status = .running ∧ Ended U below (.threw a) ∧ s.WarmedH U.vm ∧ s.sameButNew ({ U with vm := s.vm } : State) locs cells slots ∧
      ∃ ce, U.heap[a]? = some ce ∧ ce.vm = .none ∧ s.vm.findClass cls = some ce.cls := by
  have howns : e.platform.frameOwnsMonitors = true := by rw [X.admits.platform]
  have hfin : e.platform.finalization = false := by rw [X.admits.platform]
  have hpl : e.platform.magicAccessors = ({} : Platform).magicAccessors := by rw [X.admits.platform]
  have a' : ∀ x, x ∈ nx_atoms own ic cls ix rx → x.holds args s none s [] = true := fun x hx => h x hx
  obtain ⟨T, Z0, L, -, Y⟩ := ThrowableC.of_atoms (args := args) howns hfin hpl (fun x hx => h x (by simp [nx_atoms, hx]))
  obtain ⟨Z, M, LZ, LM, hnZ⟩ := Init0T.ofS_atoms (args := args) hpl L Y (fun x hx => h x (by simp [nx_atoms, hx]))
  obtain ⟨P2, Ps2, hlen2, L2, hL2, hP2m, hlink2, hpass2⟩ := Bundle.chainS (args := args) hpl hnZ nx_names "java/lang/RuntimeException" (by decide +kernel) (by decide +kernel) (fun x hx => h x (by simp [nx_atoms, hx]))
  obtain ⟨P1, L1, hP1m, hP1s⟩ := PassC.ofS_atoms (args := args) (s := s) hpl (X := cls) (Y := "java/lang/RuntimeException") (Bundle.fit_spec hcls).1 (by decide) x0 x1 x2 x5 (fun x hx => h x (by simp [nx_atoms, hx]))
  have hlink1 : P1.sup = P2.m := Option.some.inj (hP1s.symm.trans hP2m)
  have hlen : (P2 :: Ps2).length = 2 := by rw [List.length_cons, hlen2]; rfl
  have hfound : s.vm.findClass cls = some P1.m.cls := findClass_of_methodNamed hP1m
  cases Option.some.inj (hfoundX.symm.trans hfound)
  obtain ⟨c1, kX', hc1, hk, hord, -, -, hn6⟩ := Cond.instantiable_spec (a' (.instantiable cls 6) (by simp [nx_atoms]))
  cases Option.some.inj (hc1.symm.trans hfound)
  cases Option.some.inj (hkX.symm.trans hk)
  have hsel0 : selectMethod e.platform s.vm P1.m.cls T.fill0 = .method T.fill0 := by
    obtain ⟨c2, r2, m2, q1, q2, q3, q4, -⟩ := Cond.selects_spec (a' (.selects cls Bundle.tFill0 Bundle.tFill0) (by simp [nx_atoms]))
    cases Option.some.inj (q1.symm.trans hfound)
    cases Option.some.inj (q2.symm.trans (State.methodFound?_of_named Y.fill0 (by decide)))
    cases Option.some.inj (q3.symm.trans Y.fill0)
    rw [Launch.admits_selectMethod X.admits]; exact q4
  have hselF : selectMethod e.platform s.vm P1.m.cls T.fill = .method T.fill := by
    obtain ⟨c2, r2, m2, q1, q2, q3, q4, -⟩ := Cond.selects_spec (a' (.selects cls Bundle.tFill Bundle.tFill) (by simp [nx_atoms]))
    cases Option.some.inj (q1.symm.trans hfound)
    cases Option.some.inj (q2.symm.trans (State.methodFound?_of_named Y.fill (by decide)))
    cases Option.some.inj (q3.symm.trans Y.fill)
    rw [Launch.admits_selectMethod X.admits]; exact q4
  obtain ⟨cellS0, hcS0, hiss⟩ := Y.statics
  obtain ⟨u0, hu0⟩ := Cond.staticRefV Y.unassigned L.unassignedStatic L.statics hcS0 hiss (a' (.isRef (.static Bundle.tN "UNASSIGNED_STACK" Bundle.steD)) (by simp [nx_atoms]))
  obtain ⟨sen, hsen⟩ := Cond.staticRefV Y.sentinel L.sentinelStatic L.statics hcS0 hiss (a' (.isRef (.static Bundle.tN "SUPPRESSED_SENTINEL" Bundle.listD)) (by simp [nx_atoms]))
  obtain ⟨ci198, i198, fB, hk198, hg198, ha198, hsB, -, hnB, htB, hffB⟩ := Cond.ownField (t := .object "java/lang/Object") Y.found L.cls (by decide +kernel) (a' (.fieldLink Bundle.tN 198 Bundle.tN "backtrace" "Ljava/lang/Object;") (by simp [nx_atoms])) (a' (.lays Bundle.tN Bundle.tN "backtrace" "Ljava/lang/Object;") (by simp [nx_atoms])) e.platform hpl
  obtain ⟨cellS, hcS', heS, -, hkeep⟩ := X.same.2.2.2.2.2 T.aS cellS0 hcS0
  have hcellS : W.heap[T.aS]? = some cellS := hcS'
  have hout' : ∀ i, (⟨T.aS, i⟩ : Loc) ∉ locs := fun i hmem => by
    have := hlocs _ hmem cellS0 hcS0
    rw [hiss] at this; cases this
  have hknownS : cellS.vm ≠ .unknown := by
    rw [heS]; intro hu
    rw [show cellS0.vm = .unknown from hu] at hiss
    cases hiss
  have hneS : T.aS ≠ a := Nat.ne_of_lt (Nat.lt_of_lt_of_le (Array.getElem?_eq_some_iff.mp hcS0).1 hnew)
  obtain ⟨iM, hffM⟩ := Y.msg
  obtain ⟨tyC, dC, hdC, hdnC⟩ := Cond.laysAt hfound hk Y.cause (a' (.lays cls Bundle.tN "cause" "Ljava/lang/Throwable;") (by simp [nx_atoms]))
  obtain ⟨tyS, dS, hdS, hdnS⟩ := Cond.laysAt hfound hk Y.stack (a' (.lays cls Bundle.tN "stackTrace" Bundle.steD) (by simp [nx_atoms]))
  obtain ⟨tyP, dP, hdP, hdnP⟩ := Cond.laysAt hfound hk Y.supp (a' (.lays cls Bundle.tN "suppressedExceptions" Bundle.listD) (by simp [nx_atoms]))
  obtain ⟨tyM, dM, hdM, hdnM⟩ := Cond.laysAt hfound hk hffM (a' (.lays cls Bundle.tN "detailMessage" "Ljava/lang/String;") (by simp [nx_atoms]))
  obtain ⟨tyB, dB, hdB, hdnB⟩ := Cond.laysAt hfound hk hffB (a' (.lays cls Bundle.tN "backtrace" "Ljava/lang/Object;") (by simp [nx_atoms]))
  have bC := Cond.laysApart hdB hdC hdnB hdnC (by rw [hnB, Y.causeName]; decide)
  have bS := Cond.laysApart hdB hdS hdnB hdnS (by rw [hnB, Y.stackName]; decide)
  have bP := Cond.laysApart hdB hdP hdnB hdnP (by rw [hnB, Y.suppName]; decide)
  have hskip : SkipFacts T e.platform s (fun u => u) u0 ((preparedCellV T.toThrowableT (freshCell P1.m.cls kX) a u0 sen).withEntry W.cur) :=
    ⟨{ ci198 := ci198, i198 := i198, fBack := fB }, ⟨hk198, hg198, ha198, hsB⟩, by
      have := fresh_default (c := P1.m.cls) tyB
      rw [htB] at this
      simpa [preparedCellV, Cell.setSlot, Cell.withEntry, Array.getElem?_setIfInBounds, bC, bS, bP, bC.symm, bS.symm, bP.symm, defaultValue] using this, fun _ _ => rfl⟩
  obtain ⟨tm, methC, cdC, kC, vm₁, hnC, -, -, -, -, -, -, -, hW₁, st1⟩ := Steps.initColdS (tb := p.tables) (e := e) (below := below) (s := s) (U := W) X.here hexec X.warmed hpl hown (t := Bundle.initS cls) rfl rfl (Bundle.fit_spec hcls).2
    (a' (.methodLink own ic (Bundle.initS cls)) (by simp [nx_atoms])) (h (.instanceMethod (Bundle.initS cls)) (by simp [nx_atoms, Bundle.passSAtoms])) (bytes := rx) (maxL := 2) (h (.code (Bundle.initS cls) rx 2 none) (by simp [nx_atoms, Bundle.passSAtoms]))
    (f := g) hg (a := a) (msg := msg) (rest := .ref a :: rest) hstack hd6
  cases Option.some.inj (hnC.symm.trans hP1m)
  have X₁ := X.noted hW₁
  obtain ⟨vm₂, X₂, st2⟩ := X₁.ctorMessageOffV hexec (g := { g with stack := .ref a :: rest }) hg hsize T L Z LZ M LM (P1 :: P2 :: Ps2)
    (fun P hP => by
      rcases List.mem_cons.mp hP with rfl | hP
      · exact L1
      · rcases List.mem_cons.mp hP with rfl | hP
        · exact L2
        · exact hL2 P hP) ⟨hlink1, hlink2, hpass2⟩ (u0 := u0) (sen := sen) (self := a) hmsg (cell := freshCell P1.m.cls kX) (cellS := cellS)
    hcell (fun _ => by simp) (by simp) rfl rfl hsel0 hselF hcellS hneS hknownS (by rw [hkeep _ (hout' _)]; exact hu0) (by rw [hkeep _ (hout' _)]; exact hsen)
    (Takes.of_laid hk hord tyC (by rw [Y.causeType]; rfl)) (Takes.of_laid hk hord tyS (by rw [Y.stackType]; exact fits_refV_array _ u0)) (Takes.of_laid hk hord tyP (by rw [Y.suppType]; exact fits_refV_object _ sen))
    (Takes.of_laid hk hord tyM (by rw [Y.msgType]; exact fits_refV_object _ ⟨msg, hmsg⟩)) Y.objLocals hskip htr [] hd6
    (by rw [List.length_cons, hlen]; omega) (by rw [List.length_cons, hlen]; exact hRlocals)
  obtain ⟨hwalk, hrun, hended, hWU, hsame⟩ := X₂.athrowLeaves hexec (g := { g with stack := .ref a :: rest, pc := g.pc + 3 }) hg hlocked hentered hout (a := a) (rest := rest) rfl hd9
  have hlt : a < ((W.setVm vm₁).setVm vm₂).heap.size := (Array.getElem?_eq_some_iff.mp hcell).1
  have hU := heapAt_setCell_self (s := (W.setVm vm₁).setVm vm₂) (plainBareV T.toThrowableT (freshCell P1.m.cls kX) a u0 sen msg) hlt
  refine ⟨_, st1 _ (fun acts => ?_), hrun, hended, hWU, hsame.weaken (fun y hy hlt' => ?_) (Nat.le_refl _) (Nat.le_refl _), _, hU, rfl, hfound⟩
  · rw [doInvoke_state]
    exact st2 _ hwalk
  · rcases List.mem_append.mp hy with h1 | h1
    · exact h1
    · exfalso
      have hb : y.base = a := by
        simp only [List.mem_cons, List.not_mem_nil, or_false] at h1
        rcases h1 with rfl | rfl | rfl | rfl | rfl <;> rfl
      rw [hb] at hlt'
      exact Nat.not_lt.mpr hnew hlt'
end NSE
end
section
/-! .. as a row of the walk -/
def nx_bytes : ByteArray := ⟨#[0x2a, 0x2b, 0xb7, 0x00, 0x0d, 0xb1]⟩
theorem nx_b0 : decode nx_bytes 0 = .ok (.aload_n 0, 1) := by decide +kernel
theorem nx_b1 : decode nx_bytes 1 = .ok (.aload_n 1, 1) := by decide +kernel
theorem nx_b2 : decode nx_bytes 2 = .ok (.invokespecial 13, 3) := by decide +kernel
theorem nx_b5 : decode nx_bytes 5 = .ok (.return_, 1) := by decide +kernel
def nx_at (own : String) (ic : Nat) (X : String) : List Cond := (nx_atoms own ic X 13 nx_bytes).filter vx_no
def ev_TN (M : ev_M) (ik is ic : Nat) (cls text : String) : Prop := Bundle.fit cls = true ∧ Cond.classLink (m_y M).cls ik cls ∈ ev_TB ∧ Cond.initialized cls ∈ ev_TB ∧ ((m_y M).cls, is, text) ∈ ev_strs ∧
  (∀ w ∈ nx_at (m_y M).cls ic cls, w ∈ ev_TB ∨ (∃ q ∈ ev_casts, w = .castable q.1 q.2) ∨ ∃ x ∈ ev_decls, w = .declares x) ∧ (∀ w ∈ Cond.classLink (m_y M).cls ik cls :: Cond.initialized cls :: nx_at (m_y M).cls ic cls, vx_ot w = true) ∧ 6 ≤ (m_rm M).frames ∧ 84 ≤ (m_rm M).locals
set_option maxHeartbeats 2000000 in
theorem e_throwN {l : Launch} {G : ev_G} {M : ev_M} {pc : Nat} {ls : List (Nat × Value)} {h : ev_AH} {uc us : Nat} {P : ev_Post} {ik is ic : Nat} {cls text : String} (d0 : decode (m_cc M) pc = .ok (.new ik, 3)) (d3 : decode (m_cc M) (pc + 3) = .ok (.dup, 1)) (d4 : decode (m_cc M) (pc + 4) = .ok (.ldc is, 2)) (d6 : decode (m_cc M) (pc + 6) = .ok (.invokespecial ic, 3)) (d9 : decode (m_cc M) (pc + 9) = .ok (.athrow, 1))
    (hw : ev_TN M ik is ic cls text) (hc : 1 ≤ uc) (hs : 6 ≤ us) (hP : P (.inr cls) h) (hno : m_ht M = [] := by rfl) : Ev l G M pc ls [] h uc us (ev_fin G M P) := by
  intro p e s m args below meth c H locs cells slots lsA C hH hS hl h1 h2
  obtain ⟨hx, hb, hml, hown, hts, hr, hlk, hnm, htb, hst, hK, hB, hL⟩ := id C
  obtain ⟨w0, w1, w2, w3, w4, w5, w6, w7⟩ := hw
  obtain ⟨l1, l2, l3, l4, l5, l6, l7, l8, l9, l10, l11, l12, l13, l14⟩ := hL
  obtain ⟨sa, hsa⟩ := l5 _ w3
  have hrc : (m_rm M).cells = m_mc M := rfl
  have hrs : (m_rm M).slots = m_ms M := rfl
  have hat : ∀ w ∈ nx_at (m_y M).cls ic cls, w.before args s = true := by
    intro w hw
    rcases w4 w hw with z | ⟨q, z, rfl⟩ | ⟨x, z, rfl⟩
    · exact hts _ z
    · exact va_Nw.use rfl (l10 _ z)
    · exact va_Nw.use rfl (l14 _ z)
  intro T hT X
  have htr : e.platform.stackTraces = false := (show e.platform.stackTraces = l.stackTraces by rw [X.admits.platform]).trans hst
  have Y := vx_rebase X (R' := { frames := (m_rm M).frames, locals := (m_rm M).locals, cells := 1, slots := 6 }) (Nat.le_refl _) (Nat.le_refl _) (by rw [hrc]; show cells + 1 ≤ _; omega) (by rw [hrs]; show slots + 6 ≤ _; omega)
  obtain ⟨s', hA⟩ : ∃ z, z = (T.setVm s.vm).setFrames (.invoking m args :: below) := ⟨_, rfl⟩
  rw [← hA] at Y
  have hvm : s'.vm = s.vm := by rw [hA]; rfl
  have hhp : s'.heap = H := by rw [hA]; exact hT
  have hW0 : s.WarmedH s'.vm := by rw [hvm]; exact State.WarmedH.refl s
  have hat' : ∀ w ∈ nx_at (m_y M).cls ic cls, w.before args s' = true := fun w hw => vx_ot_at hW0 hvm.symm (w5 w (List.mem_cons_of_mem _ (List.mem_cons_of_mem _ hw))) (hat w hw)
  have hk' : (Cond.classLink (m_y M).cls ik cls).before args s' = true := vx_ot_at hW0 hvm.symm (w5 _ List.mem_cons_self) (hts _ w1)
  have hini' : (Cond.initialized cls).before args s' = true := vx_ot_at hW0 hvm.symm (w5 _ (List.mem_cons_of_mem _ List.mem_cons_self)) (hts _ w2)
  have hU' : vx_Zq Bundle.tN "UNASSIGNED_STACK" Bundle.steD (g_A G) s' s'.heap := by rw [hhp]; exact vx_Zq.moved hW0.alike (l3.kept hS.2.1)
  have hN' : vx_Zq Bundle.tN "SUPPRESSED_SENTINEL" Bundle.listD (g_A G) s' s'.heap := by rw [hhp]; exact vx_Zq.moved hW0.alike (l4.kept hS.2.1)
  have hall0 : ∀ w ∈ nx_atoms (m_y M).cls ic cls 13 nx_bytes, w.before args s' = true := vx_own hat' (vx_isRefq hU'.1) (vx_isRefq hN'.1) hU'.2.word hN'.2.word
  have hown' : s'.vm.findClass (m_y M).cls = some m.cls := by rw [hvm]; exact hown
  have hins : (Cond.instantiable cls 6).before args s' = true := hall0 _ (by simp [nx_atoms])
  obtain ⟨vm₁, cX, kX, hfX, hkX, -, -, X₁, st1⟩ := Y.newCold hx (own := (m_y M).cls) (C := cls) (index := ik) (n := 6) hown' hk' hins hini'
    (g := F0 m pc lsA []) rfl (by rw [hb]; exact d0) (Nat.le_refl _) (Nat.le_refl _)
  generalize hT1 : (T.setVm vm₁).pushCell { cls := cX, slots := kX.instanceTypes.map defaultValue, vm := .none } = T1 at X₁ st1
  have hcat : (Value.ref T.heap.size).category = 1 := rfl
  have hcellA : T1.heap[T.heap.size]? = some (freshCell cX kX) := by rw [← hT1]; exact State.heap_pushCell_size _ _
  have d3' : decode c.code (pc + 3) = .ok (.dup, 1) := by rw [hb]; exact d3
  have d4' : decode c.code (pc + 4) = .ok (.ldc is, 2) := by rw [hb]; exact d4
  have hstr' : vk_R (m_y M).cls is text sa s' := vk_R.warm hW0 hsa
  obtain ⟨U, hsteps, hrun, hend, hW, hsame, ce, hce, hO1, hO2⟩ := nx_ctor X₁ hx htr (own := (m_y M).cls) (cls := cls) (ic := ic) nx_b0 nx_b1 nx_b2 nx_b5 hown' w0 hall0 (fun x hx => nomatch hx) hfX hkX hcellA (by rw [hhp, hT]; exact Nat.le_refl _) (msg := .ref sa) rfl
    (g := { method := m, pc := pc + 6, locals := lsA, stack := .ref sa :: .ref T.heap.size :: .ref T.heap.size :: [], locked := none }) rfl (by rw [hml]; exact hl.1) rfl rfl (rest := []) rfl
    (by rw [hb]; exact d6) (by rw [hb]; exact d9) (by rw [htb, hno]; intro x hx9; cases hx9) (by show 5 < (m_rm M).frames; omega) (by simp only [List.map_cons, List.map_nil, List.sum_cons, List.sum_nil, hcat]; show 2 * 0 + _ + 81 ≤ (m_rm M).locals; omega) hlk
  obtain ⟨f1, f2⟩ := vx_frame hsame
  rw [hhp] at f1 f2
  have hWs : s.WarmedH U.vm := State.WarmedH.trans hW0 hW
  have hcl : s.vm.findClass cls = some ce.cls := by
    rw [hvm] at hO2
    exact hO2
  have hall : s.sameButNew ({ U with vm := s.vm } : State) locs (m_mc M) (m_ms M) := by
    subst hA
    obtain ⟨e1, e2⟩ := hsame
    rw [State.setFrames_setFrames] at e1
    have z2 : (T.setVm s.vm).sameButNew ({ U with vm := s.vm } : State) [] (0 + 1) (0 + 6) := ⟨e1, e2⟩
    have z3 := X.same.trans z2
    rw [List.append_nil] at z3
    exact z3.mono (by omega) (by omega)
  have z2 : ∀ q : Nat, q < H.size → U.heap[q]? = H[q]? := fun q hq => f2 q hq (fun z hz => nomatch hz)
  have hXC : ev_XC G P cls s U := ⟨h, hP, hH.keep z2, Nat.le_trans hS.1 f1, fun q a1 a2 => (z2 q (Nat.lt_of_lt_of_le a1 hS.1)).trans (hS.2.1 q a1 a2)⟩
  refine ⟨U, ?_, .threw T.heap.size, hrun, hend, Or.inr ⟨T.heap.size, rfl, cls, ce, locs, hXC, hce, hO1, hcl, hWs, hall, hS.2.2⟩⟩
  refine st1 _ ?_
  show Steps p.tables e below (T1.setTop { method := m, pc := pc + 3, locals := lsA, stack := .ref T.heap.size :: [], locked := none }) _
  jvm_step X₁.here [X₁.here.top, hx, d3', Value.category]
  exact X₁.ldcString hx (own := (m_y M).cls) (text := text) (index := is) (a := sa) hown' hstr'.1 hstr'.2
    (g := { method := m, pc := pc + 4, locals := lsA, stack := .ref T.heap.size :: .ref T.heap.size :: [], locked := none }) rfl d4' _ hsteps
end
