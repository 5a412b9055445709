/-! NAMES: classes, fields, words -/
def N_X : String := "OrderRows3"
def T_X : u_T := fun k => match k with
  | 0 => ("OrderRows3", "orders", "Ljava/util/ArrayList;", true)
  | _ => ("OrderRows3", "lines", "Ljava/util/ArrayList;", true)
def t_X : Nat → FieldType := fun k => match k with
  | 0 => .object "java/util/ArrayList"
  | _ => .object "java/util/ArrayList"
def N_O : String := "OrderRows3$Order"
def T_O : u_T := fun k => match k with
  | 0 => ("OrderRows3$Order", "index", "I", true)
  | 1 => ("OrderRows3$Order", "customer", "I", true)
  | 2 => ("OrderRows3$Order", "ownNumber", "I", true)
  | 3 => ("OrderRows3$Order", "rank", "I", true)
  | 4 => ("OrderRows3$Order", "lines", "Ljava/util/ArrayList;", true)
  | 5 => ("OrderRows3$Order", "day", "I", false)
  | 6 => ("OrderRows3$Order", "phase", "I", false)
  | 7 => ("OrderRows3$Order", "blockers", "I", false)
  | 8 => ("OrderRows3$Order", "version", "I", false)
  | _ => ("OrderRows3$Order", "mergedInto", "I", false)
def t_O : Nat → FieldType := fun k => match k with
  | 0 => .int
  | 1 => .int
  | 2 => .int
  | 3 => .int
  | 4 => .object "java/util/ArrayList"
  | 5 => .int
  | 6 => .int
  | 7 => .int
  | 8 => .int
  | _ => .int
def N_L : String := "OrderRows3$Line"
def T_L : u_T := fun k => match k with
  | 0 => ("OrderRows3$Line", "index", "I", true)
  | 1 => ("OrderRows3$Line", "good", "I", true)
  | 2 => ("OrderRows3$Line", "home", "LOrderRows3$Order;", false)
  | 3 => ("OrderRows3$Line", "wanted", "I", false)
  | 4 => ("OrderRows3$Line", "rules", "I", false)
  | 5 => ("OrderRows3$Line", "held", "I", false)
  | 6 => ("OrderRows3$Line", "picked", "I", false)
  | 7 => ("OrderRows3$Line", "shipped", "I", false)
  | 8 => ("OrderRows3$Line", "instead", "I", false)
  | 9 => ("OrderRows3$Line", "live", "Z", false)
  | _ => ("OrderRows3$Line", "backordered", "Z", false)
def t_L : Nat → FieldType := fun k => match k with
  | 0 => .int
  | 1 => .int
  | 2 => .object "OrderRows3$Order"
  | 3 => .int
  | 4 => .int
  | 5 => .int
  | 6 => .int
  | 7 => .int
  | 8 => .int
  | 9 => .boolean
  | _ => .boolean
def N_A : String := "java/util/ArrayList"
def T_A : u_T := fun k => match k with
  | 0 => ("java/util/ArrayList", "elementData", "[Ljava/lang/Object;", false)
  | 1 => ("java/util/ArrayList", "size", "I", false)
  | _ => ("java/util/AbstractList", "modCount", "I", false)
def t_A : Nat → FieldType := fun k => match k with
  | 0 => .array (.object "java/lang/Object")
  | 1 => .int
  | _ => .int
def N_R : String := "OrderRows3Model"
def T_R : u_T := fun k => match k with
  | 0 => ("OrderRows3Model", "code", "I", false)
  | 1 => ("OrderRows3Model", "orders", "I", false)
  | 2 => ("OrderRows3Model", "customer", "[I", true)
  | 3 => ("OrderRows3Model", "number", "[I", true)
  | 4 => ("OrderRows3Model", "rank", "[I", true)
  | 5 => ("OrderRows3Model", "day", "[I", true)
  | 6 => ("OrderRows3Model", "phase", "[I", true)
  | 7 => ("OrderRows3Model", "blocks", "[I", true)
  | 8 => ("OrderRows3Model", "version", "[I", true)
  | 9 => ("OrderRows3Model", "into", "[I", true)
  | 10 => ("OrderRows3Model", "size", "[I", true)
  | 11 => ("OrderRows3Model", "linesOf", "[I", true)
  | 12 => ("OrderRows3Model", "lines", "I", false)
  | 13 => ("OrderRows3Model", "orderOf", "[I", true)
  | 14 => ("OrderRows3Model", "good", "[I", true)
  | 15 => ("OrderRows3Model", "instead", "[I", true)
  | 16 => ("OrderRows3Model", "rules", "[I", true)
  | 17 => ("OrderRows3Model", "wanted", "[I", true)
  | 18 => ("OrderRows3Model", "held", "[I", true)
  | 19 => ("OrderRows3Model", "picked", "[I", true)
  | 20 => ("OrderRows3Model", "shipped", "[I", true)
  | 21 => ("OrderRows3Model", "live", "[Z", true)
  | _ => ("OrderRows3Model", "again", "[Z", true)
def t_R : Nat → FieldType := fun k => match k with
  | 0 => .int
  | 1 => .int
  | 2 => .array .int
  | 3 => .array .int
  | 4 => .array .int
  | 5 => .array .int
  | 6 => .array .int
  | 7 => .array .int
  | 8 => .array .int
  | 9 => .array .int
  | 10 => .array .int
  | 11 => .array .int
  | 12 => .int
  | 13 => .array .int
  | 14 => .array .int
  | 15 => .array .int
  | 16 => .array .int
  | 17 => .array .int
  | 18 => .array .int
  | 19 => .array .int
  | 20 => .array .int
  | 21 => .array .boolean
  | _ => .array .boolean
def ev_cl : List vw_C := [(N_X, T_X, 2), (N_O, T_O, 10), (N_L, T_L, 11), (N_A, T_A, 3), (N_R, T_R, 23)]
theorem ev_cl_len : ev_cl.length < 100 := by decide
def ev_TB : List Cond := lw_tbl.filter goodWord
theorem ev_good : GoodIn ev_TB ev_TB := fun w hw => ⟨hw, good_of_word (List.mem_filter.mp hw).2⟩
theorem ev_tb {w : Cond} (i : Nat) (h : tables_1[i]? = some w) (g : goodWord w = true) : w ∈ ev_TB := List.mem_filter.mpr ⟨List.mem_append_right _ (List.mem_of_getElem? h), g⟩
theorem ev_tp {w : Cond} (i : Nat) (h : (k2_sels lw_privs)[i]? = some w) (g : goodWord w = true) : w ∈ ev_TB := List.mem_filter.mpr ⟨List.mem_append_left _ (List.mem_of_getElem? h), g⟩
def ev_strs : List (String × Nat × String) := [("OrderRows3", 208, "a number outside its range"), ("OrderRows3", 219, "no room"), ("OrderRows3", 203, "no such order"), ("OrderRows3", 214, "not as it is now"), ("OrderRows3", 206, "no such line"), ("OrderRows3", 210, "a place below 0"), ("OrderRows3", 184, "an order tells 0 to 9")]
def ev_casts : List (String × String) := [("java/lang/IllegalArgumentException", "java/lang/IllegalArgumentException"), ("java/lang/UnsupportedOperationException", "java/lang/UnsupportedOperationException"), ("java/util/NoSuchElementException", "java/util/NoSuchElementException"), ("java/lang/IllegalStateException", "java/lang/IllegalStateException"), ("OrderRows3$Line", "OrderRows3$Line"), ("OrderRows3$Order", "OrderRows3$Order"), ("OrderRows3", "java/lang/Object"), ("OrderRows3Model", "java/lang/Object"), ("OrderRows3$Order", "java/lang/Object"), ("OrderRows3$Line", "java/lang/Object"), ("java/lang/String", "java/lang/Object")]
def ev_decls : List MethodName := [⟨"java/lang/RuntimeException", "<init>", "()V"⟩, ⟨"java/lang/RuntimeException", "<init>", "(Ljava/lang/String;)V"⟩, ⟨"java/lang/Exception", "<init>", "()V"⟩, ⟨"java/lang/Exception", "<init>", "(Ljava/lang/String;)V"⟩, ⟨"java/lang/Throwable", "<init>", "()V"⟩, ⟨"java/lang/Throwable", "<init>", "(Ljava/lang/String;)V"⟩, ⟨"java/lang/Object", "getClass", "()Ljava/lang/Class;"⟩]
def ev_nocasts : List (String × String) := [("OrderRows3", "java/lang/IllegalArgumentException"), ("OrderRows3", "java/lang/IllegalStateException"), ("OrderRows3", "java/lang/UnsupportedOperationException"), ("OrderRows3", "java/util/NoSuchElementException"), ("OrderRows3$Line", "java/lang/IllegalArgumentException"), ("OrderRows3$Line", "java/lang/IllegalStateException"), ("OrderRows3$Line", "java/lang/UnsupportedOperationException"), ("OrderRows3$Line", "java/util/NoSuchElementException"), ("OrderRows3$Order", "java/lang/IllegalArgumentException"), ("OrderRows3$Order", "java/lang/IllegalStateException"), ("OrderRows3$Order", "java/lang/UnsupportedOperationException"), ("OrderRows3$Order", "java/util/NoSuchElementException"), ("OrderRows3Model", "java/lang/IllegalArgumentException"), ("OrderRows3Model", "java/lang/IllegalStateException"), ("OrderRows3Model", "java/lang/UnsupportedOperationException"), ("OrderRows3Model", "java/util/NoSuchElementException"), ("java/lang/IllegalArgumentException", "java/lang/IllegalStateException"), ("java/lang/IllegalArgumentException", "java/lang/UnsupportedOperationException"), ("java/lang/IllegalArgumentException", "java/util/NoSuchElementException"), ("java/lang/IllegalStateException", "java/lang/IllegalArgumentException"), ("java/lang/IllegalStateException", "java/lang/UnsupportedOperationException"), ("java/lang/IllegalStateException", "java/util/NoSuchElementException"), ("java/lang/UnsupportedOperationException", "java/lang/IllegalArgumentException"), ("java/lang/UnsupportedOperationException", "java/lang/IllegalStateException"), ("java/lang/UnsupportedOperationException", "java/util/NoSuchElementException"), ("java/util/ArrayList", "java/lang/IllegalArgumentException"), ("java/util/ArrayList", "java/lang/IllegalStateException"), ("java/util/ArrayList", "java/lang/UnsupportedOperationException"), ("java/util/ArrayList", "java/util/NoSuchElementException"), ("java/util/NoSuchElementException", "java/lang/IllegalArgumentException"), ("java/util/NoSuchElementException", "java/lang/IllegalStateException"), ("java/util/NoSuchElementException", "java/lang/UnsupportedOperationException")]
