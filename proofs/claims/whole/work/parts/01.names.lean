-- ===== PART A: goes FIRST, ahead of the names: the tables' words, and 'selects' of the private methods out of them =====
/-- a private method of a class that the tables say can be made, by its rows of tables_1 -/
def lw_okq (q : MethodName × Nat) : Prop := (q.1.cls ≠ "java/lang/invoke/MethodHandle" ∧ q.1.cls ≠ "java/lang/invoke/VarHandle") ∧ Cond.instantiable q.1.cls q.2 ∈ tables_1 ∧ Cond.privateMethod q.1 ∈ tables_1 ∧ Cond.instanceMethod q.1 ∈ tables_1
theorem lw_p0 : lw_okq (⟨"java/util/ArrayList", "add", "(Ljava/lang/Object;[Ljava/lang/Object;I)V"⟩, 3) := ⟨⟨by decide +kernel, by decide +kernel⟩, List.mem_of_getElem? (i := 27) (by decide +kernel), List.mem_of_getElem? (i := 198) (by decide +kernel), List.mem_of_getElem? (i := 199) (by decide +kernel)⟩
theorem lw_p1 : lw_okq (⟨"java/util/ArrayList", "grow", "()[Ljava/lang/Object;"⟩, 3) := ⟨⟨by decide +kernel, by decide +kernel⟩, List.mem_of_getElem? (i := 27) (by decide +kernel), List.mem_of_getElem? (i := 202) (by decide +kernel), List.mem_of_getElem? (i := 203) (by decide +kernel)⟩
theorem lw_p2 : lw_okq (⟨"java/util/ArrayList", "grow", "(I)[Ljava/lang/Object;"⟩, 3) := ⟨⟨by decide +kernel, by decide +kernel⟩, List.mem_of_getElem? (i := 27) (by decide +kernel), List.mem_of_getElem? (i := 206) (by decide +kernel), List.mem_of_getElem? (i := 207) (by decide +kernel)⟩
theorem lw_p3 : lw_okq (⟨"DoorActs$Consents", "placeOf", "(I)I"⟩, 2) := ⟨⟨by decide +kernel, by decide +kernel⟩, List.mem_of_getElem? (i := 53) (by decide +kernel), List.mem_of_getElem? (i := 261) (by decide +kernel), List.mem_of_getElem? (i := 262) (by decide +kernel)⟩
theorem lw_p4 : lw_okq (⟨"DoorActs", "itemOf", "(I)LDoorActs$Item;"⟩, 5) := ⟨⟨by decide +kernel, by decide +kernel⟩, List.mem_of_getElem? (i := 19) (by decide +kernel), List.mem_of_getElem? (i := 269) (by decide +kernel), List.mem_of_getElem? (i := 270) (by decide +kernel)⟩
theorem lw_p5 : lw_okq (⟨"DoorActs", "outcomeOf", "(LDoorActs$Item;LDoorActs$Facts;III)I"⟩, 5) := ⟨⟨by decide +kernel, by decide +kernel⟩, List.mem_of_getElem? (i := 19) (by decide +kernel), List.mem_of_getElem? (i := 310) (by decide +kernel), List.mem_of_getElem? (i := 311) (by decide +kernel)⟩
theorem lw_p6 : lw_okq (⟨"DoorActs", "handOutcome", "(LDoorActs$Item;LDoorActs$Facts;II)I"⟩, 5) := ⟨⟨by decide +kernel, by decide +kernel⟩, List.mem_of_getElem? (i := 19) (by decide +kernel), List.mem_of_getElem? (i := 314) (by decide +kernel), List.mem_of_getElem? (i := 315) (by decide +kernel)⟩
theorem lw_p7 : lw_okq (⟨"DoorActs", "takerOutcome", "(LDoorActs$Item;LDoorActs$Facts;I)I"⟩, 5) := ⟨⟨by decide +kernel, by decide +kernel⟩, List.mem_of_getElem? (i := 19) (by decide +kernel), List.mem_of_getElem? (i := 318) (by decide +kernel), List.mem_of_getElem? (i := 319) (by decide +kernel)⟩
theorem lw_p8 : lw_okq (⟨"DoorActs", "hasOrder", "(LDoorActs$Item;I)Z"⟩, 5) := ⟨⟨by decide +kernel, by decide +kernel⟩, List.mem_of_getElem? (i := 19) (by decide +kernel), List.mem_of_getElem? (i := 322) (by decide +kernel), List.mem_of_getElem? (i := 323) (by decide +kernel)⟩
theorem lw_p9 : lw_okq (⟨"DoorActs$Facts", "leaveCard", "(I)V"⟩, 11) := ⟨⟨by decide +kernel, by decide +kernel⟩, List.mem_of_getElem? (i := 125) (by decide +kernel), List.mem_of_getElem? (i := 371) (by decide +kernel), List.mem_of_getElem? (i := 372) (by decide +kernel)⟩
theorem lw_p10 : lw_okq (⟨"DoorActs$Facts", "handOver", "(LDoorActs$Act;)V"⟩, 11) := ⟨⟨by decide +kernel, by decide +kernel⟩, List.mem_of_getElem? (i := 125) (by decide +kernel), List.mem_of_getElem? (i := 375) (by decide +kernel), List.mem_of_getElem? (i := 376) (by decide +kernel)⟩
theorem lw_p11 : lw_okq (⟨"DoorActs", "doForAll", "(LDoorActs$Act;)V"⟩, 5) := ⟨⟨by decide +kernel, by decide +kernel⟩, List.mem_of_getElem? (i := 19) (by decide +kernel), List.mem_of_getElem? (i := 383) (by decide +kernel), List.mem_of_getElem? (i := 384) (by decide +kernel)⟩
theorem lw_p12 : lw_okq (⟨"DoorActsModel", "findConsent", "(III)I"⟩, 34) := ⟨⟨by decide +kernel, by decide +kernel⟩, List.mem_of_getElem? (i := 459) (by decide +kernel), List.mem_of_getElem? (i := 584) (by decide +kernel), List.mem_of_getElem? (i := 585) (by decide +kernel)⟩
theorem lw_p13 : lw_okq (⟨"DoorActsModel", "isItem", "(I)Z"⟩, 34) := ⟨⟨by decide +kernel, by decide +kernel⟩, List.mem_of_getElem? (i := 459) (by decide +kernel), List.mem_of_getElem? (i := 592) (by decide +kernel), List.mem_of_getElem? (i := 593) (by decide +kernel)⟩
theorem lw_p14 : lw_okq (⟨"DoorActsModel", "canBe", "(IIIIJ)Z"⟩, 34) := ⟨⟨by decide +kernel, by decide +kernel⟩, List.mem_of_getElem? (i := 459) (by decide +kernel), List.mem_of_getElem? (i := 603) (by decide +kernel), List.mem_of_getElem? (i := 604) (by decide +kernel)⟩
theorem lw_p15 : lw_okq (⟨"DoorActsModel", "outcome", "(IIIII)I"⟩, 34) := ⟨⟨by decide +kernel, by decide +kernel⟩, List.mem_of_getElem? (i := 459) (by decide +kernel), List.mem_of_getElem? (i := 607) (by decide +kernel), List.mem_of_getElem? (i := 608) (by decide +kernel)⟩
def lw_privs_1 : List (MethodName × Nat) := [(⟨"java/util/ArrayList", "add", "(Ljava/lang/Object;[Ljava/lang/Object;I)V"⟩, 3), (⟨"java/util/ArrayList", "grow", "()[Ljava/lang/Object;"⟩, 3), (⟨"java/util/ArrayList", "grow", "(I)[Ljava/lang/Object;"⟩, 3), (⟨"DoorActs$Consents", "placeOf", "(I)I"⟩, 2), (⟨"DoorActs", "itemOf", "(I)LDoorActs$Item;"⟩, 5), (⟨"DoorActs", "outcomeOf", "(LDoorActs$Item;LDoorActs$Facts;III)I"⟩, 5), (⟨"DoorActs", "handOutcome", "(LDoorActs$Item;LDoorActs$Facts;II)I"⟩, 5), (⟨"DoorActs", "takerOutcome", "(LDoorActs$Item;LDoorActs$Facts;I)I"⟩, 5), (⟨"DoorActs", "hasOrder", "(LDoorActs$Item;I)Z"⟩, 5), (⟨"DoorActs$Facts", "leaveCard", "(I)V"⟩, 11), (⟨"DoorActs$Facts", "handOver", "(LDoorActs$Act;)V"⟩, 11), (⟨"DoorActs", "doForAll", "(LDoorActs$Act;)V"⟩, 5), (⟨"DoorActsModel", "findConsent", "(III)I"⟩, 34), (⟨"DoorActsModel", "isItem", "(I)Z"⟩, 34), (⟨"DoorActsModel", "canBe", "(IIIIJ)Z"⟩, 34), (⟨"DoorActsModel", "outcome", "(IIIII)I"⟩, 34)]
theorem lw_r1 : ∀ q ∈ lw_privs_1, lw_okq q := List.forall_mem_cons.mpr ⟨lw_p0, List.forall_mem_cons.mpr ⟨lw_p1, List.forall_mem_cons.mpr ⟨lw_p2, List.forall_mem_cons.mpr ⟨lw_p3, List.forall_mem_cons.mpr ⟨lw_p4, List.forall_mem_cons.mpr ⟨lw_p5, List.forall_mem_cons.mpr ⟨lw_p6, List.forall_mem_cons.mpr ⟨lw_p7, List.forall_mem_cons.mpr ⟨lw_p8, List.forall_mem_cons.mpr ⟨lw_p9, List.forall_mem_cons.mpr ⟨lw_p10, List.forall_mem_cons.mpr ⟨lw_p11, List.forall_mem_cons.mpr ⟨lw_p12, List.forall_mem_cons.mpr ⟨lw_p13, List.forall_mem_cons.mpr ⟨lw_p14, List.forall_mem_cons.mpr ⟨lw_p15, fun _ h => absurd h List.not_mem_nil⟩⟩⟩⟩⟩⟩⟩⟩⟩⟩⟩⟩⟩⟩⟩⟩
theorem lw_p16 : lw_okq (⟨"DoorActsModel", "whoTakes", "(IIZ)I"⟩, 34) := ⟨⟨by decide +kernel, by decide +kernel⟩, List.mem_of_getElem? (i := 459) (by decide +kernel), List.mem_of_getElem? (i := 611) (by decide +kernel), List.mem_of_getElem? (i := 612) (by decide +kernel)⟩
theorem lw_p17 : lw_okq (⟨"DoorActsModel", "isProven", "(IIIZ)Z"⟩, 34) := ⟨⟨by decide +kernel, by decide +kernel⟩, List.mem_of_getElem? (i := 459) (by decide +kernel), List.mem_of_getElem? (i := 615) (by decide +kernel), List.mem_of_getElem? (i := 616) (by decide +kernel)⟩
theorem lw_p18 : lw_okq (⟨"DoorActsModel", "due", "(I)J"⟩, 34) := ⟨⟨by decide +kernel, by decide +kernel⟩, List.mem_of_getElem? (i := 459) (by decide +kernel), List.mem_of_getElem? (i := 619) (by decide +kernel), List.mem_of_getElem? (i := 620) (by decide +kernel)⟩
theorem lw_p19 : lw_okq (⟨"DoorActsModel", "make", "(IIIIIIJ)V"⟩, 34) := ⟨⟨by decide +kernel, by decide +kernel⟩, List.mem_of_getElem? (i := 459) (by decide +kernel), List.mem_of_getElem? (i := 624) (by decide +kernel), List.mem_of_getElem? (i := 625) (by decide +kernel)⟩
theorem lw_p20 : lw_okq (⟨"DoorActsModel", "hand", "(IIIIJ)V"⟩, 34) := ⟨⟨by decide +kernel, by decide +kernel⟩, List.mem_of_getElem? (i := 459) (by decide +kernel), List.mem_of_getElem? (i := 628) (by decide +kernel), List.mem_of_getElem? (i := 629) (by decide +kernel)⟩
def lw_privs_2 : List (MethodName × Nat) := [(⟨"DoorActsModel", "whoTakes", "(IIZ)I"⟩, 34), (⟨"DoorActsModel", "isProven", "(IIIZ)Z"⟩, 34), (⟨"DoorActsModel", "due", "(I)J"⟩, 34), (⟨"DoorActsModel", "make", "(IIIIIIJ)V"⟩, 34), (⟨"DoorActsModel", "hand", "(IIIIJ)V"⟩, 34)]
theorem lw_r2 : ∀ q ∈ lw_privs_2, lw_okq q := List.forall_mem_cons.mpr ⟨lw_p16, List.forall_mem_cons.mpr ⟨lw_p17, List.forall_mem_cons.mpr ⟨lw_p18, List.forall_mem_cons.mpr ⟨lw_p19, List.forall_mem_cons.mpr ⟨lw_p20, fun _ h => absurd h List.not_mem_nil⟩⟩⟩⟩⟩
def lw_privs : List (MethodName × Nat) := lw_privs_1 ++ (lw_privs_2)
def lw_tbl : List Cond := k2_sels lw_privs ++ tables_1
theorem lw_privs_ok : ∀ q ∈ lw_privs, lw_okq q := by
  show ∀ q ∈ lw_privs_1 ++ (lw_privs_2), lw_okq q
  exact List.forall_mem_append.mpr ⟨lw_r1, lw_r2⟩
/-! NAMES, written by wip/whole/gennames.py out of the Statement. -/
def R_D : String := "DoorActs"
def T_D : u_T := fun k => match k with
  | 0 => ("DoorActs", "items", "Ljava/util/ArrayList;", true)
  | 1 => ("DoorActs", "clashes", "Ljava/util/ArrayList;", true)
  | 2 => ("DoorActs", "consents", "LDoorActs$Consents;", true)
  | 3 => ("DoorActs", "devices", "[LDoorActs$Device;", true)
  | _ => ("DoorActs", "today", "J", false)
def t_D : Nat → FieldType := fun k => match k with
  | 0 => .object "java/util/ArrayList"
  | 1 => .object "java/util/ArrayList"
  | 2 => .object "DoorActs$Consents"
  | 3 => .array (.object "DoorActs$Device")
  | _ => .long
def R_A : String := "DoorActs$Act"
def T_A : u_T := fun k => match k with
  | 0 => ("DoorActs$Act", "item", "LDoorActs$Item;", true)
  | 1 => ("DoorActs$Act", "device", "I", true)
  | 2 => ("DoorActs$Act", "kind", "I", true)
  | 3 => ("DoorActs$Act", "who", "I", true)
  | 4 => ("DoorActs$Act", "outcome", "I", true)
  | _ => ("DoorActs$Act", "day", "I", true)
def t_A : Nat → FieldType := fun k => match k with
  | 0 => .object "DoorActs$Item"
  | 1 => .int
  | 2 => .int
  | 3 => .int
  | 4 => .int
  | _ => .int
def R_C : String := "DoorActs$Clash"
def T_C : u_T := fun k => match k with
  | 0 => ("DoorActs$Clash", "item", "I", true)
  | 1 => ("DoorActs$Clash", "latestDevice", "I", true)
  | _ => ("DoorActs$Clash", "joinedDevice", "I", true)
def t_C : Nat → FieldType := fun k => match k with
  | 0 => .int
  | 1 => .int
  | _ => .int
def R_N : String := "DoorActs$Consents"
def T_N : u_T := fun k => match k with
  | 0 => ("DoorActs$Consents", "told", "[I", true)
  | _ => ("DoorActs$Consents", "count", "I", false)
def t_N : Nat → FieldType := fun k => match k with
  | 0 => .array .int
  | _ => .int
def R_V : String := "DoorActs$Device"
def T_V : u_T := fun k => match k with
  | 0 => ("DoorActs$Device", "off", "Z", false)
  | 1 => ("DoorActs$Device", "latestTime", "J", false)
  | 2 => ("DoorActs$Device", "rows", "Ljava/util/ArrayList;", true)
  | _ => ("DoorActs$Device", "known", "Ljava/util/ArrayList;", true)
def t_V : Nat → FieldType := fun k => match k with
  | 0 => .boolean
  | 1 => .long
  | 2 => .object "java/util/ArrayList"
  | _ => .object "java/util/ArrayList"
def R_F : String := "DoorActs$Facts"
def T_F : u_T := fun k => match k with
  | 0 => ("DoorActs$Facts", "state", "I", false)
  | 1 => ("DoorActs$Facts", "stateBefore", "I", false)
  | 2 => ("DoorActs$Facts", "damaged", "Z", false)
  | 3 => ("DoorActs$Facts", "cards", "I", false)
  | 4 => ("DoorActs$Facts", "cardDay", "I", false)
  | 5 => ("DoorActs$Facts", "keptTo", "I", false)
  | 6 => ("DoorActs$Facts", "handDevice", "I", false)
  | 7 => ("DoorActs$Facts", "handDay", "I", false)
  | 8 => ("DoorActs$Facts", "taker", "I", false)
  | 9 => ("DoorActs$Facts", "slip", "I", false)
  | _ => ("DoorActs$Facts", "latestDevice", "I", false)
def t_F : Nat → FieldType := fun k => match k with
  | 0 => .int
  | 1 => .int
  | 2 => .boolean
  | 3 => .int
  | 4 => .int
  | 5 => .int
  | 6 => .int
  | 7 => .int
  | 8 => .int
  | 9 => .int
  | _ => .int
def R_I : String := "DoorActs$Item"
def T_I : u_T := fun k => match k with
  | 0 => ("DoorActs$Item", "number", "I", true)
  | 1 => ("DoorActs$Item", "service", "I", true)
  | 2 => ("DoorActs$Item", "receiver", "I", true)
  | 3 => ("DoorActs$Item", "facts", "LDoorActs$Facts;", true)
  | _ => ("DoorActs$Item", "due", "I", false)
def t_I : Nat → FieldType := fun k => match k with
  | 0 => .int
  | 1 => .int
  | 2 => .int
  | 3 => .object "DoorActs$Facts"
  | _ => .int
def R_L : String := "java/util/ArrayList"
def T_L : u_T := fun k => match k with
  | 0 => ("java/util/ArrayList", "elementData", "[Ljava/lang/Object;", false)
  | 1 => ("java/util/ArrayList", "size", "I", false)
  | _ => ("java/util/AbstractList", "modCount", "I", false)
def t_L : Nat → FieldType := fun k => match k with
  | 0 => .array (.object "java/lang/Object")
  | 1 => .int
  | _ => .int
def R_M : String := "DoorActsModel"
def T_M : u_T := fun k => match k with
  | 0 => ("DoorActsModel", "items", "I", false)
  | 1 => ("DoorActsModel", "services", "[I", true)
  | 2 => ("DoorActsModel", "receivers", "[I", true)
  | 3 => ("DoorActsModel", "paid", "[J", true)
  | 4 => ("DoorActsModel", "latest", "[I", true)
  | 5 => ("DoorActsModel", "signed", "[Z", true)
  | 6 => ("DoorActsModel", "sentBack", "[Z", true)
  | 7 => ("DoorActsModel", "states", "[I", true)
  | 8 => ("DoorActsModel", "cards", "[I", true)
  | 9 => ("DoorActsModel", "cardDays", "[J", true)
  | 10 => ("DoorActsModel", "keptDays", "[J", true)
  | 11 => ("DoorActsModel", "takers", "[I", true)
  | 12 => ("DoorActsModel", "handDevices", "[I", true)
  | 13 => ("DoorActsModel", "handDays", "[J", true)
  | 14 => ("DoorActsModel", "befores", "[I", true)
  | 15 => ("DoorActsModel", "damaged", "[Z", true)
  | 16 => ("DoorActsModel", "consents", "I", false)
  | 17 => ("DoorActsModel", "consentPersons", "[I", true)
  | 18 => ("DoorActsModel", "consentKinds", "[I", true)
  | 19 => ("DoorActsModel", "consentOthers", "[I", true)
  | 20 => ("DoorActsModel", "off", "[Z", true)
  | 21 => ("DoorActsModel", "known", "[I", true)
  | 22 => ("DoorActsModel", "times", "[J", true)
  | 23 => ("DoorActsModel", "rows", "[I", true)
  | 24 => ("DoorActsModel", "rowItems", "[I", true)
  | 25 => ("DoorActsModel", "rowKinds", "[I", true)
  | 26 => ("DoorActsModel", "rowOutcomes", "[I", true)
  | 27 => ("DoorActsModel", "rowWhos", "[I", true)
  | 28 => ("DoorActsModel", "rowDays", "[J", true)
  | 29 => ("DoorActsModel", "clashes", "I", false)
  | 30 => ("DoorActsModel", "clashItems", "[I", true)
  | 31 => ("DoorActsModel", "clashOthers", "[I", true)
  | 32 => ("DoorActsModel", "clashDevices", "[I", true)
  | _ => ("DoorActsModel", "today", "J", false)
def t_M : Nat → FieldType := fun k => match k with
  | 0 => .int
  | 1 => .array .int
  | 2 => .array .int
  | 3 => .array .long
  | 4 => .array .int
  | 5 => .array .boolean
  | 6 => .array .boolean
  | 7 => .array .int
  | 8 => .array .int
  | 9 => .array .long
  | 10 => .array .long
  | 11 => .array .int
  | 12 => .array .int
  | 13 => .array .long
  | 14 => .array .int
  | 15 => .array .boolean
  | 16 => .int
  | 17 => .array .int
  | 18 => .array .int
  | 19 => .array .int
  | 20 => .array .boolean
  | 21 => .array .int
  | 22 => .array .long
  | 23 => .array .int
  | 24 => .array .int
  | 25 => .array .int
  | 26 => .array .int
  | 27 => .array .int
  | 28 => .array .long
  | 29 => .int
  | 30 => .array .int
  | 31 => .array .int
  | 32 => .array .int
  | _ => .long
abbrev kc : List vw_C := [(R_D, T_D, 5), (R_A, T_A, 6), (R_C, T_C, 3), (R_N, T_N, 2), (R_V, T_V, 4), (R_F, T_F, 11), (R_I, T_I, 5), (R_L, T_L, 3), (R_M, T_M, 34)]
abbrev kt (dA : Nat → ClassId) : List (ClassId × FieldType) := [(dA 0, .int), (dA 1, .object "DoorActs$Device"), (dA 2, .object "java/lang/Object"), (dA 3, .long), (dA 4, .boolean)]
abbrev tb : List Cond := lw_tbl.filter goodWord
theorem tb_good : ∀ w ∈ tb, goodWord w = true := fun w hw => (List.mem_filter.mp hw).2
/-- the words that a call does not carry by itself -/
def tx : List Cond := [(.methodLinkNest "DoorActs" (21 : Nat) ({ cls := "DoorActs$Consents", name := "<init>", desc := "()V" } : Jvm.MethodName) "DoorActs"), (.methodLinkNest "DoorActs" (36 : Nat) ({ cls := "DoorActs$Device", name := "<init>", desc := "()V" } : Jvm.MethodName) "DoorActs"), (.methodLinkNest "DoorActs$Item" (11 : Nat) ({ cls := "DoorActs$Facts", name := "<init>", desc := "()V" } : Jvm.MethodName) "DoorActs"), (.methodLinkNest "DoorActs$Device" (43 : Nat) ({ cls := "DoorActs$Facts", name := "<init>", desc := "()V" } : Jvm.MethodName) "DoorActs"), (.castable "DoorActs$Item" "DoorActs$Item"), (.castable "DoorActs$Facts" "DoorActs$Facts"), (.castable "DoorActs$Act" "DoorActs$Act"), (.castable "DoorActs$Clash" "DoorActs$Clash"), (.declares ({ cls := "java/lang/Object", name := "getClass", desc := "()Ljava/lang/Class;" } : Jvm.MethodName)), (.castable "DoorActs" "java/lang/Object"), (.castable "DoorActs$Consents" "java/lang/Object"), (.castable "DoorActs$Device" "java/lang/Object"), (.castable "DoorActsModel" "java/lang/Object"), (.castable "DoorActs$Item" "java/lang/Object"), (.castable "DoorActs$Facts" "java/lang/Object"), (.castable "DoorActs$Act" "java/lang/Object"), (.castable "DoorActs$Clash" "java/lang/Object")]
theorem tx_in : ∀ w ∈ tx, w ∈ lw_tbl := by decide +kernel
abbrev b_D_init : ByteArray := prog_1_method_1_code
def y_D_init : MethodName := ⟨"DoorActs", "<init>", "()V"⟩
abbrev b_O_init : ByteArray := object_method_1_code
def y_O_init : MethodName := ⟨"java/lang/Object", "<init>", "()V"⟩
abbrev b_L_init : ByteArray := prog_17_method_2_code
def y_L_init : MethodName := ⟨"java/util/ArrayList", "<init>", "()V"⟩
abbrev b_AL_init : ByteArray := prog_16_method_1_code
def y_AL_init : MethodName := ⟨"java/util/AbstractList", "<init>", "()V"⟩
abbrev b_AC_init : ByteArray := prog_15_method_1_code
def y_AC_init : MethodName := ⟨"java/util/AbstractCollection", "<init>", "()V"⟩
abbrev b_N_init : ByteArray := prog_4_method_1_code
def y_N_init : MethodName := ⟨"DoorActs$Consents", "<init>", "()V"⟩
abbrev b_V_init : ByteArray := prog_5_method_1_code
def y_V_init : MethodName := ⟨"DoorActs$Device", "<init>", "()V"⟩
abbrev b_D_item : ByteArray := prog_1_method_2_code
def y_D_item : MethodName := ⟨"DoorActs", "item", "(II)I"⟩
abbrev b_D_isPerson : ByteArray := prog_1_method_13_code
def y_D_isPerson : MethodName := ⟨"DoorActs", "isPerson", "(I)Z"⟩
abbrev b_L_size : ByteArray := prog_17_method_8_code
def y_L_size : MethodName := ⟨"java/util/ArrayList", "size", "()I"⟩
abbrev b_I_init : ByteArray := prog_7_method_1_code
def y_I_init : MethodName := ⟨"DoorActs$Item", "<init>", "(III)V"⟩
abbrev b_F_init : ByteArray := prog_6_method_1_code
def y_F_init : MethodName := ⟨"DoorActs$Facts", "<init>", "()V"⟩
abbrev b_L_add1 : ByteArray := prog_17_method_25_code
def y_L_add1 : MethodName := ⟨"java/util/ArrayList", "add", "(Ljava/lang/Object;)Z"⟩
abbrev b_L_add3 : ByteArray := prog_17_method_24_code
def y_L_add3 : MethodName := ⟨"java/util/ArrayList", "add", "(Ljava/lang/Object;[Ljava/lang/Object;I)V"⟩
abbrev b_L_grow0 : ByteArray := prog_17_method_7_code
def y_L_grow0 : MethodName := ⟨"java/util/ArrayList", "grow", "()[Ljava/lang/Object;"⟩
abbrev b_L_grow1 : ByteArray := prog_17_method_6_code
def y_L_grow1 : MethodName := ⟨"java/util/ArrayList", "grow", "(I)[Ljava/lang/Object;"⟩
abbrev b_AS_newLength : ByteArray := prog_24_method_27_code
def y_AS_newLength : MethodName := ⟨"jdk/internal/util/ArraysSupport", "newLength", "(III)I"⟩
abbrev b_Ma_max : ByteArray := prog_13_method_65_code
def y_Ma_max : MethodName := ⟨"java/lang/Math", "max", "(II)I"⟩
abbrev b_AS_hugeLength : ByteArray := prog_24_method_28_code
def y_AS_hugeLength : MethodName := ⟨"jdk/internal/util/ArraysSupport", "hugeLength", "(II)I"⟩
abbrev b_Ar_copyOf2 : ByteArray := prog_18_method_119_code
def y_Ar_copyOf2 : MethodName := ⟨"java/util/Arrays", "copyOf", "([Ljava/lang/Object;I)[Ljava/lang/Object;"⟩
abbrev b_Ar_copyOf3 : ByteArray := prog_18_method_120_code
def y_Ar_copyOf3 : MethodName := ⟨"java/util/Arrays", "copyOf", "([Ljava/lang/Object;ILjava/lang/Class;)[Ljava/lang/Object;"⟩
abbrev b_Ma_min : ByteArray := prog_13_method_69_code
def y_Ma_min : MethodName := ⟨"java/lang/Math", "min", "(II)I"⟩
abbrev b_D_consent : ByteArray := prog_1_method_3_code
def y_D_consent : MethodName := ⟨"DoorActs", "consent", "(III)I"⟩
abbrev b_N_turn : ByteArray := prog_4_method_3_code
def y_N_turn : MethodName := ⟨"DoorActs$Consents", "turn", "(III)I"⟩
abbrev b_N_codeOf : ByteArray := prog_4_method_5_code
def y_N_codeOf : MethodName := ⟨"DoorActs$Consents", "codeOf", "(III)I"⟩
abbrev b_N_placeOf : ByteArray := prog_4_method_4_code
def y_N_placeOf : MethodName := ⟨"DoorActs$Consents", "placeOf", "(I)I"⟩
abbrev b_D_act : ByteArray := prog_1_method_4_code
def y_D_act : MethodName := ⟨"DoorActs", "act", "(IIIIIJ)I"⟩
abbrev b_D_itemOf : ByteArray := prog_1_method_16_code
def y_D_itemOf : MethodName := ⟨"DoorActs", "itemOf", "(I)LDoorActs$Item;"⟩
abbrev b_L_get : ByteArray := prog_17_method_20_code
def y_L_get : MethodName := ⟨"java/util/ArrayList", "get", "(I)Ljava/lang/Object;"⟩
abbrev b_Ob_checkIndex : ByteArray := prog_21_method_17_code
def y_Ob_checkIndex : MethodName := ⟨"java/util/Objects", "checkIndex", "(II)I"⟩
abbrev b_P_checkIndex : ByteArray := prog_25_method_11_code
def y_P_checkIndex : MethodName := ⟨"jdk/internal/util/Preconditions", "checkIndex", "(IILjava/util/function/BiFunction;)I"⟩
abbrev b_L_elementData : ByteArray := prog_17_method_18_code
def y_L_elementData : MethodName := ⟨"java/util/ArrayList", "elementData", "(I)Ljava/lang/Object;"⟩
abbrev b_D_isDevice : ByteArray := prog_1_method_14_code
def y_D_isDevice : MethodName := ⟨"DoorActs", "isDevice", "(I)Z"⟩
abbrev b_V_factsOf : ByteArray := prog_5_method_2_code
def y_V_factsOf : MethodName := ⟨"DoorActs$Device", "factsOf", "(LDoorActs$Item;)LDoorActs$Facts;"⟩
abbrev b_D_isActAsSaid : ByteArray := prog_1_method_15_code
def y_D_isActAsSaid : MethodName := ⟨"DoorActs", "isActAsSaid", "(III)Z"⟩
abbrev b_F_allow : ByteArray := prog_6_method_4_code
def y_F_allow : MethodName := ⟨"DoorActs$Facts", "allow", "(III)Z"⟩
abbrev b_F_isHandedOver : ByteArray := prog_6_method_3_code
def y_F_isHandedOver : MethodName := ⟨"DoorActs$Facts", "isHandedOver", "()Z"⟩
abbrev b_D_outcomeOf : ByteArray := prog_1_method_18_code
def y_D_outcomeOf : MethodName := ⟨"DoorActs", "outcomeOf", "(LDoorActs$Item;LDoorActs$Facts;III)I"⟩
abbrev b_D_handOutcome : ByteArray := prog_1_method_19_code
def y_D_handOutcome : MethodName := ⟨"DoorActs", "handOutcome", "(LDoorActs$Item;LDoorActs$Facts;II)I"⟩
abbrev b_D_takerOutcome : ByteArray := prog_1_method_20_code
def y_D_takerOutcome : MethodName := ⟨"DoorActs", "takerOutcome", "(LDoorActs$Item;LDoorActs$Facts;I)I"⟩
abbrev b_D_hasOrder : ByteArray := prog_1_method_21_code
def y_D_hasOrder : MethodName := ⟨"DoorActs", "hasOrder", "(LDoorActs$Item;I)Z"⟩
abbrev b_N_stand : ByteArray := prog_4_method_2_code
def y_N_stand : MethodName := ⟨"DoorActs$Consents", "stand", "(III)Z"⟩
abbrev b_D_isProofEnough : ByteArray := prog_1_method_22_code
def y_D_isProofEnough : MethodName := ⟨"DoorActs", "isProofEnough", "(LDoorActs$Item;LDoorActs$Facts;II)Z"⟩
abbrev b_A_init : ByteArray := prog_2_method_1_code
def y_A_init : MethodName := ⟨"DoorActs$Act", "<init>", "(LDoorActs$Item;IIIII)V"⟩
abbrev b_F_change : ByteArray := prog_6_method_5_code
def y_F_change : MethodName := ⟨"DoorActs$Facts", "change", "(LDoorActs$Act;)V"⟩
abbrev b_F_leaveCard : ByteArray := prog_6_method_6_code
def y_F_leaveCard : MethodName := ⟨"DoorActs$Facts", "leaveCard", "(I)V"⟩
abbrev b_F_handOver : ByteArray := prog_6_method_7_code
def y_F_handOver : MethodName := ⟨"DoorActs$Facts", "handOver", "(LDoorActs$Act;)V"⟩
abbrev b_D_join : ByteArray := prog_1_method_5_code
def y_D_join : MethodName := ⟨"DoorActs", "join", "(I)I"⟩
abbrev b_D_doForAll : ByteArray := prog_1_method_17_code
def y_D_doForAll : MethodName := ⟨"DoorActs", "doForAll", "(LDoorActs$Act;)V"⟩
abbrev b_C_init : ByteArray := prog_3_method_1_code
def y_C_init : MethodName := ⟨"DoorActs$Clash", "<init>", "(III)V"⟩
abbrev b_V_goOnLine : ByteArray := prog_5_method_4_code
def y_V_goOnLine : MethodName := ⟨"DoorActs$Device", "goOnLine", "()V"⟩
abbrev b_L_clear : ByteArray := prog_17_method_40_code
def y_L_clear : MethodName := ⟨"java/util/ArrayList", "clear", "()V"⟩
abbrev b_D_clash : ByteArray := prog_1_method_6_code
def y_D_clash : MethodName := ⟨"DoorActs", "clash", "(II)I"⟩
abbrev b_D_cut : ByteArray := prog_1_method_7_code
def y_D_cut : MethodName := ⟨"DoorActs", "cut", "(IZ)Z"⟩
abbrev b_V_goOffLine : ByteArray := prog_5_method_3_code
def y_V_goOffLine : MethodName := ⟨"DoorActs$Device", "goOffLine", "(Ljava/util/ArrayList;)V"⟩
abbrev b_F_copyFrom : ByteArray := prog_6_method_2_code
def y_F_copyFrom : MethodName := ⟨"DoorActs$Facts", "copyFrom", "(LDoorActs$Facts;)V"⟩
abbrev b_D_tries : ByteArray := prog_1_method_8_code
def y_D_tries : MethodName := ⟨"DoorActs", "tries", "(I)I"⟩
abbrev b_D_tick : ByteArray := prog_1_method_9_code
def y_D_tick : MethodName := ⟨"DoorActs", "tick", "(J)I"⟩
abbrev b_F_goBackBy : ByteArray := prog_6_method_8_code
def y_F_goBackBy : MethodName := ⟨"DoorActs$Facts", "goBackBy", "(J)Z"⟩
abbrev b_D_slip : ByteArray := prog_1_method_10_code
def y_D_slip : MethodName := ⟨"DoorActs", "slip", "(II)I"⟩
abbrev b_D_cash : ByteArray := prog_1_method_11_code
def y_D_cash : MethodName := ⟨"DoorActs", "cash", "(IJ)I"⟩
abbrev b_D_state : ByteArray := prog_1_method_12_code
def y_D_state : MethodName := ⟨"DoorActs", "state", "(I)I"⟩
abbrev b_M_init : ByteArray := prog_9_method_1_code
def y_M_init : MethodName := ⟨"DoorActsModel", "<init>", "()V"⟩
abbrev b_M_item : ByteArray := prog_9_method_6_code
def y_M_item : MethodName := ⟨"DoorActsModel", "item", "(II)I"⟩
abbrev b_M_isIn : ByteArray := prog_9_method_3_code
def y_M_isIn : MethodName := ⟨"DoorActsModel", "isIn", "(JJJ)Z"⟩
abbrev b_M_consent : ByteArray := prog_9_method_8_code
def y_M_consent : MethodName := ⟨"DoorActsModel", "consent", "(III)I"⟩
abbrev b_M_findConsent : ByteArray := prog_9_method_7_code
def y_M_findConsent : MethodName := ⟨"DoorActsModel", "findConsent", "(III)I"⟩
abbrev b_M_act : ByteArray := prog_9_method_16_code
def y_M_act : MethodName := ⟨"DoorActsModel", "act", "(IIIIIJ)I"⟩
abbrev b_M_isItem : ByteArray := prog_9_method_4_code
def y_M_isItem : MethodName := ⟨"DoorActsModel", "isItem", "(I)Z"⟩
abbrev b_M_isDevice : ByteArray := prog_9_method_5_code
def y_M_isDevice : MethodName := ⟨"DoorActsModel", "isDevice", "(I)Z"⟩
abbrev b_M_canBe : ByteArray := prog_9_method_9_code
def y_M_canBe : MethodName := ⟨"DoorActsModel", "canBe", "(IIIIJ)Z"⟩
abbrev b_M_outcome : ByteArray := prog_9_method_13_code
def y_M_outcome : MethodName := ⟨"DoorActsModel", "outcome", "(IIIII)I"⟩
abbrev b_M_whoTakes : ByteArray := prog_9_method_10_code
def y_M_whoTakes : MethodName := ⟨"DoorActsModel", "whoTakes", "(IIZ)I"⟩
abbrev b_M_isProven : ByteArray := prog_9_method_11_code
def y_M_isProven : MethodName := ⟨"DoorActsModel", "isProven", "(IIIZ)Z"⟩
abbrev b_M_due : ByteArray := prog_9_method_12_code
def y_M_due : MethodName := ⟨"DoorActsModel", "due", "(I)J"⟩
abbrev b_M_make : ByteArray := prog_9_method_15_code
def y_M_make : MethodName := ⟨"DoorActsModel", "make", "(IIIIIIJ)V"⟩
abbrev b_M_hand : ByteArray := prog_9_method_14_code
def y_M_hand : MethodName := ⟨"DoorActsModel", "hand", "(IIIIJ)V"⟩
abbrev b_M_cut : ByteArray := prog_9_method_17_code
def y_M_cut : MethodName := ⟨"DoorActsModel", "cut", "(IZ)Z"⟩
abbrev b_M_join : ByteArray := prog_9_method_18_code
def y_M_join : MethodName := ⟨"DoorActsModel", "join", "(I)I"⟩
abbrev b_M_clash : ByteArray := prog_9_method_19_code
def y_M_clash : MethodName := ⟨"DoorActsModel", "clash", "(II)I"⟩
abbrev b_M_tries : ByteArray := prog_9_method_20_code
def y_M_tries : MethodName := ⟨"DoorActsModel", "tries", "(I)I"⟩
abbrev b_M_tick : ByteArray := prog_9_method_21_code
def y_M_tick : MethodName := ⟨"DoorActsModel", "tick", "(J)I"⟩
abbrev b_M_slip : ByteArray := prog_9_method_22_code
def y_M_slip : MethodName := ⟨"DoorActsModel", "slip", "(II)I"⟩
abbrev b_M_cash : ByteArray := prog_9_method_23_code
def y_M_cash : MethodName := ⟨"DoorActsModel", "cash", "(IJ)I"⟩
abbrev b_M_state : ByteArray := prog_9_method_24_code
def y_M_state : MethodName := ⟨"DoorActsModel", "state", "(I)I"⟩
theorem i_D : ∀ w ∈ u_ws R_D T_D 5, w ∈ tb := by decide +kernel
theorem to_D : ∀ j, j < 5 → parseFieldDescriptor (T_D j).2.2.1 = some (t_D j) := by decide +kernel
theorem no_D : ∀ a, a < 5 → ∀ b, b < 5 → a ≠ b → (T_D a).2.1 ≠ (T_D b).2.1 := by decide +kernel
theorem i_A : ∀ w ∈ u_ws R_A T_A 6, w ∈ tb := by decide +kernel
theorem to_A : ∀ j, j < 6 → parseFieldDescriptor (T_A j).2.2.1 = some (t_A j) := by decide +kernel
theorem no_A : ∀ a, a < 6 → ∀ b, b < 6 → a ≠ b → (T_A a).2.1 ≠ (T_A b).2.1 := by decide +kernel
theorem i_C : ∀ w ∈ u_ws R_C T_C 3, w ∈ tb := by decide +kernel
theorem to_C : ∀ j, j < 3 → parseFieldDescriptor (T_C j).2.2.1 = some (t_C j) := by decide +kernel
theorem no_C : ∀ a, a < 3 → ∀ b, b < 3 → a ≠ b → (T_C a).2.1 ≠ (T_C b).2.1 := by decide +kernel
theorem i_N : ∀ w ∈ u_ws R_N T_N 2, w ∈ tb := by decide +kernel
theorem to_N : ∀ j, j < 2 → parseFieldDescriptor (T_N j).2.2.1 = some (t_N j) := by decide +kernel
theorem no_N : ∀ a, a < 2 → ∀ b, b < 2 → a ≠ b → (T_N a).2.1 ≠ (T_N b).2.1 := by decide +kernel
theorem i_V : ∀ w ∈ u_ws R_V T_V 4, w ∈ tb := by decide +kernel
theorem to_V : ∀ j, j < 4 → parseFieldDescriptor (T_V j).2.2.1 = some (t_V j) := by decide +kernel
theorem no_V : ∀ a, a < 4 → ∀ b, b < 4 → a ≠ b → (T_V a).2.1 ≠ (T_V b).2.1 := by decide +kernel
theorem i_F : ∀ w ∈ u_ws R_F T_F 11, w ∈ tb := by decide +kernel
theorem to_F : ∀ j, j < 11 → parseFieldDescriptor (T_F j).2.2.1 = some (t_F j) := by decide +kernel
theorem no_F : ∀ a, a < 11 → ∀ b, b < 11 → a ≠ b → (T_F a).2.1 ≠ (T_F b).2.1 := by decide +kernel
theorem i_I : ∀ w ∈ u_ws R_I T_I 5, w ∈ tb := by decide +kernel
theorem to_I : ∀ j, j < 5 → parseFieldDescriptor (T_I j).2.2.1 = some (t_I j) := by decide +kernel
theorem no_I : ∀ a, a < 5 → ∀ b, b < 5 → a ≠ b → (T_I a).2.1 ≠ (T_I b).2.1 := by decide +kernel
theorem i_L : ∀ w ∈ u_ws R_L T_L 3, w ∈ tb := by decide +kernel
theorem to_L : ∀ j, j < 3 → parseFieldDescriptor (T_L j).2.2.1 = some (t_L j) := by decide +kernel
theorem no_L : ∀ a, a < 3 → ∀ b, b < 3 → a ≠ b → (T_L a).2.1 ≠ (T_L b).2.1 := by decide +kernel
theorem i_M : ∀ w ∈ u_ws R_M T_M 34, w ∈ tb := by decide +kernel
theorem to_M : ∀ j, j < 34 → parseFieldDescriptor (T_M j).2.2.1 = some (t_M j) := by decide +kernel
theorem no_M : ∀ a, a < 34 → ∀ b, b < 34 → a ≠ b → (T_M a).2.1 ≠ (T_M b).2.1 := by decide +kernel
