section
-- ===== PART A: goes FIRST, ahead of the names: the tables' words, and 'selects' of the private methods out of them =====
/-- a private method of a class that the tables say can be made, by its rows of tables_1 -/
def lw_okq (q : MethodName × Nat) : Prop := (q.1.cls ≠ "java/lang/invoke/MethodHandle" ∧ q.1.cls ≠ "java/lang/invoke/VarHandle") ∧ Cond.instantiable q.1.cls q.2 ∈ tables_1 ∧ Cond.privateMethod q.1 ∈ tables_1 ∧ Cond.instanceMethod q.1 ∈ tables_1
theorem lw_p0 : lw_okq (⟨"java/util/ArrayList", "add", "(Ljava/lang/Object;[Ljava/lang/Object;I)V"⟩, 3) := ⟨⟨by decide +kernel, by decide +kernel⟩, List.mem_of_getElem? (i := 27) (by decide +kernel), List.mem_of_getElem? (i := 198) (by decide +kernel), List.mem_of_getElem? (i := 199) (by decide +kernel)⟩
theorem lw_p1 : lw_okq (⟨"java/util/ArrayList", "grow", "()[Ljava/lang/Object;"⟩, 3) := ⟨⟨by decide +kernel, by decide +kernel⟩, List.mem_of_getElem? (i := 27) (by decide +kernel), List.mem_of_getElem? (i := 202) (by decide +kernel), List.mem_of_getElem? (i := 203) (by decide +kernel)⟩
theorem lw_p2 : lw_okq (⟨"java/util/ArrayList", "grow", "(I)[Ljava/lang/Object;"⟩, 3) := ⟨⟨by decide +kernel, by decide +kernel⟩, List.mem_of_getElem? (i := 27) (by decide +kernel), List.mem_of_getElem? (i := 206) (by decide +kernel), List.mem_of_getElem? (i := 207) (by decide +kernel)⟩
theorem lw_p3 : lw_okq (⟨"DoorActs$Consents", "placeOf", "(I)I"⟩, 2) := ⟨⟨by decide +kernel, by decide +kernel⟩, List.mem_of_getElem? (i := 53) (by decide +kernel), List.mem_of_getElem? (i := 261) (by decide +kernel), List.mem_of_getElem? (i := 262) (by decide +kernel)⟩
theorem lw_p4 : lw_okq (⟨"DoorActs", "itemOf", "(I)LDoorActs$Item;"⟩, 5) := ⟨⟨by decide +kernel, by decide +kernel⟩, List.mem_of_getElem? (i := 19) (by decide +kernel), List.mem_of_getElem? (i := 269) (by decide +kernel), List.mem_of_getElem? (i := 270) (by decide +kernel)⟩
theorem lw_p5 : lw_okq (⟨"DoorActs", "outcomeOf", "(LDoorActs$Item;LDoorActs$Facts;III)I"⟩, 5) := ⟨⟨by decide +kernel, by decide +kernel⟩, List.mem_of_getElem? (i := 19) (by decide +kernel), List.mem_of_getElem? (i := 310) (by decide +kernel), List.mem_of_getElem? (i := 311) (by decide +kernel)⟩
theorem lw_p6 : lw_okq (⟨"DoorActs", "handOutcome", "(LDoorActs$Item;LDoorActs$Facts;II)I"⟩, 5) := ⟨⟨by decide +kernel, by decide +kernel⟩, List.mem_of_getElem? (i := 19) (by decide +kernel), List.mem_of_getElem? (i := 314) (by decide +kernel), List.mem_of_getElem? (i := 315) (by decide +kernel)⟩
theorem lw_p7 : lw_okq (⟨"DoorActs", "takerOutcome", "(LDoorActs$Item;LDoorActs$Facts;I)I"⟩, 5) := ⟨⟨by decide +kernel, by decide +kernel⟩, List.mem_of_getElem? (i := 19) (by decide +kernel), List.mem_of_getElem? (i := 318) (by decide +kernel), List.mem_of_getElem? (i := 319) (by decide +kernel)⟩
theorem lw_p8 : lw_okq (⟨"DoorActs", "hasOrder", "(LDoorActs$Item;I)Z"⟩, 5) := ⟨⟨by decide +kernel, by decide +kernel⟩, List.mem_of_getElem? (i := 19) (by decide +kernel), List.mem_of_getElem? (i := 322) (by decide +kernel), List.mem_of_getElem? (i := 323) (by decide +kernel)⟩
theorem lw_p9 : lw_okq (⟨"DoorActs$Facts", "leaveCard", "(I)V"⟩, 11) := ⟨⟨by decide +kernel, by decide +kernel⟩, List.mem_of_getElem? (i := 125) (by decide +kernel), List.mem_of_getElem? (i := 371) (by decide +kernel), List.mem_of_getElem? (i := 372) (by decide +kernel)⟩
theorem lw_p10 : lw_okq (⟨"DoorActs$Facts", "handOver", "(LDoorActs$Act;)V"⟩, 11) := ⟨⟨by decide +kernel, by decide +kernel⟩, List.mem_of_getElem? (i := 125) (by decide +kernel), List.mem_of_getElem? (i := 375) (by decide +kernel), List.mem_of_getElem? (i := 376) (by decide +kernel)⟩
theorem lw_p11 : lw_okq (⟨"DoorActs", "doForAll", "(LDoorActs$Act;)V"⟩, 5) := ⟨⟨by decide +kernel, by decide +kernel⟩, List.mem_of_getElem? (i := 19) (by decide +kernel), List.mem_of_getElem? (i := 383) (by decide +kernel), List.mem_of_getElem? (i := 384) (by decide +kernel)⟩
theorem lw_p12 : lw_okq (⟨"DoorActsModel", "findConsent", "(III)I"⟩, 34) := ⟨⟨by decide +kernel, by decide +kernel⟩, List.mem_of_getElem? (i := 459) (by decide +kernel), List.mem_of_getElem? (i := 584) (by decide +kernel), List.mem_of_getElem? (i := 585) (by decide +kernel)⟩
theorem lw_p13 : lw_okq (⟨"DoorActsModel", "isItem", "(I)Z"⟩, 34) := ⟨⟨by decide +kernel, by decide +kernel⟩, List.mem_of_getElem? (i := 459) (by decide +kernel), List.mem_of_getElem? (i := 592) (by decide +kernel), List.mem_of_getElem? (i := 593) (by decide +kernel)⟩
theorem lw_p14 : lw_okq (⟨"DoorActsModel", "canBe", "(IIIIJ)Z"⟩, 34) := ⟨⟨by decide +kernel, by decide +kernel⟩, List.mem_of_getElem? (i := 459) (by decide +kernel), List.mem_of_getElem? (i := 603) (by decide +kernel), List.mem_of_getElem? (i := 604) (by decide +kernel)⟩
theorem lw_p15 : lw_okq (⟨"DoorActsModel", "outcome", "(IIIII)I"⟩, 34) := ⟨⟨by decide +kernel, by decide +kernel⟩, List.mem_of_getElem? (i := 459) (by decide +kernel), List.mem_of_getElem? (i := 607) (by decide +kernel), List.mem_of_getElem? (i := 608) (by decide +kernel)⟩
def lw_privs_1 : List (MethodName × Nat) := [(⟨"java/util/ArrayList", "add", "(Ljava/lang/Object;[Ljava/lang/Object;I)V"⟩, 3), (⟨"java/util/ArrayList", "grow", "()[Ljava/lang/Object;"⟩, 3), (⟨"java/util/ArrayList", "grow", "(I)[Ljava/lang/Object;"⟩, 3), (⟨"DoorActs$Consents", "placeOf", "(I)I"⟩, 2), (⟨"DoorActs", "itemOf", "(I)LDoorActs$Item;"⟩, 5), (⟨"DoorActs", "outcomeOf", "(LDoorActs$Item;LDoorActs$Facts;III)I"⟩, 5), (⟨"DoorActs", "handOutcome", "(LDoorActs$Item;LDoorActs$Facts;II)I"⟩, 5), (⟨"DoorActs", "takerOutcome", "(LDoorActs$Item;LDoorActs$Facts;I)I"⟩, 5), (⟨"DoorActs", "hasOrder", "(LDoorActs$Item;I)Z"⟩, 5), (⟨"DoorActs$Facts", "leaveCard", "(I)V"⟩, 11), (⟨"DoorActs$Facts", "handOver", "(LDoorActs$Act;)V"⟩, 11), (⟨"DoorActs", "doForAll", "(LDoorActs$Act;)V"⟩, 5), (⟨"DoorActsModel", "findConsent", "(III)I"⟩, 34), (⟨"DoorActsModel", "isItem", "(I)Z"⟩, 34), (⟨"DoorActsModel", "canBe", "(IIIIJ)Z"⟩, 34), (⟨"DoorActsModel", "outcome", "(IIIII)I"⟩, 34)]
theorem lw_r1 : ∀ q ∈ lw_privs_1, lw_okq q := List.forall_mem_cons.mpr ⟨lw_p0, List.forall_mem_cons.mpr ⟨lw_p1, List.forall_mem_cons.mpr ⟨lw_p2, List.forall_mem_cons.mpr ⟨lw_p3, List.forall_mem_cons.mpr ⟨lw_p4, List.forall_mem_cons.mpr ⟨lw_p5, List.forall_mem_cons.mpr ⟨lw_p6, List.forall_mem_cons.mpr ⟨lw_p7, List.forall_mem_cons.mpr ⟨lw_p8, List.forall_mem_cons.mpr ⟨lw_p9, List.forall_mem_cons.mpr ⟨lw_p10, List.forall_mem_cons.mpr ⟨lw_p11, List.forall_mem_cons.mpr ⟨lw_p12, List.forall_mem_cons.mpr ⟨lw_p13, List.forall_mem_cons.mpr ⟨lw_p14, List.forall_mem_cons.mpr ⟨lw_p15, fun _ h => absurd h List.not_mem_nil⟩⟩⟩⟩⟩⟩⟩⟩⟩⟩⟩⟩⟩⟩⟩⟩
theorem lw_p16 : lw_okq (⟨"DoorActsModel", "whoTakes", "(IIZ)I"⟩, 34) := ⟨⟨by decide +kernel, by decide +kernel⟩, List.mem_of_getElem? (i := 459) (by decide +kernel), List.mem_of_getElem? (i := 611) (by decide +kernel), List.mem_of_getElem? (i := 612) (by decide +kernel)⟩
theorem lw_p17 : lw_okq (⟨"DoorActsModel", "isProven", "(IIIZ)Z"⟩, 34) := ⟨⟨by decide +kernel, by decide +kernel⟩, List.mem_of_getElem? (i := 459) (by decide +kernel), List.mem_of_getElem? (i := 615) (by decide +kernel), List.mem_of_getElem? (i := 616) (by decide +kernel)⟩
theorem lw_p18 : lw_okq (⟨"DoorActsModel", "due", "(I)J"⟩, 34) := ⟨⟨by decide +kernel, by decide +kernel⟩, List.mem_of_getElem? (i := 459) (by decide +kernel), List.mem_of_getElem? (i := 619) (by decide +kernel), List.mem_of_getElem? (i := 620) (by decide +kernel)⟩
theorem lw_p19 : lw_okq (⟨"DoorActsModel", "make", "(IIIIIIJ)V"⟩, 34) := ⟨⟨by decide +kernel, by decide +kernel⟩, List.mem_of_getElem? (i := 459) (by decide +kernel), List.mem_of_getElem? (i := 624) (by decide +kernel), List.mem_of_getElem? (i := 625) (by decide +kernel)⟩
theorem lw_p20 : lw_okq (⟨"DoorActsModel", "hand", "(IIIIJ)V"⟩, 34) := ⟨⟨by decide +kernel, by decide +kernel⟩, List.mem_of_getElem? (i := 459) (by decide +kernel), List.mem_of_getElem? (i := 628) (by decide +kernel), List.mem_of_getElem? (i := 629) (by decide +kernel)⟩
def lw_privs_2 : List (MethodName × Nat) := [(⟨"DoorActsModel", "whoTakes", "(IIZ)I"⟩, 34), (⟨"DoorActsModel", "isProven", "(IIIZ)Z"⟩, 34), (⟨"DoorActsModel", "due", "(I)J"⟩, 34), (⟨"DoorActsModel", "make", "(IIIIIIJ)V"⟩, 34), (⟨"DoorActsModel", "hand", "(IIIIJ)V"⟩, 34)]
theorem lw_r2 : ∀ q ∈ lw_privs_2, lw_okq q := List.forall_mem_cons.mpr ⟨lw_p16, List.forall_mem_cons.mpr ⟨lw_p17, List.forall_mem_cons.mpr ⟨lw_p18, List.forall_mem_cons.mpr ⟨lw_p19, List.forall_mem_cons.mpr ⟨lw_p20, fun _ h => absurd h List.not_mem_nil⟩⟩⟩⟩⟩
def lw_privs : List (MethodName × Nat) := lw_privs_1 ++ (lw_privs_2)
def lw_tbl : List Cond := k2_sels lw_privs ++ tables_1
theorem lw_privs_ok : ∀ q ∈ lw_privs, lw_okq q := by
  show ∀ q ∈ lw_privs_1 ++ (lw_privs_2), lw_okq q
  exact List.forall_mem_append.mpr ⟨lw_r1, lw_r2⟩
/-! NAMES, written by wip/whole/gennames.py out of the Statement. -/
def R_D : String := "DoorActs"
def T_D : u_T := fun k => match k with
  | 0 => ("DoorActs", "items", "Ljava/util/ArrayList;", true)
  | 1 => ("DoorActs", "clashes", "Ljava/util/ArrayList;", true)
  | 2 => ("DoorActs", "consents", "LDoorActs$Consents;", true)
  | 3 => ("DoorActs", "devices", "[LDoorActs$Device;", true)
  | _ => ("DoorActs", "today", "J", false)
def t_D : Nat → FieldType := fun k => match k with
  | 0 => .object "java/util/ArrayList"
  | 1 => .object "java/util/ArrayList"
  | 2 => .object "DoorActs$Consents"
  | 3 => .array (.object "DoorActs$Device")
  | _ => .long
def R_A : String := "DoorActs$Act"
def T_A : u_T := fun k => match k with
  | 0 => ("DoorActs$Act", "item", "LDoorActs$Item;", true)
  | 1 => ("DoorActs$Act", "device", "I", true)
  | 2 => ("DoorActs$Act", "kind", "I", true)
  | 3 => ("DoorActs$Act", "who", "I", true)
  | 4 => ("DoorActs$Act", "outcome", "I", true)
  | _ => ("DoorActs$Act", "day", "I", true)
def t_A : Nat → FieldType := fun k => match k with
  | 0 => .object "DoorActs$Item"
  | 1 => .int
  | 2 => .int
  | 3 => .int
  | 4 => .int
  | _ => .int
def R_C : String := "DoorActs$Clash"
def T_C : u_T := fun k => match k with
  | 0 => ("DoorActs$Clash", "item", "I", true)
  | 1 => ("DoorActs$Clash", "latestDevice", "I", true)
  | _ => ("DoorActs$Clash", "joinedDevice", "I", true)
def t_C : Nat → FieldType := fun k => match k with
  | 0 => .int
  | 1 => .int
  | _ => .int
def R_N : String := "DoorActs$Consents"
def T_N : u_T := fun k => match k with
  | 0 => ("DoorActs$Consents", "told", "[I", true)
  | _ => ("DoorActs$Consents", "count", "I", false)
def t_N : Nat → FieldType := fun k => match k with
  | 0 => .array .int
  | _ => .int
def R_V : String := "DoorActs$Device"
def T_V : u_T := fun k => match k with
  | 0 => ("DoorActs$Device", "off", "Z", false)
  | 1 => ("DoorActs$Device", "latestTime", "J", false)
  | 2 => ("DoorActs$Device", "rows", "Ljava/util/ArrayList;", true)
  | _ => ("DoorActs$Device", "known", "Ljava/util/ArrayList;", true)
def t_V : Nat → FieldType := fun k => match k with
  | 0 => .boolean
  | 1 => .long
  | 2 => .object "java/util/ArrayList"
  | _ => .object "java/util/ArrayList"
def R_F : String := "DoorActs$Facts"
def T_F : u_T := fun k => match k with
  | 0 => ("DoorActs$Facts", "state", "I", false)
  | 1 => ("DoorActs$Facts", "stateBefore", "I", false)
  | 2 => ("DoorActs$Facts", "damaged", "Z", false)
  | 3 => ("DoorActs$Facts", "cards", "I", false)
  | 4 => ("DoorActs$Facts", "cardDay", "I", false)
  | 5 => ("DoorActs$Facts", "keptTo", "I", false)
  | 6 => ("DoorActs$Facts", "handDevice", "I", false)
  | 7 => ("DoorActs$Facts", "handDay", "I", false)
  | 8 => ("DoorActs$Facts", "taker", "I", false)
  | 9 => ("DoorActs$Facts", "slip", "I", false)
  | _ => ("DoorActs$Facts", "latestDevice", "I", false)
def t_F : Nat → FieldType := fun k => match k with
  | 0 => .int
  | 1 => .int
  | 2 => .boolean
  | 3 => .int
  | 4 => .int
  | 5 => .int
  | 6 => .int
  | 7 => .int
  | 8 => .int
  | 9 => .int
  | _ => .int
def R_I : String := "DoorActs$Item"
def T_I : u_T := fun k => match k with
  | 0 => ("DoorActs$Item", "number", "I", true)
  | 1 => ("DoorActs$Item", "service", "I", true)
  | 2 => ("DoorActs$Item", "receiver", "I", true)
  | 3 => ("DoorActs$Item", "facts", "LDoorActs$Facts;", true)
  | _ => ("DoorActs$Item", "due", "I", false)
def t_I : Nat → FieldType := fun k => match k with
  | 0 => .int
  | 1 => .int
  | 2 => .int
  | 3 => .object "DoorActs$Facts"
  | _ => .int
def R_L : String := "java/util/ArrayList"
def T_L : u_T := fun k => match k with
  | 0 => ("java/util/ArrayList", "elementData", "[Ljava/lang/Object;", false)
  | 1 => ("java/util/ArrayList", "size", "I", false)
  | _ => ("java/util/AbstractList", "modCount", "I", false)
def t_L : Nat → FieldType := fun k => match k with
  | 0 => .array (.object "java/lang/Object")
  | 1 => .int
  | _ => .int
def R_M : String := "DoorActsModel"
def T_M : u_T := fun k => match k with
  | 0 => ("DoorActsModel", "items", "I", false)
  | 1 => ("DoorActsModel", "services", "[I", true)
  | 2 => ("DoorActsModel", "receivers", "[I", true)
  | 3 => ("DoorActsModel", "paid", "[J", true)
  | 4 => ("DoorActsModel", "latest", "[I", true)
  | 5 => ("DoorActsModel", "signed", "[Z", true)
  | 6 => ("DoorActsModel", "sentBack", "[Z", true)
  | 7 => ("DoorActsModel", "states", "[I", true)
  | 8 => ("DoorActsModel", "cards", "[I", true)
  | 9 => ("DoorActsModel", "cardDays", "[J", true)
  | 10 => ("DoorActsModel", "keptDays", "[J", true)
  | 11 => ("DoorActsModel", "takers", "[I", true)
  | 12 => ("DoorActsModel", "handDevices", "[I", true)
  | 13 => ("DoorActsModel", "handDays", "[J", true)
  | 14 => ("DoorActsModel", "befores", "[I", true)
  | 15 => ("DoorActsModel", "damaged", "[Z", true)
  | 16 => ("DoorActsModel", "consents", "I", false)
  | 17 => ("DoorActsModel", "consentPersons", "[I", true)
  | 18 => ("DoorActsModel", "consentKinds", "[I", true)
  | 19 => ("DoorActsModel", "consentOthers", "[I", true)
  | 20 => ("DoorActsModel", "off", "[Z", true)
  | 21 => ("DoorActsModel", "known", "[I", true)
  | 22 => ("DoorActsModel", "times", "[J", true)
  | 23 => ("DoorActsModel", "rows", "[I", true)
  | 24 => ("DoorActsModel", "rowItems", "[I", true)
  | 25 => ("DoorActsModel", "rowKinds", "[I", true)
  | 26 => ("DoorActsModel", "rowOutcomes", "[I", true)
  | 27 => ("DoorActsModel", "rowWhos", "[I", true)
  | 28 => ("DoorActsModel", "rowDays", "[J", true)
  | 29 => ("DoorActsModel", "clashes", "I", false)
  | 30 => ("DoorActsModel", "clashItems", "[I", true)
  | 31 => ("DoorActsModel", "clashOthers", "[I", true)
  | 32 => ("DoorActsModel", "clashDevices", "[I", true)
  | _ => ("DoorActsModel", "today", "J", false)
def t_M : Nat → FieldType := fun k => match k with
  | 0 => .int
  | 1 => .array .int
  | 2 => .array .int
  | 3 => .array .long
  | 4 => .array .int
  | 5 => .array .boolean
  | 6 => .array .boolean
  | 7 => .array .int
  | 8 => .array .int
  | 9 => .array .long
  | 10 => .array .long
  | 11 => .array .int
  | 12 => .array .int
  | 13 => .array .long
  | 14 => .array .int
  | 15 => .array .boolean
  | 16 => .int
  | 17 => .array .int
  | 18 => .array .int
  | 19 => .array .int
  | 20 => .array .boolean
  | 21 => .array .int
  | 22 => .array .long
  | 23 => .array .int
  | 24 => .array .int
  | 25 => .array .int
  | 26 => .array .int
  | 27 => .array .int
  | 28 => .array .long
  | 29 => .int
  | 30 => .array .int
  | 31 => .array .int
  | 32 => .array .int
  | _ => .long
abbrev kc : List vw_C := [(R_D, T_D, 5), (R_A, T_A, 6), (R_C, T_C, 3), (R_N, T_N, 2), (R_V, T_V, 4), (R_F, T_F, 11), (R_I, T_I, 5), (R_L, T_L, 3), (R_M, T_M, 34)]
abbrev kt (dA : Nat → ClassId) : List (ClassId × FieldType) := [(dA 0, .int), (dA 1, .object "DoorActs$Device"), (dA 2, .object "java/lang/Object"), (dA 3, .long), (dA 4, .boolean)]
abbrev tb : List Cond := lw_tbl.filter goodWord
theorem tb_good : ∀ w ∈ tb, goodWord w = true := fun w hw => (List.mem_filter.mp hw).2
/-- the words that a call does not carry by itself -/
def tx : List Cond := [(.methodLinkNest "DoorActs" (21 : Nat) ({ cls := "DoorActs$Consents", name := "<init>", desc := "()V" } : Jvm.MethodName) "DoorActs"), (.methodLinkNest "DoorActs" (36 : Nat) ({ cls := "DoorActs$Device", name := "<init>", desc := "()V" } : Jvm.MethodName) "DoorActs"), (.methodLinkNest "DoorActs$Item" (11 : Nat) ({ cls := "DoorActs$Facts", name := "<init>", desc := "()V" } : Jvm.MethodName) "DoorActs"), (.methodLinkNest "DoorActs$Device" (43 : Nat) ({ cls := "DoorActs$Facts", name := "<init>", desc := "()V" } : Jvm.MethodName) "DoorActs"), (.castable "DoorActs$Item" "DoorActs$Item"), (.castable "DoorActs$Facts" "DoorActs$Facts"), (.castable "DoorActs$Act" "DoorActs$Act"), (.castable "DoorActs$Clash" "DoorActs$Clash"), (.declares ({ cls := "java/lang/Object", name := "getClass", desc := "()Ljava/lang/Class;" } : Jvm.MethodName)), (.castable "DoorActs" "java/lang/Object"), (.castable "DoorActs$Consents" "java/lang/Object"), (.castable "DoorActs$Device" "java/lang/Object"), (.castable "DoorActsModel" "java/lang/Object"), (.castable "DoorActs$Item" "java/lang/Object"), (.castable "DoorActs$Facts" "java/lang/Object"), (.castable "DoorActs$Act" "java/lang/Object"), (.castable "DoorActs$Clash" "java/lang/Object")]
theorem tx_in : ∀ w ∈ tx, w ∈ lw_tbl := by decide +kernel
abbrev b_D_init : ByteArray := prog_1_method_1_code
def y_D_init : MethodName := ⟨"DoorActs", "<init>", "()V"⟩
abbrev b_O_init : ByteArray := object_method_1_code
def y_O_init : MethodName := ⟨"java/lang/Object", "<init>", "()V"⟩
abbrev b_L_init : ByteArray := prog_17_method_2_code
def y_L_init : MethodName := ⟨"java/util/ArrayList", "<init>", "()V"⟩
abbrev b_AL_init : ByteArray := prog_16_method_1_code
def y_AL_init : MethodName := ⟨"java/util/AbstractList", "<init>", "()V"⟩
abbrev b_AC_init : ByteArray := prog_15_method_1_code
def y_AC_init : MethodName := ⟨"java/util/AbstractCollection", "<init>", "()V"⟩
abbrev b_N_init : ByteArray := prog_4_method_1_code
def y_N_init : MethodName := ⟨"DoorActs$Consents", "<init>", "()V"⟩
abbrev b_V_init : ByteArray := prog_5_method_1_code
def y_V_init : MethodName := ⟨"DoorActs$Device", "<init>", "()V"⟩
abbrev b_D_item : ByteArray := prog_1_method_2_code
def y_D_item : MethodName := ⟨"DoorActs", "item", "(II)I"⟩
abbrev b_D_isPerson : ByteArray := prog_1_method_13_code
def y_D_isPerson : MethodName := ⟨"DoorActs", "isPerson", "(I)Z"⟩
abbrev b_L_size : ByteArray := prog_17_method_8_code
def y_L_size : MethodName := ⟨"java/util/ArrayList", "size", "()I"⟩
abbrev b_I_init : ByteArray := prog_7_method_1_code
def y_I_init : MethodName := ⟨"DoorActs$Item", "<init>", "(III)V"⟩
abbrev b_F_init : ByteArray := prog_6_method_1_code
def y_F_init : MethodName := ⟨"DoorActs$Facts", "<init>", "()V"⟩
abbrev b_L_add1 : ByteArray := prog_17_method_25_code
def y_L_add1 : MethodName := ⟨"java/util/ArrayList", "add", "(Ljava/lang/Object;)Z"⟩
abbrev b_L_add3 : ByteArray := prog_17_method_24_code
def y_L_add3 : MethodName := ⟨"java/util/ArrayList", "add", "(Ljava/lang/Object;[Ljava/lang/Object;I)V"⟩
abbrev b_L_grow0 : ByteArray := prog_17_method_7_code
def y_L_grow0 : MethodName := ⟨"java/util/ArrayList", "grow", "()[Ljava/lang/Object;"⟩
abbrev b_L_grow1 : ByteArray := prog_17_method_6_code
def y_L_grow1 : MethodName := ⟨"java/util/ArrayList", "grow", "(I)[Ljava/lang/Object;"⟩
abbrev b_AS_newLength : ByteArray := prog_24_method_27_code
def y_AS_newLength : MethodName := ⟨"jdk/internal/util/ArraysSupport", "newLength", "(III)I"⟩
abbrev b_Ma_max : ByteArray := prog_13_method_65_code
def y_Ma_max : MethodName := ⟨"java/lang/Math", "max", "(II)I"⟩
abbrev b_AS_hugeLength : ByteArray := prog_24_method_28_code
def y_AS_hugeLength : MethodName := ⟨"jdk/internal/util/ArraysSupport", "hugeLength", "(II)I"⟩
abbrev b_Ar_copyOf2 : ByteArray := prog_18_method_119_code
def y_Ar_copyOf2 : MethodName := ⟨"java/util/Arrays", "copyOf", "([Ljava/lang/Object;I)[Ljava/lang/Object;"⟩
abbrev b_Ar_copyOf3 : ByteArray := prog_18_method_120_code
def y_Ar_copyOf3 : MethodName := ⟨"java/util/Arrays", "copyOf", "([Ljava/lang/Object;ILjava/lang/Class;)[Ljava/lang/Object;"⟩
abbrev b_Ma_min : ByteArray := prog_13_method_69_code
def y_Ma_min : MethodName := ⟨"java/lang/Math", "min", "(II)I"⟩
abbrev b_D_consent : ByteArray := prog_1_method_3_code
def y_D_consent : MethodName := ⟨"DoorActs", "consent", "(III)I"⟩
abbrev b_N_turn : ByteArray := prog_4_method_3_code
def y_N_turn : MethodName := ⟨"DoorActs$Consents", "turn", "(III)I"⟩
abbrev b_N_codeOf : ByteArray := prog_4_method_5_code
def y_N_codeOf : MethodName := ⟨"DoorActs$Consents", "codeOf", "(III)I"⟩
abbrev b_N_placeOf : ByteArray := prog_4_method_4_code
def y_N_placeOf : MethodName := ⟨"DoorActs$Consents", "placeOf", "(I)I"⟩
abbrev b_D_act : ByteArray := prog_1_method_4_code
def y_D_act : MethodName := ⟨"DoorActs", "act", "(IIIIIJ)I"⟩
abbrev b_D_itemOf : ByteArray := prog_1_method_16_code
def y_D_itemOf : MethodName := ⟨"DoorActs", "itemOf", "(I)LDoorActs$Item;"⟩
abbrev b_L_get : ByteArray := prog_17_method_20_code
def y_L_get : MethodName := ⟨"java/util/ArrayList", "get", "(I)Ljava/lang/Object;"⟩
abbrev b_Ob_checkIndex : ByteArray := prog_21_method_17_code
def y_Ob_checkIndex : MethodName := ⟨"java/util/Objects", "checkIndex", "(II)I"⟩
abbrev b_P_checkIndex : ByteArray := prog_25_method_11_code
def y_P_checkIndex : MethodName := ⟨"jdk/internal/util/Preconditions", "checkIndex", "(IILjava/util/function/BiFunction;)I"⟩
abbrev b_L_elementData : ByteArray := prog_17_method_18_code
def y_L_elementData : MethodName := ⟨"java/util/ArrayList", "elementData", "(I)Ljava/lang/Object;"⟩
abbrev b_D_isDevice : ByteArray := prog_1_method_14_code
def y_D_isDevice : MethodName := ⟨"DoorActs", "isDevice", "(I)Z"⟩
abbrev b_V_factsOf : ByteArray := prog_5_method_2_code
def y_V_factsOf : MethodName := ⟨"DoorActs$Device", "factsOf", "(LDoorActs$Item;)LDoorActs$Facts;"⟩
abbrev b_D_isActAsSaid : ByteArray := prog_1_method_15_code
def y_D_isActAsSaid : MethodName := ⟨"DoorActs", "isActAsSaid", "(III)Z"⟩
abbrev b_F_allow : ByteArray := prog_6_method_4_code
def y_F_allow : MethodName := ⟨"DoorActs$Facts", "allow", "(III)Z"⟩
abbrev b_F_isHandedOver : ByteArray := prog_6_method_3_code
def y_F_isHandedOver : MethodName := ⟨"DoorActs$Facts", "isHandedOver", "()Z"⟩
abbrev b_D_outcomeOf : ByteArray := prog_1_method_18_code
def y_D_outcomeOf : MethodName := ⟨"DoorActs", "outcomeOf", "(LDoorActs$Item;LDoorActs$Facts;III)I"⟩
abbrev b_D_handOutcome : ByteArray := prog_1_method_19_code
def y_D_handOutcome : MethodName := ⟨"DoorActs", "handOutcome", "(LDoorActs$Item;LDoorActs$Facts;II)I"⟩
abbrev b_D_takerOutcome : ByteArray := prog_1_method_20_code
def y_D_takerOutcome : MethodName := ⟨"DoorActs", "takerOutcome", "(LDoorActs$Item;LDoorActs$Facts;I)I"⟩
abbrev b_D_hasOrder : ByteArray := prog_1_method_21_code
def y_D_hasOrder : MethodName := ⟨"DoorActs", "hasOrder", "(LDoorActs$Item;I)Z"⟩
abbrev b_N_stand : ByteArray := prog_4_method_2_code
def y_N_stand : MethodName := ⟨"DoorActs$Consents", "stand", "(III)Z"⟩
abbrev b_D_isProofEnough : ByteArray := prog_1_method_22_code
def y_D_isProofEnough : MethodName := ⟨"DoorActs", "isProofEnough", "(LDoorActs$Item;LDoorActs$Facts;II)Z"⟩
abbrev b_A_init : ByteArray := prog_2_method_1_code
def y_A_init : MethodName := ⟨"DoorActs$Act", "<init>", "(LDoorActs$Item;IIIII)V"⟩
abbrev b_F_change : ByteArray := prog_6_method_5_code
def y_F_change : MethodName := ⟨"DoorActs$Facts", "change", "(LDoorActs$Act;)V"⟩
abbrev b_F_leaveCard : ByteArray := prog_6_method_6_code
def y_F_leaveCard : MethodName := ⟨"DoorActs$Facts", "leaveCard", "(I)V"⟩
abbrev b_F_handOver : ByteArray := prog_6_method_7_code
def y_F_handOver : MethodName := ⟨"DoorActs$Facts", "handOver", "(LDoorActs$Act;)V"⟩
abbrev b_D_join : ByteArray := prog_1_method_5_code
def y_D_join : MethodName := ⟨"DoorActs", "join", "(I)I"⟩
abbrev b_D_doForAll : ByteArray := prog_1_method_17_code
def y_D_doForAll : MethodName := ⟨"DoorActs", "doForAll", "(LDoorActs$Act;)V"⟩
abbrev b_C_init : ByteArray := prog_3_method_1_code
def y_C_init : MethodName := ⟨"DoorActs$Clash", "<init>", "(III)V"⟩
abbrev b_V_goOnLine : ByteArray := prog_5_method_4_code
def y_V_goOnLine : MethodName := ⟨"DoorActs$Device", "goOnLine", "()V"⟩
abbrev b_L_clear : ByteArray := prog_17_method_40_code
def y_L_clear : MethodName := ⟨"java/util/ArrayList", "clear", "()V"⟩
abbrev b_D_clash : ByteArray := prog_1_method_6_code
def y_D_clash : MethodName := ⟨"DoorActs", "clash", "(II)I"⟩
abbrev b_D_cut : ByteArray := prog_1_method_7_code
def y_D_cut : MethodName := ⟨"DoorActs", "cut", "(IZ)Z"⟩
abbrev b_V_goOffLine : ByteArray := prog_5_method_3_code
def y_V_goOffLine : MethodName := ⟨"DoorActs$Device", "goOffLine", "(Ljava/util/ArrayList;)V"⟩
abbrev b_F_copyFrom : ByteArray := prog_6_method_2_code
def y_F_copyFrom : MethodName := ⟨"DoorActs$Facts", "copyFrom", "(LDoorActs$Facts;)V"⟩
abbrev b_D_tries : ByteArray := prog_1_method_8_code
def y_D_tries : MethodName := ⟨"DoorActs", "tries", "(I)I"⟩
abbrev b_D_tick : ByteArray := prog_1_method_9_code
def y_D_tick : MethodName := ⟨"DoorActs", "tick", "(J)I"⟩
abbrev b_F_goBackBy : ByteArray := prog_6_method_8_code
def y_F_goBackBy : MethodName := ⟨"DoorActs$Facts", "goBackBy", "(J)Z"⟩
abbrev b_D_slip : ByteArray := prog_1_method_10_code
def y_D_slip : MethodName := ⟨"DoorActs", "slip", "(II)I"⟩
abbrev b_D_cash : ByteArray := prog_1_method_11_code
def y_D_cash : MethodName := ⟨"DoorActs", "cash", "(IJ)I"⟩
abbrev b_D_state : ByteArray := prog_1_method_12_code
def y_D_state : MethodName := ⟨"DoorActs", "state", "(I)I"⟩
abbrev b_M_init : ByteArray := prog_9_method_1_code
def y_M_init : MethodName := ⟨"DoorActsModel", "<init>", "()V"⟩
abbrev b_M_item : ByteArray := prog_9_method_6_code
def y_M_item : MethodName := ⟨"DoorActsModel", "item", "(II)I"⟩
abbrev b_M_isIn : ByteArray := prog_9_method_3_code
def y_M_isIn : MethodName := ⟨"DoorActsModel", "isIn", "(JJJ)Z"⟩
abbrev b_M_consent : ByteArray := prog_9_method_8_code
def y_M_consent : MethodName := ⟨"DoorActsModel", "consent", "(III)I"⟩
abbrev b_M_findConsent : ByteArray := prog_9_method_7_code
def y_M_findConsent : MethodName := ⟨"DoorActsModel", "findConsent", "(III)I"⟩
abbrev b_M_act : ByteArray := prog_9_method_16_code
def y_M_act : MethodName := ⟨"DoorActsModel", "act", "(IIIIIJ)I"⟩
abbrev b_M_isItem : ByteArray := prog_9_method_4_code
def y_M_isItem : MethodName := ⟨"DoorActsModel", "isItem", "(I)Z"⟩
abbrev b_M_isDevice : ByteArray := prog_9_method_5_code
def y_M_isDevice : MethodName := ⟨"DoorActsModel", "isDevice", "(I)Z"⟩
abbrev b_M_canBe : ByteArray := prog_9_method_9_code
def y_M_canBe : MethodName := ⟨"DoorActsModel", "canBe", "(IIIIJ)Z"⟩
abbrev b_M_outcome : ByteArray := prog_9_method_13_code
def y_M_outcome : MethodName := ⟨"DoorActsModel", "outcome", "(IIIII)I"⟩
abbrev b_M_whoTakes : ByteArray := prog_9_method_10_code
def y_M_whoTakes : MethodName := ⟨"DoorActsModel", "whoTakes", "(IIZ)I"⟩
abbrev b_M_isProven : ByteArray := prog_9_method_11_code
def y_M_isProven : MethodName := ⟨"DoorActsModel", "isProven", "(IIIZ)Z"⟩
abbrev b_M_due : ByteArray := prog_9_method_12_code
def y_M_due : MethodName := ⟨"DoorActsModel", "due", "(I)J"⟩
abbrev b_M_make : ByteArray := prog_9_method_15_code
def y_M_make : MethodName := ⟨"DoorActsModel", "make", "(IIIIIIJ)V"⟩
abbrev b_M_hand : ByteArray := prog_9_method_14_code
def y_M_hand : MethodName := ⟨"DoorActsModel", "hand", "(IIIIJ)V"⟩
abbrev b_M_cut : ByteArray := prog_9_method_17_code
def y_M_cut : MethodName := ⟨"DoorActsModel", "cut", "(IZ)Z"⟩
abbrev b_M_join : ByteArray := prog_9_method_18_code
def y_M_join : MethodName := ⟨"DoorActsModel", "join", "(I)I"⟩
abbrev b_M_clash : ByteArray := prog_9_method_19_code
def y_M_clash : MethodName := ⟨"DoorActsModel", "clash", "(II)I"⟩
abbrev b_M_tries : ByteArray := prog_9_method_20_code
def y_M_tries : MethodName := ⟨"DoorActsModel", "tries", "(I)I"⟩
abbrev b_M_tick : ByteArray := prog_9_method_21_code
def y_M_tick : MethodName := ⟨"DoorActsModel", "tick", "(J)I"⟩
abbrev b_M_slip : ByteArray := prog_9_method_22_code
def y_M_slip : MethodName := ⟨"DoorActsModel", "slip", "(II)I"⟩
abbrev b_M_cash : ByteArray := prog_9_method_23_code
def y_M_cash : MethodName := ⟨"DoorActsModel", "cash", "(IJ)I"⟩
abbrev b_M_state : ByteArray := prog_9_method_24_code
def y_M_state : MethodName := ⟨"DoorActsModel", "state", "(I)I"⟩
theorem i_D : ∀ w ∈ u_ws R_D T_D 5, w ∈ tb := by decide +kernel
theorem to_D : ∀ j, j < 5 → parseFieldDescriptor (T_D j).2.2.1 = some (t_D j) := by decide +kernel
theorem no_D : ∀ a, a < 5 → ∀ b, b < 5 → a ≠ b → (T_D a).2.1 ≠ (T_D b).2.1 := by decide +kernel
theorem i_A : ∀ w ∈ u_ws R_A T_A 6, w ∈ tb := by decide +kernel
theorem to_A : ∀ j, j < 6 → parseFieldDescriptor (T_A j).2.2.1 = some (t_A j) := by decide +kernel
theorem no_A : ∀ a, a < 6 → ∀ b, b < 6 → a ≠ b → (T_A a).2.1 ≠ (T_A b).2.1 := by decide +kernel
theorem i_C : ∀ w ∈ u_ws R_C T_C 3, w ∈ tb := by decide +kernel
theorem to_C : ∀ j, j < 3 → parseFieldDescriptor (T_C j).2.2.1 = some (t_C j) := by decide +kernel
theorem no_C : ∀ a, a < 3 → ∀ b, b < 3 → a ≠ b → (T_C a).2.1 ≠ (T_C b).2.1 := by decide +kernel
theorem i_N : ∀ w ∈ u_ws R_N T_N 2, w ∈ tb := by decide +kernel
theorem to_N : ∀ j, j < 2 → parseFieldDescriptor (T_N j).2.2.1 = some (t_N j) := by decide +kernel
theorem no_N : ∀ a, a < 2 → ∀ b, b < 2 → a ≠ b → (T_N a).2.1 ≠ (T_N b).2.1 := by decide +kernel
theorem i_V : ∀ w ∈ u_ws R_V T_V 4, w ∈ tb := by decide +kernel
theorem to_V : ∀ j, j < 4 → parseFieldDescriptor (T_V j).2.2.1 = some (t_V j) := by decide +kernel
theorem no_V : ∀ a, a < 4 → ∀ b, b < 4 → a ≠ b → (T_V a).2.1 ≠ (T_V b).2.1 := by decide +kernel
theorem i_F : ∀ w ∈ u_ws R_F T_F 11, w ∈ tb := by decide +kernel
theorem to_F : ∀ j, j < 11 → parseFieldDescriptor (T_F j).2.2.1 = some (t_F j) := by decide +kernel
theorem no_F : ∀ a, a < 11 → ∀ b, b < 11 → a ≠ b → (T_F a).2.1 ≠ (T_F b).2.1 := by decide +kernel
theorem i_I : ∀ w ∈ u_ws R_I T_I 5, w ∈ tb := by decide +kernel
theorem to_I : ∀ j, j < 5 → parseFieldDescriptor (T_I j).2.2.1 = some (t_I j) := by decide +kernel
theorem no_I : ∀ a, a < 5 → ∀ b, b < 5 → a ≠ b → (T_I a).2.1 ≠ (T_I b).2.1 := by decide +kernel
theorem i_L : ∀ w ∈ u_ws R_L T_L 3, w ∈ tb := by decide +kernel
theorem to_L : ∀ j, j < 3 → parseFieldDescriptor (T_L j).2.2.1 = some (t_L j) := by decide +kernel
theorem no_L : ∀ a, a < 3 → ∀ b, b < 3 → a ≠ b → (T_L a).2.1 ≠ (T_L b).2.1 := by decide +kernel
theorem i_M : ∀ w ∈ u_ws R_M T_M 34, w ∈ tb := by decide +kernel
theorem to_M : ∀ j, j < 34 → parseFieldDescriptor (T_M j).2.2.1 = some (t_M j) := by decide +kernel
theorem no_M : ∀ a, a < 34 → ∀ b, b < 34 → a ≠ b → (T_M a).2.1 ≠ (T_M b).2.1 := by decide +kernel
end
section
/-! decode rows, written by wip/whole/gennames.py -/
theorem d_O_init_0 : decode b_O_init 0 = .ok (.return_, 1) := by decide +kernel
theorem d_L_init_0 : decode b_L_init 0 = .ok (.aload_n 0, 1) := by decide +kernel
theorem d_L_init_1 : decode b_L_init 1 = .ok (.invokespecial 1, 3) := by decide +kernel
theorem d_L_init_4 : decode b_L_init 4 = .ok (.aload_n 0, 1) := by decide +kernel
theorem d_L_init_5 : decode b_L_init 5 = .ok (.getstatic 39, 3) := by decide +kernel
theorem d_L_init_8 : decode b_L_init 8 = .ok (.putfield 9, 3) := by decide +kernel
theorem d_L_init_11 : decode b_L_init 11 = .ok (.return_, 1) := by decide +kernel
theorem d_AL_init_0 : decode b_AL_init 0 = .ok (.aload_n 0, 1) := by decide +kernel
theorem d_AL_init_1 : decode b_AL_init 1 = .ok (.invokespecial 1, 3) := by decide +kernel
theorem d_AL_init_4 : decode b_AL_init 4 = .ok (.aload_n 0, 1) := by decide +kernel
theorem d_AL_init_5 : decode b_AL_init 5 = .ok (.iconst 0, 1) := by decide +kernel
theorem d_AL_init_6 : decode b_AL_init 6 = .ok (.putfield 7, 3) := by decide +kernel
theorem d_AL_init_9 : decode b_AL_init 9 = .ok (.return_, 1) := by decide +kernel
theorem d_AC_init_0 : decode b_AC_init 0 = .ok (.aload_n 0, 1) := by decide +kernel
theorem d_AC_init_1 : decode b_AC_init 1 = .ok (.invokespecial 1, 3) := by decide +kernel
theorem d_AC_init_4 : decode b_AC_init 4 = .ok (.return_, 1) := by decide +kernel
theorem d_L_size_0 : decode b_L_size 0 = .ok (.aload_n 0, 1) := by decide +kernel
theorem d_L_size_1 : decode b_L_size 1 = .ok (.getfield 48, 3) := by decide +kernel
theorem d_L_size_4 : decode b_L_size 4 = .ok (.ireturn, 1) := by decide +kernel
theorem d_L_add1_0 : decode b_L_add1 0 = .ok (.aload_n 0, 1) := by decide +kernel
theorem d_L_add1_1 : decode b_L_add1 1 = .ok (.dup, 1) := by decide +kernel
theorem d_L_add1_2 : decode b_L_add1 2 = .ok (.getfield 63, 3) := by decide +kernel
theorem d_L_add1_5 : decode b_L_add1 5 = .ok (.iconst 1, 1) := by decide +kernel
theorem d_L_add1_6 : decode b_L_add1 6 = .ok (.iadd, 1) := by decide +kernel
theorem d_L_add1_7 : decode b_L_add1 7 = .ok (.putfield 63, 3) := by decide +kernel
theorem d_L_add1_10 : decode b_L_add1 10 = .ok (.aload_n 0, 1) := by decide +kernel
theorem d_L_add1_11 : decode b_L_add1 11 = .ok (.aload_n 1, 1) := by decide +kernel
theorem d_L_add1_12 : decode b_L_add1 12 = .ok (.aload_n 0, 1) := by decide +kernel
theorem d_L_add1_13 : decode b_L_add1 13 = .ok (.getfield 9, 3) := by decide +kernel
theorem d_L_add1_16 : decode b_L_add1 16 = .ok (.aload_n 0, 1) := by decide +kernel
theorem d_L_add1_17 : decode b_L_add1 17 = .ok (.getfield 48, 3) := by decide +kernel
theorem d_L_add1_20 : decode b_L_add1 20 = .ok (.invokevirtual 131, 3) := by decide +kernel
theorem d_L_add1_23 : decode b_L_add1 23 = .ok (.iconst 1, 1) := by decide +kernel
theorem d_L_add1_24 : decode b_L_add1 24 = .ok (.ireturn, 1) := by decide +kernel
theorem d_L_add3_0 : decode b_L_add3 0 = .ok (.iload_n 3, 1) := by decide +kernel
theorem d_L_add3_1 : decode b_L_add3 1 = .ok (.aload_n 2, 1) := by decide +kernel
theorem d_L_add3_2 : decode b_L_add3 2 = .ok (.arraylength, 1) := by decide +kernel
theorem d_L_add3_3 : decode b_L_add3 3 = .ok (.if_icmp .ne 8, 3) := by decide +kernel
theorem d_L_add3_6 : decode b_L_add3 6 = .ok (.aload_n 0, 1) := by decide +kernel
theorem d_L_add3_7 : decode b_L_add3 7 = .ok (.invokevirtual 129, 3) := by decide +kernel
theorem d_L_add3_10 : decode b_L_add3 10 = .ok (.astore_n 2, 1) := by decide +kernel
theorem d_L_add3_11 : decode b_L_add3 11 = .ok (.aload_n 2, 1) := by decide +kernel
theorem d_L_add3_12 : decode b_L_add3 12 = .ok (.iload_n 3, 1) := by decide +kernel
theorem d_L_add3_13 : decode b_L_add3 13 = .ok (.aload_n 1, 1) := by decide +kernel
theorem d_L_add3_14 : decode b_L_add3 14 = .ok (.aastore, 1) := by decide +kernel
theorem d_L_add3_15 : decode b_L_add3 15 = .ok (.aload_n 0, 1) := by decide +kernel
theorem d_L_add3_16 : decode b_L_add3 16 = .ok (.iload_n 3, 1) := by decide +kernel
theorem d_L_add3_17 : decode b_L_add3 17 = .ok (.iconst 1, 1) := by decide +kernel
theorem d_L_add3_18 : decode b_L_add3 18 = .ok (.iadd, 1) := by decide +kernel
theorem d_L_add3_19 : decode b_L_add3 19 = .ok (.putfield 48, 3) := by decide +kernel
theorem d_L_add3_22 : decode b_L_add3 22 = .ok (.return_, 1) := by decide +kernel
theorem d_L_grow0_0 : decode b_L_grow0 0 = .ok (.aload_n 0, 1) := by decide +kernel
theorem d_L_grow0_1 : decode b_L_grow0 1 = .ok (.aload_n 0, 1) := by decide +kernel
theorem d_L_grow0_2 : decode b_L_grow0 2 = .ok (.getfield 48, 3) := by decide +kernel
theorem d_L_grow0_5 : decode b_L_grow0 5 = .ok (.iconst 1, 1) := by decide +kernel
theorem d_L_grow0_6 : decode b_L_grow0 6 = .ok (.iadd, 1) := by decide +kernel
theorem d_L_grow0_7 : decode b_L_grow0 7 = .ok (.invokevirtual 69, 3) := by decide +kernel
theorem d_L_grow0_10 : decode b_L_grow0 10 = .ok (.areturn, 1) := by decide +kernel
theorem d_L_grow1_0 : decode b_L_grow1 0 = .ok (.aload_n 0, 1) := by decide +kernel
theorem d_L_grow1_1 : decode b_L_grow1 1 = .ok (.getfield 9, 3) := by decide +kernel
theorem d_L_grow1_4 : decode b_L_grow1 4 = .ok (.arraylength, 1) := by decide +kernel
theorem d_L_grow1_5 : decode b_L_grow1 5 = .ok (.istore_n 2, 1) := by decide +kernel
theorem d_L_grow1_6 : decode b_L_grow1 6 = .ok (.iload_n 2, 1) := by decide +kernel
theorem d_L_grow1_7 : decode b_L_grow1 7 = .ok (.ifCond .gt 13, 3) := by decide +kernel
theorem d_L_grow1_10 : decode b_L_grow1 10 = .ok (.aload_n 0, 1) := by decide +kernel
theorem d_L_grow1_11 : decode b_L_grow1 11 = .ok (.getfield 9, 3) := by decide +kernel
theorem d_L_grow1_14 : decode b_L_grow1 14 = .ok (.getstatic 39, 3) := by decide +kernel
theorem d_L_grow1_17 : decode b_L_grow1 17 = .ok (.if_acmp .eq 28, 3) := by decide +kernel
theorem d_L_grow1_20 : decode b_L_grow1 20 = .ok (.iload_n 2, 1) := by decide +kernel
theorem d_L_grow1_21 : decode b_L_grow1 21 = .ok (.iload_n 1, 1) := by decide +kernel
theorem d_L_grow1_22 : decode b_L_grow1 22 = .ok (.iload_n 2, 1) := by decide +kernel
theorem d_L_grow1_23 : decode b_L_grow1 23 = .ok (.isub, 1) := by decide +kernel
theorem d_L_grow1_24 : decode b_L_grow1 24 = .ok (.iload_n 2, 1) := by decide +kernel
theorem d_L_grow1_25 : decode b_L_grow1 25 = .ok (.iconst 1, 1) := by decide +kernel
theorem d_L_grow1_26 : decode b_L_grow1 26 = .ok (.ishr, 1) := by decide +kernel
theorem d_L_grow1_27 : decode b_L_grow1 27 = .ok (.invokestatic 73, 3) := by decide +kernel
theorem d_L_grow1_30 : decode b_L_grow1 30 = .ok (.istore_n 3, 1) := by decide +kernel
theorem d_L_grow1_31 : decode b_L_grow1 31 = .ok (.aload_n 0, 1) := by decide +kernel
theorem d_L_grow1_32 : decode b_L_grow1 32 = .ok (.aload_n 0, 1) := by decide +kernel
theorem d_L_grow1_33 : decode b_L_grow1 33 = .ok (.getfield 9, 3) := by decide +kernel
theorem d_L_grow1_36 : decode b_L_grow1 36 = .ok (.iload_n 3, 1) := by decide +kernel
theorem d_L_grow1_37 : decode b_L_grow1 37 = .ok (.invokestatic 66, 3) := by decide +kernel
theorem d_L_grow1_40 : decode b_L_grow1 40 = .ok (.dup_x1, 1) := by decide +kernel
theorem d_L_grow1_41 : decode b_L_grow1 41 = .ok (.putfield 9, 3) := by decide +kernel
theorem d_L_grow1_44 : decode b_L_grow1 44 = .ok (.areturn, 1) := by decide +kernel
theorem d_L_grow1_45 : decode b_L_grow1 45 = .ok (.aload_n 0, 1) := by decide +kernel
theorem d_L_grow1_46 : decode b_L_grow1 46 = .ok (.bipush 10, 2) := by decide +kernel
theorem d_L_grow1_48 : decode b_L_grow1 48 = .ok (.iload_n 1, 1) := by decide +kernel
theorem d_L_grow1_49 : decode b_L_grow1 49 = .ok (.invokestatic 79, 3) := by decide +kernel
theorem d_L_grow1_52 : decode b_L_grow1 52 = .ok (.anewarray 7, 3) := by decide +kernel
theorem d_L_grow1_55 : decode b_L_grow1 55 = .ok (.dup_x1, 1) := by decide +kernel
theorem d_L_grow1_56 : decode b_L_grow1 56 = .ok (.putfield 9, 3) := by decide +kernel
theorem d_L_grow1_59 : decode b_L_grow1 59 = .ok (.areturn, 1) := by decide +kernel
theorem d_AS_newLength_0 : decode b_AS_newLength 0 = .ok (.iload_n 0, 1) := by decide +kernel
theorem d_AS_newLength_1 : decode b_AS_newLength 1 = .ok (.iload_n 1, 1) := by decide +kernel
theorem d_AS_newLength_2 : decode b_AS_newLength 2 = .ok (.iload_n 2, 1) := by decide +kernel
theorem d_AS_newLength_3 : decode b_AS_newLength 3 = .ok (.invokestatic 194, 3) := by decide +kernel
theorem d_AS_newLength_6 : decode b_AS_newLength 6 = .ok (.iadd, 1) := by decide +kernel
theorem d_AS_newLength_7 : decode b_AS_newLength 7 = .ok (.istore_n 3, 1) := by decide +kernel
theorem d_AS_newLength_8 : decode b_AS_newLength 8 = .ok (.iconst 0, 1) := by decide +kernel
theorem d_AS_newLength_9 : decode b_AS_newLength 9 = .ok (.iload_n 3, 1) := by decide +kernel
theorem d_AS_newLength_10 : decode b_AS_newLength 10 = .ok (.if_icmp .ge 11, 3) := by decide +kernel
theorem d_AS_newLength_13 : decode b_AS_newLength 13 = .ok (.iload_n 3, 1) := by decide +kernel
theorem d_AS_newLength_14 : decode b_AS_newLength 14 = .ok (.ldc 200, 2) := by decide +kernel
theorem d_AS_newLength_16 : decode b_AS_newLength 16 = .ok (.if_icmp .gt 5, 3) := by decide +kernel
theorem d_AS_newLength_19 : decode b_AS_newLength 19 = .ok (.iload_n 3, 1) := by decide +kernel
theorem d_AS_newLength_20 : decode b_AS_newLength 20 = .ok (.ireturn, 1) := by decide +kernel
theorem d_AS_newLength_21 : decode b_AS_newLength 21 = .ok (.iload_n 0, 1) := by decide +kernel
theorem d_AS_newLength_22 : decode b_AS_newLength 22 = .ok (.iload_n 1, 1) := by decide +kernel
theorem d_AS_newLength_23 : decode b_AS_newLength 23 = .ok (.invokestatic 201, 3) := by decide +kernel
theorem d_AS_newLength_26 : decode b_AS_newLength 26 = .ok (.ireturn, 1) := by decide +kernel
theorem d_Ma_max_0 : decode b_Ma_max 0 = .ok (.iload_n 0, 1) := by decide +kernel
theorem d_Ma_max_1 : decode b_Ma_max 1 = .ok (.iload_n 1, 1) := by decide +kernel
theorem d_Ma_max_2 : decode b_Ma_max 2 = .ok (.if_icmp .lt 7, 3) := by decide +kernel
theorem d_Ma_max_5 : decode b_Ma_max 5 = .ok (.iload_n 0, 1) := by decide +kernel
theorem d_Ma_max_6 : decode b_Ma_max 6 = .ok (.goto 4, 3) := by decide +kernel
theorem d_Ma_max_9 : decode b_Ma_max 9 = .ok (.iload_n 1, 1) := by decide +kernel
theorem d_Ma_max_10 : decode b_Ma_max 10 = .ok (.ireturn, 1) := by decide +kernel
theorem d_AS_hugeLength_0 : decode b_AS_hugeLength 0 = .ok (.iload_n 0, 1) := by decide +kernel
theorem d_AS_hugeLength_1 : decode b_AS_hugeLength 1 = .ok (.iload_n 1, 1) := by decide +kernel
theorem d_AS_hugeLength_2 : decode b_AS_hugeLength 2 = .ok (.iadd, 1) := by decide +kernel
theorem d_AS_hugeLength_3 : decode b_AS_hugeLength 3 = .ok (.istore_n 2, 1) := by decide +kernel
theorem d_AS_hugeLength_4 : decode b_AS_hugeLength 4 = .ok (.iload_n 2, 1) := by decide +kernel
theorem d_AS_hugeLength_5 : decode b_AS_hugeLength 5 = .ok (.ifCond .ge 44, 3) := by decide +kernel
theorem d_AS_hugeLength_8 : decode b_AS_hugeLength 8 = .ok (.new 204, 3) := by decide +kernel
theorem d_AS_hugeLength_11 : decode b_AS_hugeLength 11 = .ok (.dup, 1) := by decide +kernel
theorem d_AS_hugeLength_12 : decode b_AS_hugeLength 12 = .ok (.new 89, 3) := by decide +kernel
theorem d_AS_hugeLength_15 : decode b_AS_hugeLength 15 = .ok (.dup, 1) := by decide +kernel
theorem d_AS_hugeLength_16 : decode b_AS_hugeLength 16 = .ok (.invokespecial 91, 3) := by decide +kernel
theorem d_AS_hugeLength_19 : decode b_AS_hugeLength 19 = .ok (.ldc 206, 2) := by decide +kernel
theorem d_AS_hugeLength_21 : decode b_AS_hugeLength 21 = .ok (.invokevirtual 94, 3) := by decide +kernel
theorem d_AS_hugeLength_24 : decode b_AS_hugeLength 24 = .ok (.iload_n 0, 1) := by decide +kernel
theorem d_AS_hugeLength_25 : decode b_AS_hugeLength 25 = .ok (.invokevirtual 98, 3) := by decide +kernel
theorem d_AS_hugeLength_28 : decode b_AS_hugeLength 28 = .ok (.ldc 208, 2) := by decide +kernel
theorem d_AS_hugeLength_30 : decode b_AS_hugeLength 30 = .ok (.invokevirtual 94, 3) := by decide +kernel
theorem d_AS_hugeLength_33 : decode b_AS_hugeLength 33 = .ok (.iload_n 1, 1) := by decide +kernel
theorem d_AS_hugeLength_34 : decode b_AS_hugeLength 34 = .ok (.invokevirtual 98, 3) := by decide +kernel
theorem d_AS_hugeLength_37 : decode b_AS_hugeLength 37 = .ok (.ldc 210, 2) := by decide +kernel
theorem d_AS_hugeLength_39 : decode b_AS_hugeLength 39 = .ok (.invokevirtual 94, 3) := by decide +kernel
theorem d_AS_hugeLength_42 : decode b_AS_hugeLength 42 = .ok (.invokevirtual 101, 3) := by decide +kernel
theorem d_AS_hugeLength_45 : decode b_AS_hugeLength 45 = .ok (.invokespecial 212, 3) := by decide +kernel
theorem d_AS_hugeLength_48 : decode b_AS_hugeLength 48 = .ok (.athrow, 1) := by decide +kernel
theorem d_AS_hugeLength_49 : decode b_AS_hugeLength 49 = .ok (.iload_n 2, 1) := by decide +kernel
theorem d_AS_hugeLength_50 : decode b_AS_hugeLength 50 = .ok (.ldc 200, 2) := by decide +kernel
theorem d_AS_hugeLength_52 : decode b_AS_hugeLength 52 = .ok (.if_icmp .gt 6, 3) := by decide +kernel
theorem d_AS_hugeLength_55 : decode b_AS_hugeLength 55 = .ok (.ldc 200, 2) := by decide +kernel
theorem d_AS_hugeLength_57 : decode b_AS_hugeLength 57 = .ok (.ireturn, 1) := by decide +kernel
theorem d_AS_hugeLength_58 : decode b_AS_hugeLength 58 = .ok (.iload_n 2, 1) := by decide +kernel
theorem d_AS_hugeLength_59 : decode b_AS_hugeLength 59 = .ok (.ireturn, 1) := by decide +kernel
theorem d_Ar_copyOf2_0 : decode b_Ar_copyOf2 0 = .ok (.aload_n 0, 1) := by decide +kernel
theorem d_Ar_copyOf2_1 : decode b_Ar_copyOf2 1 = .ok (.iload_n 1, 1) := by decide +kernel
theorem d_Ar_copyOf2_2 : decode b_Ar_copyOf2 2 = .ok (.aload_n 0, 1) := by decide +kernel
theorem d_Ar_copyOf2_3 : decode b_Ar_copyOf2 3 = .ok (.invokevirtual 86, 3) := by decide +kernel
theorem d_Ar_copyOf2_6 : decode b_Ar_copyOf2 6 = .ok (.invokestatic 300, 3) := by decide +kernel
theorem d_Ar_copyOf2_9 : decode b_Ar_copyOf2 9 = .ok (.areturn, 1) := by decide +kernel
theorem d_Ar_copyOf3_0 : decode b_Ar_copyOf3 0 = .ok (.aload_n 2, 1) := by decide +kernel
theorem d_Ar_copyOf3_1 : decode b_Ar_copyOf3 1 = .ok (.ldc 110, 2) := by decide +kernel
theorem d_Ar_copyOf3_3 : decode b_Ar_copyOf3 3 = .ok (.if_acmp .ne 10, 3) := by decide +kernel
theorem d_Ar_copyOf3_6 : decode b_Ar_copyOf3 6 = .ok (.iload_n 1, 1) := by decide +kernel
theorem d_Ar_copyOf3_7 : decode b_Ar_copyOf3 7 = .ok (.anewarray 2, 3) := by decide +kernel
theorem d_Ar_copyOf3_10 : decode b_Ar_copyOf3 10 = .ok (.goto 14, 3) := by decide +kernel
theorem d_Ar_copyOf3_13 : decode b_Ar_copyOf3 13 = .ok (.aload_n 2, 1) := by decide +kernel
theorem d_Ar_copyOf3_14 : decode b_Ar_copyOf3 14 = .ok (.invokevirtual 90, 3) := by decide +kernel
theorem d_Ar_copyOf3_17 : decode b_Ar_copyOf3 17 = .ok (.iload_n 1, 1) := by decide +kernel
theorem d_Ar_copyOf3_18 : decode b_Ar_copyOf3 18 = .ok (.invokestatic 95, 3) := by decide +kernel
theorem d_Ar_copyOf3_21 : decode b_Ar_copyOf3 21 = .ok (.checkcast 110, 3) := by decide +kernel
theorem d_Ar_copyOf3_24 : decode b_Ar_copyOf3 24 = .ok (.astore_n 3, 1) := by decide +kernel
theorem d_Ar_copyOf3_25 : decode b_Ar_copyOf3 25 = .ok (.aload_n 0, 1) := by decide +kernel
theorem d_Ar_copyOf3_26 : decode b_Ar_copyOf3 26 = .ok (.iconst 0, 1) := by decide +kernel
theorem d_Ar_copyOf3_27 : decode b_Ar_copyOf3 27 = .ok (.aload_n 3, 1) := by decide +kernel
theorem d_Ar_copyOf3_28 : decode b_Ar_copyOf3 28 = .ok (.iconst 0, 1) := by decide +kernel
theorem d_Ar_copyOf3_29 : decode b_Ar_copyOf3 29 = .ok (.aload_n 0, 1) := by decide +kernel
theorem d_Ar_copyOf3_30 : decode b_Ar_copyOf3 30 = .ok (.arraylength, 1) := by decide +kernel
theorem d_Ar_copyOf3_31 : decode b_Ar_copyOf3 31 = .ok (.iload_n 1, 1) := by decide +kernel
theorem d_Ar_copyOf3_32 : decode b_Ar_copyOf3 32 = .ok (.invokestatic 304, 3) := by decide +kernel
theorem d_Ar_copyOf3_35 : decode b_Ar_copyOf3 35 = .ok (.invokestatic 150, 3) := by decide +kernel
theorem d_Ar_copyOf3_38 : decode b_Ar_copyOf3 38 = .ok (.aload_n 3, 1) := by decide +kernel
theorem d_Ar_copyOf3_39 : decode b_Ar_copyOf3 39 = .ok (.areturn, 1) := by decide +kernel
theorem d_Ma_min_0 : decode b_Ma_min 0 = .ok (.iload_n 0, 1) := by decide +kernel
theorem d_Ma_min_1 : decode b_Ma_min 1 = .ok (.iload_n 1, 1) := by decide +kernel
theorem d_Ma_min_2 : decode b_Ma_min 2 = .ok (.if_icmp .gt 7, 3) := by decide +kernel
theorem d_Ma_min_5 : decode b_Ma_min 5 = .ok (.iload_n 0, 1) := by decide +kernel
theorem d_Ma_min_6 : decode b_Ma_min 6 = .ok (.goto 4, 3) := by decide +kernel
theorem d_Ma_min_9 : decode b_Ma_min 9 = .ok (.iload_n 1, 1) := by decide +kernel
theorem d_Ma_min_10 : decode b_Ma_min 10 = .ok (.ireturn, 1) := by decide +kernel
theorem d_L_get_0 : decode b_L_get 0 = .ok (.iload_n 1, 1) := by decide +kernel
theorem d_L_get_1 : decode b_L_get 1 = .ok (.aload_n 0, 1) := by decide +kernel
theorem d_L_get_2 : decode b_L_get 2 = .ok (.getfield 48, 3) := by decide +kernel
theorem d_L_get_5 : decode b_L_get 5 = .ok (.invokestatic 118, 3) := by decide +kernel
theorem d_L_get_8 : decode b_L_get 8 = .ok (.pop, 1) := by decide +kernel
theorem d_L_get_9 : decode b_L_get 9 = .ok (.aload_n 0, 1) := by decide +kernel
theorem d_L_get_10 : decode b_L_get 10 = .ok (.iload_n 1, 1) := by decide +kernel
theorem d_L_get_11 : decode b_L_get 11 = .ok (.invokevirtual 123, 3) := by decide +kernel
theorem d_L_get_14 : decode b_L_get 14 = .ok (.areturn, 1) := by decide +kernel
theorem d_Ob_checkIndex_0 : decode b_Ob_checkIndex 0 = .ok (.iload_n 0, 1) := by decide +kernel
theorem d_Ob_checkIndex_1 : decode b_Ob_checkIndex 1 = .ok (.iload_n 1, 1) := by decide +kernel
theorem d_Ob_checkIndex_2 : decode b_Ob_checkIndex 2 = .ok (.aconst_null, 1) := by decide +kernel
theorem d_Ob_checkIndex_3 : decode b_Ob_checkIndex 3 = .ok (.invokestatic 105, 3) := by decide +kernel
theorem d_Ob_checkIndex_6 : decode b_Ob_checkIndex 6 = .ok (.ireturn, 1) := by decide +kernel
theorem d_P_checkIndex_0 : decode b_P_checkIndex 0 = .ok (.iload_n 0, 1) := by decide +kernel
theorem d_P_checkIndex_1 : decode b_P_checkIndex 1 = .ok (.ifCond .lt 8, 3) := by decide +kernel
theorem d_P_checkIndex_4 : decode b_P_checkIndex 4 = .ok (.iload_n 0, 1) := by decide +kernel
theorem d_P_checkIndex_5 : decode b_P_checkIndex 5 = .ok (.iload_n 1, 1) := by decide +kernel
theorem d_P_checkIndex_6 : decode b_P_checkIndex 6 = .ok (.if_icmp .lt 10, 3) := by decide +kernel
theorem d_P_checkIndex_9 : decode b_P_checkIndex 9 = .ok (.aload_n 2, 1) := by decide +kernel
theorem d_P_checkIndex_10 : decode b_P_checkIndex 10 = .ok (.iload_n 0, 1) := by decide +kernel
theorem d_P_checkIndex_11 : decode b_P_checkIndex 11 = .ok (.iload_n 1, 1) := by decide +kernel
theorem d_P_checkIndex_12 : decode b_P_checkIndex 12 = .ok (.invokestatic 95, 3) := by decide +kernel
theorem d_P_checkIndex_15 : decode b_P_checkIndex 15 = .ok (.athrow, 1) := by decide +kernel
theorem d_P_checkIndex_16 : decode b_P_checkIndex 16 = .ok (.iload_n 0, 1) := by decide +kernel
theorem d_P_checkIndex_17 : decode b_P_checkIndex 17 = .ok (.ireturn, 1) := by decide +kernel
theorem d_L_elementData_0 : decode b_L_elementData 0 = .ok (.aload_n 0, 1) := by decide +kernel
theorem d_L_elementData_1 : decode b_L_elementData 1 = .ok (.getfield 9, 3) := by decide +kernel
theorem d_L_elementData_4 : decode b_L_elementData 4 = .ok (.iload_n 1, 1) := by decide +kernel
theorem d_L_elementData_5 : decode b_L_elementData 5 = .ok (.aaload, 1) := by decide +kernel
theorem d_L_elementData_6 : decode b_L_elementData 6 = .ok (.areturn, 1) := by decide +kernel
theorem d_L_clear_0 : decode b_L_clear 0 = .ok (.aload_n 0, 1) := by decide +kernel
theorem d_L_clear_1 : decode b_L_clear 1 = .ok (.dup, 1) := by decide +kernel
theorem d_L_clear_2 : decode b_L_clear 2 = .ok (.getfield 63, 3) := by decide +kernel
theorem d_L_clear_5 : decode b_L_clear 5 = .ok (.iconst 1, 1) := by decide +kernel
theorem d_L_clear_6 : decode b_L_clear 6 = .ok (.iadd, 1) := by decide +kernel
theorem d_L_clear_7 : decode b_L_clear 7 = .ok (.putfield 63, 3) := by decide +kernel
theorem d_L_clear_10 : decode b_L_clear 10 = .ok (.aload_n 0, 1) := by decide +kernel
theorem d_L_clear_11 : decode b_L_clear 11 = .ok (.getfield 9, 3) := by decide +kernel
theorem d_L_clear_14 : decode b_L_clear 14 = .ok (.astore_n 1, 1) := by decide +kernel
theorem d_L_clear_15 : decode b_L_clear 15 = .ok (.aload_n 0, 1) := by decide +kernel
theorem d_L_clear_16 : decode b_L_clear 16 = .ok (.getfield 48, 3) := by decide +kernel
theorem d_L_clear_19 : decode b_L_clear 19 = .ok (.istore_n 2, 1) := by decide +kernel
theorem d_L_clear_20 : decode b_L_clear 20 = .ok (.aload_n 0, 1) := by decide +kernel
theorem d_L_clear_21 : decode b_L_clear 21 = .ok (.iconst 0, 1) := by decide +kernel
theorem d_L_clear_22 : decode b_L_clear 22 = .ok (.dup_x1, 1) := by decide +kernel
theorem d_L_clear_23 : decode b_L_clear 23 = .ok (.putfield 48, 3) := by decide +kernel
theorem d_L_clear_26 : decode b_L_clear 26 = .ok (.istore_n 3, 1) := by decide +kernel
theorem d_L_clear_27 : decode b_L_clear 27 = .ok (.iload_n 3, 1) := by decide +kernel
theorem d_L_clear_28 : decode b_L_clear 28 = .ok (.iload_n 2, 1) := by decide +kernel
theorem d_L_clear_29 : decode b_L_clear 29 = .ok (.if_icmp .ge 13, 3) := by decide +kernel
theorem d_L_clear_32 : decode b_L_clear 32 = .ok (.aload_n 1, 1) := by decide +kernel
theorem d_L_clear_33 : decode b_L_clear 33 = .ok (.iload_n 3, 1) := by decide +kernel
theorem d_L_clear_34 : decode b_L_clear 34 = .ok (.aconst_null, 1) := by decide +kernel
theorem d_L_clear_35 : decode b_L_clear 35 = .ok (.aastore, 1) := by decide +kernel
theorem d_L_clear_36 : decode b_L_clear 36 = .ok (.iinc 3 1, 3) := by decide +kernel
theorem d_L_clear_39 : decode b_L_clear 39 = .ok (.goto (-12), 3) := by decide +kernel
theorem d_L_clear_42 : decode b_L_clear 42 = .ok (.return_, 1) := by decide +kernel
end
section
/-! decode rows, written by wip/whole/gennames.py -/
theorem d_D_init_0 : decode b_D_init 0 = .ok (.aload_n 0, 1) := by decide +kernel
theorem d_D_init_1 : decode b_D_init 1 = .ok (.invokespecial 3, 3) := by decide +kernel
theorem d_D_init_4 : decode b_D_init 4 = .ok (.aload_n 0, 1) := by decide +kernel
theorem d_D_init_5 : decode b_D_init 5 = .ok (.new 9, 3) := by decide +kernel
theorem d_D_init_8 : decode b_D_init 8 = .ok (.dup, 1) := by decide +kernel
theorem d_D_init_9 : decode b_D_init 9 = .ok (.invokespecial 11, 3) := by decide +kernel
theorem d_D_init_12 : decode b_D_init 12 = .ok (.putfield 12, 3) := by decide +kernel
theorem d_D_init_15 : decode b_D_init 15 = .ok (.aload_n 0, 1) := by decide +kernel
theorem d_D_init_16 : decode b_D_init 16 = .ok (.new 9, 3) := by decide +kernel
theorem d_D_init_19 : decode b_D_init 19 = .ok (.dup, 1) := by decide +kernel
theorem d_D_init_20 : decode b_D_init 20 = .ok (.invokespecial 11, 3) := by decide +kernel
theorem d_D_init_23 : decode b_D_init 23 = .ok (.putfield 16, 3) := by decide +kernel
theorem d_D_init_26 : decode b_D_init 26 = .ok (.aload_n 0, 1) := by decide +kernel
theorem d_D_init_27 : decode b_D_init 27 = .ok (.new 19, 3) := by decide +kernel
theorem d_D_init_30 : decode b_D_init 30 = .ok (.dup, 1) := by decide +kernel
theorem d_D_init_31 : decode b_D_init 31 = .ok (.invokespecial 21, 3) := by decide +kernel
theorem d_D_init_34 : decode b_D_init 34 = .ok (.putfield 22, 3) := by decide +kernel
theorem d_D_init_37 : decode b_D_init 37 = .ok (.aload_n 0, 1) := by decide +kernel
theorem d_D_init_38 : decode b_D_init 38 = .ok (.bipush 8, 2) := by decide +kernel
theorem d_D_init_40 : decode b_D_init 40 = .ok (.anewarray 26, 3) := by decide +kernel
theorem d_D_init_43 : decode b_D_init 43 = .ok (.putfield 28, 3) := by decide +kernel
theorem d_D_init_46 : decode b_D_init 46 = .ok (.aload_n 0, 1) := by decide +kernel
theorem d_D_init_47 : decode b_D_init 47 = .ok (.lconst 0, 1) := by decide +kernel
theorem d_D_init_48 : decode b_D_init 48 = .ok (.putfield 32, 3) := by decide +kernel
theorem d_D_init_51 : decode b_D_init 51 = .ok (.iconst 0, 1) := by decide +kernel
theorem d_D_init_52 : decode b_D_init 52 = .ok (.istore_n 1, 1) := by decide +kernel
theorem d_D_init_53 : decode b_D_init 53 = .ok (.iload_n 1, 1) := by decide +kernel
theorem d_D_init_54 : decode b_D_init 54 = .ok (.bipush 8, 2) := by decide +kernel
theorem d_D_init_56 : decode b_D_init 56 = .ok (.if_icmp .ge 22, 3) := by decide +kernel
theorem d_D_init_59 : decode b_D_init 59 = .ok (.aload_n 0, 1) := by decide +kernel
theorem d_D_init_60 : decode b_D_init 60 = .ok (.getfield 28, 3) := by decide +kernel
theorem d_D_init_63 : decode b_D_init 63 = .ok (.iload_n 1, 1) := by decide +kernel
theorem d_D_init_64 : decode b_D_init 64 = .ok (.new 26, 3) := by decide +kernel
theorem d_D_init_67 : decode b_D_init 67 = .ok (.dup, 1) := by decide +kernel
theorem d_D_init_68 : decode b_D_init 68 = .ok (.invokespecial 36, 3) := by decide +kernel
theorem d_D_init_71 : decode b_D_init 71 = .ok (.aastore, 1) := by decide +kernel
theorem d_D_init_72 : decode b_D_init 72 = .ok (.iinc 1 1, 3) := by decide +kernel
theorem d_D_init_75 : decode b_D_init 75 = .ok (.goto (-22), 3) := by decide +kernel
theorem d_D_init_78 : decode b_D_init 78 = .ok (.return_, 1) := by decide +kernel
theorem d_N_init_0 : decode b_N_init 0 = .ok (.aload_n 0, 1) := by decide +kernel
theorem d_N_init_1 : decode b_N_init 1 = .ok (.invokespecial 3, 3) := by decide +kernel
theorem d_N_init_4 : decode b_N_init 4 = .ok (.aload_n 0, 1) := by decide +kernel
theorem d_N_init_5 : decode b_N_init 5 = .ok (.bipush 100, 2) := by decide +kernel
theorem d_N_init_7 : decode b_N_init 7 = .ok (.newarray .int, 2) := by decide +kernel
theorem d_N_init_9 : decode b_N_init 9 = .ok (.putfield 9, 3) := by decide +kernel
theorem d_N_init_12 : decode b_N_init 12 = .ok (.aload_n 0, 1) := by decide +kernel
theorem d_N_init_13 : decode b_N_init 13 = .ok (.iconst 0, 1) := by decide +kernel
theorem d_N_init_14 : decode b_N_init 14 = .ok (.putfield 15, 3) := by decide +kernel
theorem d_N_init_17 : decode b_N_init 17 = .ok (.return_, 1) := by decide +kernel
theorem d_V_init_0 : decode b_V_init 0 = .ok (.aload_n 0, 1) := by decide +kernel
theorem d_V_init_1 : decode b_V_init 1 = .ok (.invokespecial 1, 3) := by decide +kernel
theorem d_V_init_4 : decode b_V_init 4 = .ok (.aload_n 0, 1) := by decide +kernel
theorem d_V_init_5 : decode b_V_init 5 = .ok (.iconst 0, 1) := by decide +kernel
theorem d_V_init_6 : decode b_V_init 6 = .ok (.putfield 7, 3) := by decide +kernel
theorem d_V_init_9 : decode b_V_init 9 = .ok (.aload_n 0, 1) := by decide +kernel
theorem d_V_init_10 : decode b_V_init 10 = .ok (.lconst 0, 1) := by decide +kernel
theorem d_V_init_11 : decode b_V_init 11 = .ok (.putfield 13, 3) := by decide +kernel
theorem d_V_init_14 : decode b_V_init 14 = .ok (.aload_n 0, 1) := by decide +kernel
theorem d_V_init_15 : decode b_V_init 15 = .ok (.new 17, 3) := by decide +kernel
theorem d_V_init_18 : decode b_V_init 18 = .ok (.dup, 1) := by decide +kernel
theorem d_V_init_19 : decode b_V_init 19 = .ok (.invokespecial 19, 3) := by decide +kernel
theorem d_V_init_22 : decode b_V_init 22 = .ok (.putfield 20, 3) := by decide +kernel
theorem d_V_init_25 : decode b_V_init 25 = .ok (.aload_n 0, 1) := by decide +kernel
theorem d_V_init_26 : decode b_V_init 26 = .ok (.new 17, 3) := by decide +kernel
theorem d_V_init_29 : decode b_V_init 29 = .ok (.dup, 1) := by decide +kernel
theorem d_V_init_30 : decode b_V_init 30 = .ok (.invokespecial 19, 3) := by decide +kernel
theorem d_V_init_33 : decode b_V_init 33 = .ok (.putfield 24, 3) := by decide +kernel
theorem d_V_init_36 : decode b_V_init 36 = .ok (.return_, 1) := by decide +kernel
theorem d_D_item_0 : decode b_D_item 0 = .ok (.iload_n 1, 1) := by decide +kernel
theorem d_D_item_1 : decode b_D_item 1 = .ok (.ifCond .lt 15, 3) := by decide +kernel
theorem d_D_item_4 : decode b_D_item 4 = .ok (.iload_n 1, 1) := by decide +kernel
theorem d_D_item_5 : decode b_D_item 5 = .ok (.iconst 5, 1) := by decide +kernel
theorem d_D_item_6 : decode b_D_item 6 = .ok (.if_icmp .gt 10, 3) := by decide +kernel
theorem d_D_item_9 : decode b_D_item 9 = .ok (.iload_n 2, 1) := by decide +kernel
theorem d_D_item_10 : decode b_D_item 10 = .ok (.invokestatic 37, 3) := by decide +kernel
theorem d_D_item_13 : decode b_D_item 13 = .ok (.ifCond .ne 6, 3) := by decide +kernel
theorem d_D_item_16 : decode b_D_item 16 = .ok (.bipush (-12), 2) := by decide +kernel
theorem d_D_item_18 : decode b_D_item 18 = .ok (.ireturn, 1) := by decide +kernel
theorem d_D_item_19 : decode b_D_item 19 = .ok (.aload_n 0, 1) := by decide +kernel
theorem d_D_item_20 : decode b_D_item 20 = .ok (.getfield 12, 3) := by decide +kernel
theorem d_D_item_23 : decode b_D_item 23 = .ok (.invokevirtual 41, 3) := by decide +kernel
theorem d_D_item_26 : decode b_D_item 26 = .ok (.bipush 60, 2) := by decide +kernel
theorem d_D_item_28 : decode b_D_item 28 = .ok (.if_icmp .lt 6, 3) := by decide +kernel
theorem d_D_item_31 : decode b_D_item 31 = .ok (.bipush (-14), 2) := by decide +kernel
theorem d_D_item_33 : decode b_D_item 33 = .ok (.ireturn, 1) := by decide +kernel
theorem d_D_item_34 : decode b_D_item 34 = .ok (.aload_n 0, 1) := by decide +kernel
theorem d_D_item_35 : decode b_D_item 35 = .ok (.getfield 12, 3) := by decide +kernel
theorem d_D_item_38 : decode b_D_item 38 = .ok (.new 45, 3) := by decide +kernel
theorem d_D_item_41 : decode b_D_item 41 = .ok (.dup, 1) := by decide +kernel
theorem d_D_item_42 : decode b_D_item 42 = .ok (.aload_n 0, 1) := by decide +kernel
theorem d_D_item_43 : decode b_D_item 43 = .ok (.getfield 12, 3) := by decide +kernel
theorem d_D_item_46 : decode b_D_item 46 = .ok (.invokevirtual 41, 3) := by decide +kernel
theorem d_D_item_49 : decode b_D_item 49 = .ok (.iconst 1, 1) := by decide +kernel
theorem d_D_item_50 : decode b_D_item 50 = .ok (.iadd, 1) := by decide +kernel
theorem d_D_item_51 : decode b_D_item 51 = .ok (.iload_n 1, 1) := by decide +kernel
theorem d_D_item_52 : decode b_D_item 52 = .ok (.iload_n 2, 1) := by decide +kernel
theorem d_D_item_53 : decode b_D_item 53 = .ok (.invokespecial 47, 3) := by decide +kernel
theorem d_D_item_56 : decode b_D_item 56 = .ok (.invokevirtual 50, 3) := by decide +kernel
theorem d_D_item_59 : decode b_D_item 59 = .ok (.pop, 1) := by decide +kernel
theorem d_D_item_60 : decode b_D_item 60 = .ok (.aload_n 0, 1) := by decide +kernel
theorem d_D_item_61 : decode b_D_item 61 = .ok (.getfield 12, 3) := by decide +kernel
theorem d_D_item_64 : decode b_D_item 64 = .ok (.invokevirtual 41, 3) := by decide +kernel
theorem d_D_item_67 : decode b_D_item 67 = .ok (.ireturn, 1) := by decide +kernel
theorem d_D_isPerson_0 : decode b_D_isPerson 0 = .ok (.iload_n 0, 1) := by decide +kernel
theorem d_D_isPerson_1 : decode b_D_isPerson 1 = .ok (.ifCond .lt 13, 3) := by decide +kernel
theorem d_D_isPerson_4 : decode b_D_isPerson 4 = .ok (.iload_n 0, 1) := by decide +kernel
theorem d_D_isPerson_5 : decode b_D_isPerson 5 = .ok (.bipush 100, 2) := by decide +kernel
theorem d_D_isPerson_7 : decode b_D_isPerson 7 = .ok (.if_icmp .ge 7, 3) := by decide +kernel
theorem d_D_isPerson_10 : decode b_D_isPerson 10 = .ok (.iconst 1, 1) := by decide +kernel
theorem d_D_isPerson_11 : decode b_D_isPerson 11 = .ok (.goto 4, 3) := by decide +kernel
theorem d_D_isPerson_14 : decode b_D_isPerson 14 = .ok (.iconst 0, 1) := by decide +kernel
theorem d_D_isPerson_15 : decode b_D_isPerson 15 = .ok (.ireturn, 1) := by decide +kernel
theorem d_I_init_0 : decode b_I_init 0 = .ok (.aload_n 0, 1) := by decide +kernel
theorem d_I_init_1 : decode b_I_init 1 = .ok (.invokespecial 3, 3) := by decide +kernel
theorem d_I_init_4 : decode b_I_init 4 = .ok (.aload_n 0, 1) := by decide +kernel
theorem d_I_init_5 : decode b_I_init 5 = .ok (.new 9, 3) := by decide +kernel
theorem d_I_init_8 : decode b_I_init 8 = .ok (.dup, 1) := by decide +kernel
theorem d_I_init_9 : decode b_I_init 9 = .ok (.invokespecial 11, 3) := by decide +kernel
theorem d_I_init_12 : decode b_I_init 12 = .ok (.putfield 12, 3) := by decide +kernel
theorem d_I_init_15 : decode b_I_init 15 = .ok (.aload_n 0, 1) := by decide +kernel
theorem d_I_init_16 : decode b_I_init 16 = .ok (.iload_n 1, 1) := by decide +kernel
theorem d_I_init_17 : decode b_I_init 17 = .ok (.putfield 18, 3) := by decide +kernel
theorem d_I_init_20 : decode b_I_init 20 = .ok (.aload_n 0, 1) := by decide +kernel
theorem d_I_init_21 : decode b_I_init 21 = .ok (.iload_n 2, 1) := by decide +kernel
theorem d_I_init_22 : decode b_I_init 22 = .ok (.putfield 22, 3) := by decide +kernel
theorem d_I_init_25 : decode b_I_init 25 = .ok (.aload_n 0, 1) := by decide +kernel
theorem d_I_init_26 : decode b_I_init 26 = .ok (.iload_n 3, 1) := by decide +kernel
theorem d_I_init_27 : decode b_I_init 27 = .ok (.putfield 25, 3) := by decide +kernel
theorem d_I_init_30 : decode b_I_init 30 = .ok (.aload_n 0, 1) := by decide +kernel
theorem d_I_init_31 : decode b_I_init 31 = .ok (.iload_n 2, 1) := by decide +kernel
theorem d_I_init_32 : decode b_I_init 32 = .ok (.iconst 5, 1) := by decide +kernel
theorem d_I_init_33 : decode b_I_init 33 = .ok (.if_icmp .ne 16, 3) := by decide +kernel
theorem d_I_init_36 : decode b_I_init 36 = .ok (.sipush 250, 3) := by decide +kernel
theorem d_I_init_39 : decode b_I_init 39 = .ok (.iconst 1, 1) := by decide +kernel
theorem d_I_init_40 : decode b_I_init 40 = .ok (.iload_n 1, 1) := by decide +kernel
theorem d_I_init_41 : decode b_I_init 41 = .ok (.bipush 7, 2) := by decide +kernel
theorem d_I_init_43 : decode b_I_init 43 = .ok (.irem, 1) := by decide +kernel
theorem d_I_init_44 : decode b_I_init 44 = .ok (.iadd, 1) := by decide +kernel
theorem d_I_init_45 : decode b_I_init 45 = .ok (.imul, 1) := by decide +kernel
theorem d_I_init_46 : decode b_I_init 46 = .ok (.goto 4, 3) := by decide +kernel
theorem d_I_init_49 : decode b_I_init 49 = .ok (.iconst 0, 1) := by decide +kernel
theorem d_I_init_50 : decode b_I_init 50 = .ok (.putfield 28, 3) := by decide +kernel
theorem d_I_init_53 : decode b_I_init 53 = .ok (.return_, 1) := by decide +kernel
theorem d_F_init_0 : decode b_F_init 0 = .ok (.aload_n 0, 1) := by decide +kernel
theorem d_F_init_1 : decode b_F_init 1 = .ok (.invokespecial 3, 3) := by decide +kernel
theorem d_F_init_4 : decode b_F_init 4 = .ok (.aload_n 0, 1) := by decide +kernel
theorem d_F_init_5 : decode b_F_init 5 = .ok (.iconst 0, 1) := by decide +kernel
theorem d_F_init_6 : decode b_F_init 6 = .ok (.putfield 9, 3) := by decide +kernel
theorem d_F_init_9 : decode b_F_init 9 = .ok (.aload_n 0, 1) := by decide +kernel
theorem d_F_init_10 : decode b_F_init 10 = .ok (.iconst 0, 1) := by decide +kernel
theorem d_F_init_11 : decode b_F_init 11 = .ok (.putfield 15, 3) := by decide +kernel
theorem d_F_init_14 : decode b_F_init 14 = .ok (.aload_n 0, 1) := by decide +kernel
theorem d_F_init_15 : decode b_F_init 15 = .ok (.iconst 0, 1) := by decide +kernel
theorem d_F_init_16 : decode b_F_init 16 = .ok (.putfield 18, 3) := by decide +kernel
theorem d_F_init_19 : decode b_F_init 19 = .ok (.aload_n 0, 1) := by decide +kernel
theorem d_F_init_20 : decode b_F_init 20 = .ok (.iconst 0, 1) := by decide +kernel
theorem d_F_init_21 : decode b_F_init 21 = .ok (.putfield 22, 3) := by decide +kernel
theorem d_F_init_24 : decode b_F_init 24 = .ok (.aload_n 0, 1) := by decide +kernel
theorem d_F_init_25 : decode b_F_init 25 = .ok (.iconst 0, 1) := by decide +kernel
theorem d_F_init_26 : decode b_F_init 26 = .ok (.putfield 25, 3) := by decide +kernel
theorem d_F_init_29 : decode b_F_init 29 = .ok (.aload_n 0, 1) := by decide +kernel
theorem d_F_init_30 : decode b_F_init 30 = .ok (.iconst 0, 1) := by decide +kernel
theorem d_F_init_31 : decode b_F_init 31 = .ok (.putfield 28, 3) := by decide +kernel
theorem d_F_init_34 : decode b_F_init 34 = .ok (.aload_n 0, 1) := by decide +kernel
theorem d_F_init_35 : decode b_F_init 35 = .ok (.iconst (-1), 1) := by decide +kernel
theorem d_F_init_36 : decode b_F_init 36 = .ok (.putfield 31, 3) := by decide +kernel
theorem d_F_init_39 : decode b_F_init 39 = .ok (.aload_n 0, 1) := by decide +kernel
theorem d_F_init_40 : decode b_F_init 40 = .ok (.iconst 0, 1) := by decide +kernel
theorem d_F_init_41 : decode b_F_init 41 = .ok (.putfield 34, 3) := by decide +kernel
theorem d_F_init_44 : decode b_F_init 44 = .ok (.aload_n 0, 1) := by decide +kernel
theorem d_F_init_45 : decode b_F_init 45 = .ok (.iconst (-1), 1) := by decide +kernel
theorem d_F_init_46 : decode b_F_init 46 = .ok (.putfield 37, 3) := by decide +kernel
theorem d_F_init_49 : decode b_F_init 49 = .ok (.aload_n 0, 1) := by decide +kernel
theorem d_F_init_50 : decode b_F_init 50 = .ok (.iconst 0, 1) := by decide +kernel
theorem d_F_init_51 : decode b_F_init 51 = .ok (.putfield 40, 3) := by decide +kernel
theorem d_F_init_54 : decode b_F_init 54 = .ok (.aload_n 0, 1) := by decide +kernel
theorem d_F_init_55 : decode b_F_init 55 = .ok (.iconst (-1), 1) := by decide +kernel
theorem d_F_init_56 : decode b_F_init 56 = .ok (.putfield 43, 3) := by decide +kernel
theorem d_F_init_59 : decode b_F_init 59 = .ok (.return_, 1) := by decide +kernel
theorem d_D_consent_0 : decode b_D_consent 0 = .ok (.iload_n 1, 1) := by decide +kernel
theorem d_D_consent_1 : decode b_D_consent 1 = .ok (.invokestatic 37, 3) := by decide +kernel
theorem d_D_consent_4 : decode b_D_consent 4 = .ok (.ifCond .eq 12, 3) := by decide +kernel
theorem d_D_consent_7 : decode b_D_consent 7 = .ok (.iload_n 2, 1) := by decide +kernel
theorem d_D_consent_8 : decode b_D_consent 8 = .ok (.ifCond .lt 8, 3) := by decide +kernel
theorem d_D_consent_11 : decode b_D_consent 11 = .ok (.iload_n 2, 1) := by decide +kernel
theorem d_D_consent_12 : decode b_D_consent 12 = .ok (.iconst 2, 1) := by decide +kernel
theorem d_D_consent_13 : decode b_D_consent 13 = .ok (.if_icmp .le 6, 3) := by decide +kernel
theorem d_D_consent_16 : decode b_D_consent 16 = .ok (.bipush (-12), 2) := by decide +kernel
theorem d_D_consent_18 : decode b_D_consent 18 = .ok (.ireturn, 1) := by decide +kernel
theorem d_D_consent_19 : decode b_D_consent 19 = .ok (.iload_n 2, 1) := by decide +kernel
theorem d_D_consent_20 : decode b_D_consent 20 = .ok (.iconst 2, 1) := by decide +kernel
theorem d_D_consent_21 : decode b_D_consent 21 = .ok (.if_icmp .ne 14, 3) := by decide +kernel
theorem d_D_consent_24 : decode b_D_consent 24 = .ok (.aload_n 0, 1) := by decide +kernel
theorem d_D_consent_25 : decode b_D_consent 25 = .ok (.getfield 22, 3) := by decide +kernel
theorem d_D_consent_28 : decode b_D_consent 28 = .ok (.iload_n 1, 1) := by decide +kernel
theorem d_D_consent_29 : decode b_D_consent 29 = .ok (.iconst 2, 1) := by decide +kernel
theorem d_D_consent_30 : decode b_D_consent 30 = .ok (.iconst (-1), 1) := by decide +kernel
theorem d_D_consent_31 : decode b_D_consent 31 = .ok (.invokevirtual 54, 3) := by decide +kernel
theorem d_D_consent_34 : decode b_D_consent 34 = .ok (.ireturn, 1) := by decide +kernel
theorem d_D_consent_35 : decode b_D_consent 35 = .ok (.iload_n 3, 1) := by decide +kernel
theorem d_D_consent_36 : decode b_D_consent 36 = .ok (.invokestatic 37, 3) := by decide +kernel
theorem d_D_consent_39 : decode b_D_consent 39 = .ok (.ifCond .ne 6, 3) := by decide +kernel
theorem d_D_consent_42 : decode b_D_consent 42 = .ok (.bipush (-12), 2) := by decide +kernel
theorem d_D_consent_44 : decode b_D_consent 44 = .ok (.ireturn, 1) := by decide +kernel
theorem d_D_consent_45 : decode b_D_consent 45 = .ok (.iload_n 3, 1) := by decide +kernel
theorem d_D_consent_46 : decode b_D_consent 46 = .ok (.iload_n 1, 1) := by decide +kernel
theorem d_D_consent_47 : decode b_D_consent 47 = .ok (.if_icmp .ne 8, 3) := by decide +kernel
theorem d_D_consent_50 : decode b_D_consent 50 = .ok (.bipush (-13), 2) := by decide +kernel
theorem d_D_consent_52 : decode b_D_consent 52 = .ok (.goto 13, 3) := by decide +kernel
theorem d_D_consent_55 : decode b_D_consent 55 = .ok (.aload_n 0, 1) := by decide +kernel
theorem d_D_consent_56 : decode b_D_consent 56 = .ok (.getfield 22, 3) := by decide +kernel
theorem d_D_consent_59 : decode b_D_consent 59 = .ok (.iload_n 1, 1) := by decide +kernel
theorem d_D_consent_60 : decode b_D_consent 60 = .ok (.iload_n 2, 1) := by decide +kernel
theorem d_D_consent_61 : decode b_D_consent 61 = .ok (.iload_n 3, 1) := by decide +kernel
theorem d_D_consent_62 : decode b_D_consent 62 = .ok (.invokevirtual 54, 3) := by decide +kernel
theorem d_D_consent_65 : decode b_D_consent 65 = .ok (.ireturn, 1) := by decide +kernel
theorem d_N_turn_0 : decode b_N_turn 0 = .ok (.iload_n 1, 1) := by decide +kernel
theorem d_N_turn_1 : decode b_N_turn 1 = .ok (.iload_n 2, 1) := by decide +kernel
theorem d_N_turn_2 : decode b_N_turn 2 = .ok (.iload_n 3, 1) := by decide +kernel
theorem d_N_turn_3 : decode b_N_turn 3 = .ok (.invokestatic 19, 3) := by decide +kernel
theorem d_N_turn_6 : decode b_N_turn 6 = .ok (.istore 4, 2) := by decide +kernel
theorem d_N_turn_8 : decode b_N_turn 8 = .ok (.aload_n 0, 1) := by decide +kernel
theorem d_N_turn_9 : decode b_N_turn 9 = .ok (.iload 4, 2) := by decide +kernel
theorem d_N_turn_11 : decode b_N_turn 11 = .ok (.invokevirtual 23, 3) := by decide +kernel
theorem d_N_turn_14 : decode b_N_turn 14 = .ok (.istore 5, 2) := by decide +kernel
theorem d_N_turn_16 : decode b_N_turn 16 = .ok (.iload 5, 2) := by decide +kernel
theorem d_N_turn_18 : decode b_N_turn 18 = .ok (.ifCond .lt 31, 3) := by decide +kernel
theorem d_N_turn_21 : decode b_N_turn 21 = .ok (.aload_n 0, 1) := by decide +kernel
theorem d_N_turn_22 : decode b_N_turn 22 = .ok (.dup, 1) := by decide +kernel
theorem d_N_turn_23 : decode b_N_turn 23 = .ok (.getfield 15, 3) := by decide +kernel
theorem d_N_turn_26 : decode b_N_turn 26 = .ok (.iconst 1, 1) := by decide +kernel
theorem d_N_turn_27 : decode b_N_turn 27 = .ok (.isub, 1) := by decide +kernel
theorem d_N_turn_28 : decode b_N_turn 28 = .ok (.putfield 15, 3) := by decide +kernel
theorem d_N_turn_31 : decode b_N_turn 31 = .ok (.aload_n 0, 1) := by decide +kernel
theorem d_N_turn_32 : decode b_N_turn 32 = .ok (.getfield 9, 3) := by decide +kernel
theorem d_N_turn_35 : decode b_N_turn 35 = .ok (.iload 5, 2) := by decide +kernel
theorem d_N_turn_37 : decode b_N_turn 37 = .ok (.aload_n 0, 1) := by decide +kernel
theorem d_N_turn_38 : decode b_N_turn 38 = .ok (.getfield 9, 3) := by decide +kernel
theorem d_N_turn_41 : decode b_N_turn 41 = .ok (.aload_n 0, 1) := by decide +kernel
theorem d_N_turn_42 : decode b_N_turn 42 = .ok (.getfield 15, 3) := by decide +kernel
theorem d_N_turn_45 : decode b_N_turn 45 = .ok (.iaload, 1) := by decide +kernel
theorem d_N_turn_46 : decode b_N_turn 46 = .ok (.iastore, 1) := by decide +kernel
theorem d_N_turn_47 : decode b_N_turn 47 = .ok (.iconst 0, 1) := by decide +kernel
theorem d_N_turn_48 : decode b_N_turn 48 = .ok (.ireturn, 1) := by decide +kernel
theorem d_N_turn_49 : decode b_N_turn 49 = .ok (.aload_n 0, 1) := by decide +kernel
theorem d_N_turn_50 : decode b_N_turn 50 = .ok (.getfield 15, 3) := by decide +kernel
theorem d_N_turn_53 : decode b_N_turn 53 = .ok (.bipush 100, 2) := by decide +kernel
theorem d_N_turn_55 : decode b_N_turn 55 = .ok (.if_icmp .lt 6, 3) := by decide +kernel
theorem d_N_turn_58 : decode b_N_turn 58 = .ok (.bipush (-14), 2) := by decide +kernel
theorem d_N_turn_60 : decode b_N_turn 60 = .ok (.ireturn, 1) := by decide +kernel
theorem d_N_turn_61 : decode b_N_turn 61 = .ok (.aload_n 0, 1) := by decide +kernel
theorem d_N_turn_62 : decode b_N_turn 62 = .ok (.getfield 9, 3) := by decide +kernel
theorem d_N_turn_65 : decode b_N_turn 65 = .ok (.aload_n 0, 1) := by decide +kernel
theorem d_N_turn_66 : decode b_N_turn 66 = .ok (.getfield 15, 3) := by decide +kernel
theorem d_N_turn_69 : decode b_N_turn 69 = .ok (.iload 4, 2) := by decide +kernel
theorem d_N_turn_71 : decode b_N_turn 71 = .ok (.iastore, 1) := by decide +kernel
theorem d_N_turn_72 : decode b_N_turn 72 = .ok (.aload_n 0, 1) := by decide +kernel
theorem d_N_turn_73 : decode b_N_turn 73 = .ok (.dup, 1) := by decide +kernel
theorem d_N_turn_74 : decode b_N_turn 74 = .ok (.getfield 15, 3) := by decide +kernel
theorem d_N_turn_77 : decode b_N_turn 77 = .ok (.iconst 1, 1) := by decide +kernel
theorem d_N_turn_78 : decode b_N_turn 78 = .ok (.iadd, 1) := by decide +kernel
theorem d_N_turn_79 : decode b_N_turn 79 = .ok (.putfield 15, 3) := by decide +kernel
theorem d_N_turn_82 : decode b_N_turn 82 = .ok (.iconst 1, 1) := by decide +kernel
theorem d_N_turn_83 : decode b_N_turn 83 = .ok (.ireturn, 1) := by decide +kernel
theorem d_N_codeOf_0 : decode b_N_codeOf 0 = .ok (.iload_n 1, 1) := by decide +kernel
theorem d_N_codeOf_1 : decode b_N_codeOf 1 = .ok (.bipush 100, 2) := by decide +kernel
theorem d_N_codeOf_3 : decode b_N_codeOf 3 = .ok (.imul, 1) := by decide +kernel
theorem d_N_codeOf_4 : decode b_N_codeOf 4 = .ok (.iload_n 0, 1) := by decide +kernel
theorem d_N_codeOf_5 : decode b_N_codeOf 5 = .ok (.iadd, 1) := by decide +kernel
theorem d_N_codeOf_6 : decode b_N_codeOf 6 = .ok (.bipush 101, 2) := by decide +kernel
theorem d_N_codeOf_8 : decode b_N_codeOf 8 = .ok (.imul, 1) := by decide +kernel
theorem d_N_codeOf_9 : decode b_N_codeOf 9 = .ok (.iload_n 2, 1) := by decide +kernel
theorem d_N_codeOf_10 : decode b_N_codeOf 10 = .ok (.iadd, 1) := by decide +kernel
theorem d_N_codeOf_11 : decode b_N_codeOf 11 = .ok (.iconst 1, 1) := by decide +kernel
theorem d_N_codeOf_12 : decode b_N_codeOf 12 = .ok (.iadd, 1) := by decide +kernel
theorem d_N_codeOf_13 : decode b_N_codeOf 13 = .ok (.ireturn, 1) := by decide +kernel
theorem d_N_placeOf_0 : decode b_N_placeOf 0 = .ok (.iconst 0, 1) := by decide +kernel
theorem d_N_placeOf_1 : decode b_N_placeOf 1 = .ok (.istore_n 2, 1) := by decide +kernel
theorem d_N_placeOf_2 : decode b_N_placeOf 2 = .ok (.iload_n 2, 1) := by decide +kernel
theorem d_N_placeOf_3 : decode b_N_placeOf 3 = .ok (.aload_n 0, 1) := by decide +kernel
theorem d_N_placeOf_4 : decode b_N_placeOf 4 = .ok (.getfield 15, 3) := by decide +kernel
theorem d_N_placeOf_7 : decode b_N_placeOf 7 = .ok (.if_icmp .ge 21, 3) := by decide +kernel
theorem d_N_placeOf_10 : decode b_N_placeOf 10 = .ok (.aload_n 0, 1) := by decide +kernel
theorem d_N_placeOf_11 : decode b_N_placeOf 11 = .ok (.getfield 9, 3) := by decide +kernel
theorem d_N_placeOf_14 : decode b_N_placeOf 14 = .ok (.iload_n 2, 1) := by decide +kernel
theorem d_N_placeOf_15 : decode b_N_placeOf 15 = .ok (.iaload, 1) := by decide +kernel
theorem d_N_placeOf_16 : decode b_N_placeOf 16 = .ok (.iload_n 1, 1) := by decide +kernel
theorem d_N_placeOf_17 : decode b_N_placeOf 17 = .ok (.if_icmp .ne 5, 3) := by decide +kernel
theorem d_N_placeOf_20 : decode b_N_placeOf 20 = .ok (.iload_n 2, 1) := by decide +kernel
theorem d_N_placeOf_21 : decode b_N_placeOf 21 = .ok (.ireturn, 1) := by decide +kernel
theorem d_N_placeOf_22 : decode b_N_placeOf 22 = .ok (.iinc 2 1, 3) := by decide +kernel
theorem d_N_placeOf_25 : decode b_N_placeOf 25 = .ok (.goto (-23), 3) := by decide +kernel
theorem d_N_placeOf_28 : decode b_N_placeOf 28 = .ok (.iconst (-1), 1) := by decide +kernel
theorem d_N_placeOf_29 : decode b_N_placeOf 29 = .ok (.ireturn, 1) := by decide +kernel
theorem d_D_act_0 : decode b_D_act 0 = .ok (.aload_n 0, 1) := by decide +kernel
theorem d_D_act_1 : decode b_D_act 1 = .ok (.iload_n 2, 1) := by decide +kernel
theorem d_D_act_2 : decode b_D_act 2 = .ok (.invokevirtual 58, 3) := by decide +kernel
theorem d_D_act_5 : decode b_D_act 5 = .ok (.astore 8, 2) := by decide +kernel
theorem d_D_act_7 : decode b_D_act 7 = .ok (.aload 8, 2) := by decide +kernel
theorem d_D_act_9 : decode b_D_act 9 = .ok (.ifnonnull 6, 3) := by decide +kernel
theorem d_D_act_12 : decode b_D_act 12 = .ok (.bipush (-11), 2) := by decide +kernel
theorem d_D_act_14 : decode b_D_act 14 = .ok (.ireturn, 1) := by decide +kernel
theorem d_D_act_15 : decode b_D_act 15 = .ok (.iload_n 1, 1) := by decide +kernel
theorem d_D_act_16 : decode b_D_act 16 = .ok (.invokestatic 62, 3) := by decide +kernel
theorem d_D_act_19 : decode b_D_act 19 = .ok (.ifCond .ne 6, 3) := by decide +kernel
theorem d_D_act_22 : decode b_D_act 22 = .ok (.bipush (-12), 2) := by decide +kernel
theorem d_D_act_24 : decode b_D_act 24 = .ok (.ireturn, 1) := by decide +kernel
theorem d_D_act_25 : decode b_D_act 25 = .ok (.aload_n 0, 1) := by decide +kernel
theorem d_D_act_26 : decode b_D_act 26 = .ok (.getfield 28, 3) := by decide +kernel
theorem d_D_act_29 : decode b_D_act 29 = .ok (.iload_n 1, 1) := by decide +kernel
theorem d_D_act_30 : decode b_D_act 30 = .ok (.aaload, 1) := by decide +kernel
theorem d_D_act_31 : decode b_D_act 31 = .ok (.astore 9, 2) := by decide +kernel
theorem d_D_act_33 : decode b_D_act 33 = .ok (.aload 9, 2) := by decide +kernel
theorem d_D_act_35 : decode b_D_act 35 = .ok (.getfield 65, 3) := by decide +kernel
theorem d_D_act_38 : decode b_D_act 38 = .ok (.ifCond .eq 13, 3) := by decide +kernel
theorem d_D_act_41 : decode b_D_act 41 = .ok (.aload 9, 2) := by decide +kernel
theorem d_D_act_43 : decode b_D_act 43 = .ok (.aload 8, 2) := by decide +kernel
theorem d_D_act_45 : decode b_D_act 45 = .ok (.invokevirtual 69, 3) := by decide +kernel
theorem d_D_act_48 : decode b_D_act 48 = .ok (.goto 8, 3) := by decide +kernel
theorem d_D_act_51 : decode b_D_act 51 = .ok (.aload 8, 2) := by decide +kernel
theorem d_D_act_53 : decode b_D_act 53 = .ok (.getfield 73, 3) := by decide +kernel
theorem d_D_act_56 : decode b_D_act 56 = .ok (.astore 10, 2) := by decide +kernel
theorem d_D_act_58 : decode b_D_act 58 = .ok (.aload 10, 2) := by decide +kernel
theorem d_D_act_60 : decode b_D_act 60 = .ok (.ifnonnull 6, 3) := by decide +kernel
theorem d_D_act_63 : decode b_D_act 63 = .ok (.bipush (-11), 2) := by decide +kernel
theorem d_D_act_65 : decode b_D_act 65 = .ok (.ireturn, 1) := by decide +kernel
theorem d_D_act_66 : decode b_D_act 66 = .ok (.iload_n 3, 1) := by decide +kernel
theorem d_D_act_67 : decode b_D_act 67 = .ok (.iload 4, 2) := by decide +kernel
theorem d_D_act_69 : decode b_D_act 69 = .ok (.iload 5, 2) := by decide +kernel
theorem d_D_act_71 : decode b_D_act 71 = .ok (.invokestatic 77, 3) := by decide +kernel
theorem d_D_act_74 : decode b_D_act 74 = .ok (.ifCond .eq 23, 3) := by decide +kernel
theorem d_D_act_77 : decode b_D_act 77 = .ok (.lload 6, 2) := by decide +kernel
theorem d_D_act_79 : decode b_D_act 79 = .ok (.aload 9, 2) := by decide +kernel
theorem d_D_act_81 : decode b_D_act 81 = .ok (.getfield 81, 3) := by decide +kernel
theorem d_D_act_84 : decode b_D_act 84 = .ok (.lcmp, 1) := by decide +kernel
theorem d_D_act_85 : decode b_D_act 85 = .ok (.ifCond .lt 12, 3) := by decide +kernel
theorem d_D_act_88 : decode b_D_act 88 = .ok (.lload 6, 2) := by decide +kernel
theorem d_D_act_90 : decode b_D_act 90 = .ok (.ldc2_w 84, 3) := by decide +kernel
theorem d_D_act_93 : decode b_D_act 93 = .ok (.lcmp, 1) := by decide +kernel
theorem d_D_act_94 : decode b_D_act 94 = .ok (.ifCond .le 6, 3) := by decide +kernel
theorem d_D_act_97 : decode b_D_act 97 = .ok (.bipush (-12), 2) := by decide +kernel
theorem d_D_act_99 : decode b_D_act 99 = .ok (.ireturn, 1) := by decide +kernel
theorem d_D_act_100 : decode b_D_act 100 = .ok (.lload 6, 2) := by decide +kernel
theorem d_D_act_102 : decode b_D_act 102 = .ok (.ldc2_w 86, 3) := by decide +kernel
theorem d_D_act_105 : decode b_D_act 105 = .ok (.ldiv, 1) := by decide +kernel
theorem d_D_act_106 : decode b_D_act 106 = .ok (.l2i, 1) := by decide +kernel
theorem d_D_act_107 : decode b_D_act 107 = .ok (.istore 11, 2) := by decide +kernel
theorem d_D_act_109 : decode b_D_act 109 = .ok (.aload 10, 2) := by decide +kernel
theorem d_D_act_111 : decode b_D_act 111 = .ok (.iload_n 3, 1) := by decide +kernel
theorem d_D_act_112 : decode b_D_act 112 = .ok (.iload_n 1, 1) := by decide +kernel
theorem d_D_act_113 : decode b_D_act 113 = .ok (.iload 11, 2) := by decide +kernel
theorem d_D_act_115 : decode b_D_act 115 = .ok (.invokevirtual 88, 3) := by decide +kernel
theorem d_D_act_118 : decode b_D_act 118 = .ok (.ifCond .ne 6, 3) := by decide +kernel
theorem d_D_act_121 : decode b_D_act 121 = .ok (.bipush (-13), 2) := by decide +kernel
theorem d_D_act_123 : decode b_D_act 123 = .ok (.ireturn, 1) := by decide +kernel
theorem d_D_act_124 : decode b_D_act 124 = .ok (.aload 9, 2) := by decide +kernel
theorem d_D_act_126 : decode b_D_act 126 = .ok (.getfield 65, 3) := by decide +kernel
theorem d_D_act_129 : decode b_D_act 129 = .ok (.ifCond .eq 19, 3) := by decide +kernel
theorem d_D_act_132 : decode b_D_act 132 = .ok (.aload 9, 2) := by decide +kernel
theorem d_D_act_134 : decode b_D_act 134 = .ok (.getfield 93, 3) := by decide +kernel
theorem d_D_act_137 : decode b_D_act 137 = .ok (.invokevirtual 41, 3) := by decide +kernel
theorem d_D_act_140 : decode b_D_act 140 = .ok (.bipush 30, 2) := by decide +kernel
theorem d_D_act_142 : decode b_D_act 142 = .ok (.if_icmp .lt 6, 3) := by decide +kernel
theorem d_D_act_145 : decode b_D_act 145 = .ok (.bipush (-14), 2) := by decide +kernel
theorem d_D_act_147 : decode b_D_act 147 = .ok (.ireturn, 1) := by decide +kernel
theorem d_D_act_148 : decode b_D_act 148 = .ok (.aload_n 0, 1) := by decide +kernel
theorem d_D_act_149 : decode b_D_act 149 = .ok (.aload 8, 2) := by decide +kernel
theorem d_D_act_151 : decode b_D_act 151 = .ok (.aload 10, 2) := by decide +kernel
theorem d_D_act_153 : decode b_D_act 153 = .ok (.iload_n 3, 1) := by decide +kernel
theorem d_D_act_154 : decode b_D_act 154 = .ok (.iload 4, 2) := by decide +kernel
theorem d_D_act_156 : decode b_D_act 156 = .ok (.iload 5, 2) := by decide +kernel
theorem d_D_act_158 : decode b_D_act 158 = .ok (.invokevirtual 96, 3) := by decide +kernel
theorem d_D_act_161 : decode b_D_act 161 = .ok (.istore 12, 2) := by decide +kernel
theorem d_D_act_163 : decode b_D_act 163 = .ok (.iload 12, 2) := by decide +kernel
theorem d_D_act_165 : decode b_D_act 165 = .ok (.ifCond .ge 6, 3) := by decide +kernel
theorem d_D_act_168 : decode b_D_act 168 = .ok (.iload 12, 2) := by decide +kernel
theorem d_D_act_170 : decode b_D_act 170 = .ok (.ireturn, 1) := by decide +kernel
theorem d_D_act_171 : decode b_D_act 171 = .ok (.new 100, 3) := by decide +kernel
theorem d_D_act_174 : decode b_D_act 174 = .ok (.dup, 1) := by decide +kernel
theorem d_D_act_175 : decode b_D_act 175 = .ok (.aload 8, 2) := by decide +kernel
theorem d_D_act_177 : decode b_D_act 177 = .ok (.iload_n 1, 1) := by decide +kernel
theorem d_D_act_178 : decode b_D_act 178 = .ok (.iload_n 3, 1) := by decide +kernel
theorem d_D_act_179 : decode b_D_act 179 = .ok (.iload 4, 2) := by decide +kernel
theorem d_D_act_181 : decode b_D_act 181 = .ok (.iload 12, 2) := by decide +kernel
theorem d_D_act_183 : decode b_D_act 183 = .ok (.iload 11, 2) := by decide +kernel
theorem d_D_act_185 : decode b_D_act 185 = .ok (.invokespecial 102, 3) := by decide +kernel
theorem d_D_act_188 : decode b_D_act 188 = .ok (.astore 13, 2) := by decide +kernel
theorem d_D_act_190 : decode b_D_act 190 = .ok (.aload 10, 2) := by decide +kernel
theorem d_D_act_192 : decode b_D_act 192 = .ok (.aload 13, 2) := by decide +kernel
theorem d_D_act_194 : decode b_D_act 194 = .ok (.invokevirtual 105, 3) := by decide +kernel
theorem d_D_act_197 : decode b_D_act 197 = .ok (.aload 9, 2) := by decide +kernel
theorem d_D_act_199 : decode b_D_act 199 = .ok (.lload 6, 2) := by decide +kernel
theorem d_D_act_201 : decode b_D_act 201 = .ok (.putfield 81, 3) := by decide +kernel
theorem d_D_act_204 : decode b_D_act 204 = .ok (.aload 9, 2) := by decide +kernel
theorem d_D_act_206 : decode b_D_act 206 = .ok (.getfield 65, 3) := by decide +kernel
theorem d_D_act_209 : decode b_D_act 209 = .ok (.ifCond .eq 14, 3) := by decide +kernel
theorem d_D_act_212 : decode b_D_act 212 = .ok (.aload 9, 2) := by decide +kernel
theorem d_D_act_214 : decode b_D_act 214 = .ok (.getfield 93, 3) := by decide +kernel
theorem d_D_act_217 : decode b_D_act 217 = .ok (.aload 13, 2) := by decide +kernel
theorem d_D_act_219 : decode b_D_act 219 = .ok (.invokevirtual 50, 3) := by decide +kernel
theorem d_D_act_222 : decode b_D_act 222 = .ok (.pop, 1) := by decide +kernel
theorem d_D_act_223 : decode b_D_act 223 = .ok (.iload 12, 2) := by decide +kernel
theorem d_D_act_225 : decode b_D_act 225 = .ok (.ireturn, 1) := by decide +kernel
theorem d_D_itemOf_0 : decode b_D_itemOf 0 = .ok (.iload_n 1, 1) := by decide +kernel
theorem d_D_itemOf_1 : decode b_D_itemOf 1 = .ok (.iconst 1, 1) := by decide +kernel
theorem d_D_itemOf_2 : decode b_D_itemOf 2 = .ok (.if_icmp .lt 30, 3) := by decide +kernel
theorem d_D_itemOf_5 : decode b_D_itemOf 5 = .ok (.iload_n 1, 1) := by decide +kernel
theorem d_D_itemOf_6 : decode b_D_itemOf 6 = .ok (.aload_n 0, 1) := by decide +kernel
theorem d_D_itemOf_7 : decode b_D_itemOf 7 = .ok (.getfield 12, 3) := by decide +kernel
theorem d_D_itemOf_10 : decode b_D_itemOf 10 = .ok (.invokevirtual 41, 3) := by decide +kernel
theorem d_D_itemOf_13 : decode b_D_itemOf 13 = .ok (.if_icmp .gt 19, 3) := by decide +kernel
theorem d_D_itemOf_16 : decode b_D_itemOf 16 = .ok (.aload_n 0, 1) := by decide +kernel
theorem d_D_itemOf_17 : decode b_D_itemOf 17 = .ok (.getfield 12, 3) := by decide +kernel
theorem d_D_itemOf_20 : decode b_D_itemOf 20 = .ok (.iload_n 1, 1) := by decide +kernel
theorem d_D_itemOf_21 : decode b_D_itemOf 21 = .ok (.iconst 1, 1) := by decide +kernel
theorem d_D_itemOf_22 : decode b_D_itemOf 22 = .ok (.isub, 1) := by decide +kernel
theorem d_D_itemOf_23 : decode b_D_itemOf 23 = .ok (.invokevirtual 109, 3) := by decide +kernel
theorem d_D_itemOf_26 : decode b_D_itemOf 26 = .ok (.checkcast 45, 3) := by decide +kernel
theorem d_D_itemOf_29 : decode b_D_itemOf 29 = .ok (.goto 4, 3) := by decide +kernel
theorem d_D_itemOf_32 : decode b_D_itemOf 32 = .ok (.aconst_null, 1) := by decide +kernel
theorem d_D_itemOf_33 : decode b_D_itemOf 33 = .ok (.areturn, 1) := by decide +kernel
theorem d_D_isDevice_0 : decode b_D_isDevice 0 = .ok (.iload_n 0, 1) := by decide +kernel
theorem d_D_isDevice_1 : decode b_D_isDevice 1 = .ok (.ifCond .lt 13, 3) := by decide +kernel
theorem d_D_isDevice_4 : decode b_D_isDevice 4 = .ok (.iload_n 0, 1) := by decide +kernel
theorem d_D_isDevice_5 : decode b_D_isDevice 5 = .ok (.bipush 8, 2) := by decide +kernel
theorem d_D_isDevice_7 : decode b_D_isDevice 7 = .ok (.if_icmp .ge 7, 3) := by decide +kernel
theorem d_D_isDevice_10 : decode b_D_isDevice 10 = .ok (.iconst 1, 1) := by decide +kernel
theorem d_D_isDevice_11 : decode b_D_isDevice 11 = .ok (.goto 4, 3) := by decide +kernel
theorem d_D_isDevice_14 : decode b_D_isDevice 14 = .ok (.iconst 0, 1) := by decide +kernel
theorem d_D_isDevice_15 : decode b_D_isDevice 15 = .ok (.ireturn, 1) := by decide +kernel
theorem d_V_factsOf_0 : decode b_V_factsOf 0 = .ok (.aload_n 1, 1) := by decide +kernel
theorem d_V_factsOf_1 : decode b_V_factsOf 1 = .ok (.getfield 27, 3) := by decide +kernel
theorem d_V_factsOf_4 : decode b_V_factsOf 4 = .ok (.iconst 1, 1) := by decide +kernel
theorem d_V_factsOf_5 : decode b_V_factsOf 5 = .ok (.isub, 1) := by decide +kernel
theorem d_V_factsOf_6 : decode b_V_factsOf 6 = .ok (.istore_n 2, 1) := by decide +kernel
theorem d_V_factsOf_7 : decode b_V_factsOf 7 = .ok (.iload_n 2, 1) := by decide +kernel
theorem d_V_factsOf_8 : decode b_V_factsOf 8 = .ok (.ifCond .lt 28, 3) := by decide +kernel
theorem d_V_factsOf_11 : decode b_V_factsOf 11 = .ok (.iload_n 2, 1) := by decide +kernel
theorem d_V_factsOf_12 : decode b_V_factsOf 12 = .ok (.aload_n 0, 1) := by decide +kernel
theorem d_V_factsOf_13 : decode b_V_factsOf 13 = .ok (.getfield 24, 3) := by decide +kernel
theorem d_V_factsOf_16 : decode b_V_factsOf 16 = .ok (.invokevirtual 33, 3) := by decide +kernel
theorem d_V_factsOf_19 : decode b_V_factsOf 19 = .ok (.if_icmp .ge 17, 3) := by decide +kernel
theorem d_V_factsOf_22 : decode b_V_factsOf 22 = .ok (.aload_n 0, 1) := by decide +kernel
theorem d_V_factsOf_23 : decode b_V_factsOf 23 = .ok (.getfield 24, 3) := by decide +kernel
theorem d_V_factsOf_26 : decode b_V_factsOf 26 = .ok (.iload_n 2, 1) := by decide +kernel
theorem d_V_factsOf_27 : decode b_V_factsOf 27 = .ok (.invokevirtual 37, 3) := by decide +kernel
theorem d_V_factsOf_30 : decode b_V_factsOf 30 = .ok (.checkcast 41, 3) := by decide +kernel
theorem d_V_factsOf_33 : decode b_V_factsOf 33 = .ok (.goto 4, 3) := by decide +kernel
theorem d_V_factsOf_36 : decode b_V_factsOf 36 = .ok (.aconst_null, 1) := by decide +kernel
theorem d_V_factsOf_37 : decode b_V_factsOf 37 = .ok (.areturn, 1) := by decide +kernel
theorem d_D_isActAsSaid_0 : decode b_D_isActAsSaid 0 = .ok (.iload_n 0, 1) := by decide +kernel
theorem d_D_isActAsSaid_1 : decode b_D_isActAsSaid 1 = .ok (.ifCond .lt 20, 3) := by decide +kernel
theorem d_D_isActAsSaid_4 : decode b_D_isActAsSaid 4 = .ok (.iload_n 0, 1) := by decide +kernel
theorem d_D_isActAsSaid_5 : decode b_D_isActAsSaid 5 = .ok (.iconst 5, 1) := by decide +kernel
theorem d_D_isActAsSaid_6 : decode b_D_isActAsSaid 6 = .ok (.if_icmp .gt 15, 3) := by decide +kernel
theorem d_D_isActAsSaid_9 : decode b_D_isActAsSaid 9 = .ok (.iload_n 2, 1) := by decide +kernel
theorem d_D_isActAsSaid_10 : decode b_D_isActAsSaid 10 = .ok (.iconst (-1), 1) := by decide +kernel
theorem d_D_isActAsSaid_11 : decode b_D_isActAsSaid 11 = .ok (.if_icmp .lt 10, 3) := by decide +kernel
theorem d_D_isActAsSaid_14 : decode b_D_isActAsSaid 14 = .ok (.iload_n 2, 1) := by decide +kernel
theorem d_D_isActAsSaid_15 : decode b_D_isActAsSaid 15 = .ok (.sipush 399, 3) := by decide +kernel
theorem d_D_isActAsSaid_18 : decode b_D_isActAsSaid 18 = .ok (.if_icmp .le 5, 3) := by decide +kernel
theorem d_D_isActAsSaid_21 : decode b_D_isActAsSaid 21 = .ok (.iconst 0, 1) := by decide +kernel
theorem d_D_isActAsSaid_22 : decode b_D_isActAsSaid 22 = .ok (.ireturn, 1) := by decide +kernel
theorem d_D_isActAsSaid_23 : decode b_D_isActAsSaid 23 = .ok (.iload_n 0, 1) := by decide +kernel
theorem d_D_isActAsSaid_24 : decode b_D_isActAsSaid 24 = .ok (.ifCond .eq 8, 3) := by decide +kernel
theorem d_D_isActAsSaid_27 : decode b_D_isActAsSaid 27 = .ok (.iload_n 0, 1) := by decide +kernel
theorem d_D_isActAsSaid_28 : decode b_D_isActAsSaid 28 = .ok (.iconst 2, 1) := by decide +kernel
theorem d_D_isActAsSaid_29 : decode b_D_isActAsSaid 29 = .ok (.if_icmp .ne 7, 3) := by decide +kernel
theorem d_D_isActAsSaid_32 : decode b_D_isActAsSaid 32 = .ok (.iconst 1, 1) := by decide +kernel
theorem d_D_isActAsSaid_33 : decode b_D_isActAsSaid 33 = .ok (.goto 4, 3) := by decide +kernel
theorem d_D_isActAsSaid_36 : decode b_D_isActAsSaid 36 = .ok (.iconst 0, 1) := by decide +kernel
theorem d_D_isActAsSaid_37 : decode b_D_isActAsSaid 37 = .ok (.istore_n 3, 1) := by decide +kernel
theorem d_D_isActAsSaid_38 : decode b_D_isActAsSaid 38 = .ok (.iload_n 1, 1) := by decide +kernel
theorem d_D_isActAsSaid_39 : decode b_D_isActAsSaid 39 = .ok (.invokestatic 37, 3) := by decide +kernel
theorem d_D_isActAsSaid_42 : decode b_D_isActAsSaid 42 = .ok (.ifCond .ne 12, 3) := by decide +kernel
theorem d_D_isActAsSaid_45 : decode b_D_isActAsSaid 45 = .ok (.iload_n 1, 1) := by decide +kernel
theorem d_D_isActAsSaid_46 : decode b_D_isActAsSaid 46 = .ok (.iconst (-1), 1) := by decide +kernel
theorem d_D_isActAsSaid_47 : decode b_D_isActAsSaid 47 = .ok (.if_icmp .ne 11, 3) := by decide +kernel
theorem d_D_isActAsSaid_50 : decode b_D_isActAsSaid 50 = .ok (.iload_n 3, 1) := by decide +kernel
theorem d_D_isActAsSaid_51 : decode b_D_isActAsSaid 51 = .ok (.ifCond .ne 7, 3) := by decide +kernel
theorem d_D_isActAsSaid_54 : decode b_D_isActAsSaid 54 = .ok (.iconst 1, 1) := by decide +kernel
theorem d_D_isActAsSaid_55 : decode b_D_isActAsSaid 55 = .ok (.goto 4, 3) := by decide +kernel
theorem d_D_isActAsSaid_58 : decode b_D_isActAsSaid 58 = .ok (.iconst 0, 1) := by decide +kernel
theorem d_D_isActAsSaid_59 : decode b_D_isActAsSaid 59 = .ok (.ireturn, 1) := by decide +kernel
theorem d_F_allow_0 : decode b_F_allow 0 = .ok (.iload_n 1, 1) := by decide +kernel
theorem d_F_allow_1 : decode b_F_allow 1 = .ok (.tableswitch 129 0 4 #[35, 49, 35, 78, 100], 35) := by decide +kernel
theorem d_F_allow_36 : decode b_F_allow 36 = .ok (.aload_n 0, 1) := by decide +kernel
theorem d_F_allow_37 : decode b_F_allow 37 = .ok (.getfield 9, 3) := by decide +kernel
theorem d_F_allow_40 : decode b_F_allow 40 = .ok (.iconst 2, 1) := by decide +kernel
theorem d_F_allow_41 : decode b_F_allow 41 = .ok (.if_icmp .gt 7, 3) := by decide +kernel
theorem d_F_allow_44 : decode b_F_allow 44 = .ok (.iconst 1, 1) := by decide +kernel
theorem d_F_allow_45 : decode b_F_allow 45 = .ok (.goto 4, 3) := by decide +kernel
theorem d_F_allow_48 : decode b_F_allow 48 = .ok (.iconst 0, 1) := by decide +kernel
theorem d_F_allow_49 : decode b_F_allow 49 = .ok (.ireturn, 1) := by decide +kernel
theorem d_F_allow_50 : decode b_F_allow 50 = .ok (.aload_n 0, 1) := by decide +kernel
theorem d_F_allow_51 : decode b_F_allow 51 = .ok (.getfield 9, 3) := by decide +kernel
theorem d_F_allow_54 : decode b_F_allow 54 = .ok (.ifCond .eq 19, 3) := by decide +kernel
theorem d_F_allow_57 : decode b_F_allow 57 = .ok (.aload_n 0, 1) := by decide +kernel
theorem d_F_allow_58 : decode b_F_allow 58 = .ok (.getfield 9, 3) := by decide +kernel
theorem d_F_allow_61 : decode b_F_allow 61 = .ok (.iconst 1, 1) := by decide +kernel
theorem d_F_allow_62 : decode b_F_allow 62 = .ok (.if_icmp .ne 15, 3) := by decide +kernel
theorem d_F_allow_65 : decode b_F_allow 65 = .ok (.iload_n 3, 1) := by decide +kernel
theorem d_F_allow_66 : decode b_F_allow 66 = .ok (.aload_n 0, 1) := by decide +kernel
theorem d_F_allow_67 : decode b_F_allow 67 = .ok (.getfield 25, 3) := by decide +kernel
theorem d_F_allow_70 : decode b_F_allow 70 = .ok (.if_icmp .le 7, 3) := by decide +kernel
theorem d_F_allow_73 : decode b_F_allow 73 = .ok (.iconst 1, 1) := by decide +kernel
theorem d_F_allow_74 : decode b_F_allow 74 = .ok (.goto 4, 3) := by decide +kernel
theorem d_F_allow_77 : decode b_F_allow 77 = .ok (.iconst 0, 1) := by decide +kernel
theorem d_F_allow_78 : decode b_F_allow 78 = .ok (.ireturn, 1) := by decide +kernel
theorem d_F_allow_79 : decode b_F_allow 79 = .ok (.aload_n 0, 1) := by decide +kernel
theorem d_F_allow_80 : decode b_F_allow 80 = .ok (.getfield 9, 3) := by decide +kernel
theorem d_F_allow_83 : decode b_F_allow 83 = .ok (.bipush 7, 2) := by decide +kernel
theorem d_F_allow_85 : decode b_F_allow 85 = .ok (.if_icmp .ge 14, 3) := by decide +kernel
theorem d_F_allow_88 : decode b_F_allow 88 = .ok (.aload_n 0, 1) := by decide +kernel
theorem d_F_allow_89 : decode b_F_allow 89 = .ok (.getfield 18, 3) := by decide +kernel
theorem d_F_allow_92 : decode b_F_allow 92 = .ok (.ifCond .ne 7, 3) := by decide +kernel
theorem d_F_allow_95 : decode b_F_allow 95 = .ok (.iconst 1, 1) := by decide +kernel
theorem d_F_allow_96 : decode b_F_allow 96 = .ok (.goto 4, 3) := by decide +kernel
theorem d_F_allow_99 : decode b_F_allow 99 = .ok (.iconst 0, 1) := by decide +kernel
theorem d_F_allow_100 : decode b_F_allow 100 = .ok (.ireturn, 1) := by decide +kernel
theorem d_F_allow_101 : decode b_F_allow 101 = .ok (.aload_n 0, 1) := by decide +kernel
theorem d_F_allow_102 : decode b_F_allow 102 = .ok (.invokevirtual 46, 3) := by decide +kernel
theorem d_F_allow_105 : decode b_F_allow 105 = .ok (.ifCond .eq 23, 3) := by decide +kernel
theorem d_F_allow_108 : decode b_F_allow 108 = .ok (.aload_n 0, 1) := by decide +kernel
theorem d_F_allow_109 : decode b_F_allow 109 = .ok (.getfield 31, 3) := by decide +kernel
theorem d_F_allow_112 : decode b_F_allow 112 = .ok (.iload_n 2, 1) := by decide +kernel
theorem d_F_allow_113 : decode b_F_allow 113 = .ok (.if_icmp .ne 15, 3) := by decide +kernel
theorem d_F_allow_116 : decode b_F_allow 116 = .ok (.aload_n 0, 1) := by decide +kernel
theorem d_F_allow_117 : decode b_F_allow 117 = .ok (.getfield 34, 3) := by decide +kernel
theorem d_F_allow_120 : decode b_F_allow 120 = .ok (.iload_n 3, 1) := by decide +kernel
theorem d_F_allow_121 : decode b_F_allow 121 = .ok (.if_icmp .ne 7, 3) := by decide +kernel
theorem d_F_allow_124 : decode b_F_allow 124 = .ok (.iconst 1, 1) := by decide +kernel
theorem d_F_allow_125 : decode b_F_allow 125 = .ok (.goto 4, 3) := by decide +kernel
theorem d_F_allow_128 : decode b_F_allow 128 = .ok (.iconst 0, 1) := by decide +kernel
theorem d_F_allow_129 : decode b_F_allow 129 = .ok (.ireturn, 1) := by decide +kernel
theorem d_F_allow_130 : decode b_F_allow 130 = .ok (.aload_n 0, 1) := by decide +kernel
theorem d_F_allow_131 : decode b_F_allow 131 = .ok (.getfield 9, 3) := by decide +kernel
theorem d_F_allow_134 : decode b_F_allow 134 = .ok (.iconst 1, 1) := by decide +kernel
theorem d_F_allow_135 : decode b_F_allow 135 = .ok (.if_icmp .gt 7, 3) := by decide +kernel
theorem d_F_allow_138 : decode b_F_allow 138 = .ok (.iconst 1, 1) := by decide +kernel
theorem d_F_allow_139 : decode b_F_allow 139 = .ok (.goto 4, 3) := by decide +kernel
theorem d_F_allow_142 : decode b_F_allow 142 = .ok (.iconst 0, 1) := by decide +kernel
theorem d_F_allow_143 : decode b_F_allow 143 = .ok (.ireturn, 1) := by decide +kernel
theorem d_F_isHandedOver_0 : decode b_F_isHandedOver 0 = .ok (.aload_n 0, 1) := by decide +kernel
theorem d_F_isHandedOver_1 : decode b_F_isHandedOver 1 = .ok (.getfield 9, 3) := by decide +kernel
theorem d_F_isHandedOver_4 : decode b_F_isHandedOver 4 = .ok (.iconst 3, 1) := by decide +kernel
theorem d_F_isHandedOver_5 : decode b_F_isHandedOver 5 = .ok (.if_icmp .lt 16, 3) := by decide +kernel
theorem d_F_isHandedOver_8 : decode b_F_isHandedOver 8 = .ok (.aload_n 0, 1) := by decide +kernel
theorem d_F_isHandedOver_9 : decode b_F_isHandedOver 9 = .ok (.getfield 9, 3) := by decide +kernel
theorem d_F_isHandedOver_12 : decode b_F_isHandedOver 12 = .ok (.bipush 6, 2) := by decide +kernel
theorem d_F_isHandedOver_14 : decode b_F_isHandedOver 14 = .ok (.if_icmp .gt 7, 3) := by decide +kernel
theorem d_F_isHandedOver_17 : decode b_F_isHandedOver 17 = .ok (.iconst 1, 1) := by decide +kernel
theorem d_F_isHandedOver_18 : decode b_F_isHandedOver 18 = .ok (.goto 4, 3) := by decide +kernel
theorem d_F_isHandedOver_21 : decode b_F_isHandedOver 21 = .ok (.iconst 0, 1) := by decide +kernel
theorem d_F_isHandedOver_22 : decode b_F_isHandedOver 22 = .ok (.ireturn, 1) := by decide +kernel
theorem d_D_outcomeOf_0 : decode b_D_outcomeOf 0 = .ok (.iload_n 3, 1) := by decide +kernel
theorem d_D_outcomeOf_1 : decode b_D_outcomeOf 1 = .ok (.tableswitch 93 0 4 #[35, 46, 60, 87, 90], 35) := by decide +kernel
theorem d_D_outcomeOf_36 : decode b_D_outcomeOf 36 = .ok (.aload_n 0, 1) := by decide +kernel
theorem d_D_outcomeOf_37 : decode b_D_outcomeOf 37 = .ok (.aload_n 1, 1) := by decide +kernel
theorem d_D_outcomeOf_38 : decode b_D_outcomeOf 38 = .ok (.aload_n 2, 1) := by decide +kernel
theorem d_D_outcomeOf_39 : decode b_D_outcomeOf 39 = .ok (.iload 4, 2) := by decide +kernel
theorem d_D_outcomeOf_41 : decode b_D_outcomeOf 41 = .ok (.iload 5, 2) := by decide +kernel
theorem d_D_outcomeOf_43 : decode b_D_outcomeOf 43 = .ok (.invokevirtual 183, 3) := by decide +kernel
theorem d_D_outcomeOf_46 : decode b_D_outcomeOf 46 = .ok (.ireturn, 1) := by decide +kernel
theorem d_D_outcomeOf_47 : decode b_D_outcomeOf 47 = .ok (.aload_n 2, 1) := by decide +kernel
theorem d_D_outcomeOf_48 : decode b_D_outcomeOf 48 = .ok (.getfield 157, 3) := by decide +kernel
theorem d_D_outcomeOf_51 : decode b_D_outcomeOf 51 = .ok (.ifCond .ne 7, 3) := by decide +kernel
theorem d_D_outcomeOf_54 : decode b_D_outcomeOf 54 = .ok (.iconst 5, 1) := by decide +kernel
theorem d_D_outcomeOf_55 : decode b_D_outcomeOf 55 = .ok (.goto 5, 3) := by decide +kernel
theorem d_D_outcomeOf_58 : decode b_D_outcomeOf 58 = .ok (.bipush 6, 2) := by decide +kernel
theorem d_D_outcomeOf_60 : decode b_D_outcomeOf 60 = .ok (.ireturn, 1) := by decide +kernel
theorem d_D_outcomeOf_61 : decode b_D_outcomeOf 61 = .ok (.iload 4, 2) := by decide +kernel
theorem d_D_outcomeOf_63 : decode b_D_outcomeOf 63 = .ok (.aload_n 1, 1) := by decide +kernel
theorem d_D_outcomeOf_64 : decode b_D_outcomeOf 64 = .ok (.getfield 187, 3) := by decide +kernel
theorem d_D_outcomeOf_67 : decode b_D_outcomeOf 67 = .ok (.if_icmp .eq 13, 3) := by decide +kernel
theorem d_D_outcomeOf_70 : decode b_D_outcomeOf 70 = .ok (.aload_n 0, 1) := by decide +kernel
theorem d_D_outcomeOf_71 : decode b_D_outcomeOf 71 = .ok (.aload_n 1, 1) := by decide +kernel
theorem d_D_outcomeOf_72 : decode b_D_outcomeOf 72 = .ok (.iload 4, 2) := by decide +kernel
theorem d_D_outcomeOf_74 : decode b_D_outcomeOf 74 = .ok (.invokevirtual 190, 3) := by decide +kernel
theorem d_D_outcomeOf_77 : decode b_D_outcomeOf 77 = .ok (.ifCond .eq 8, 3) := by decide +kernel
theorem d_D_outcomeOf_80 : decode b_D_outcomeOf 80 = .ok (.bipush 7, 2) := by decide +kernel
theorem d_D_outcomeOf_82 : decode b_D_outcomeOf 82 = .ok (.goto 5, 3) := by decide +kernel
theorem d_D_outcomeOf_85 : decode b_D_outcomeOf 85 = .ok (.bipush (-21), 2) := by decide +kernel
theorem d_D_outcomeOf_87 : decode b_D_outcomeOf 87 = .ok (.ireturn, 1) := by decide +kernel
theorem d_D_outcomeOf_88 : decode b_D_outcomeOf 88 = .ok (.bipush 8, 2) := by decide +kernel
theorem d_D_outcomeOf_90 : decode b_D_outcomeOf 90 = .ok (.ireturn, 1) := by decide +kernel
theorem d_D_outcomeOf_91 : decode b_D_outcomeOf 91 = .ok (.bipush 9, 2) := by decide +kernel
theorem d_D_outcomeOf_93 : decode b_D_outcomeOf 93 = .ok (.ireturn, 1) := by decide +kernel
theorem d_D_outcomeOf_94 : decode b_D_outcomeOf 94 = .ok (.aload_n 1, 1) := by decide +kernel
theorem d_D_outcomeOf_95 : decode b_D_outcomeOf 95 = .ok (.getfield 144, 3) := by decide +kernel
theorem d_D_outcomeOf_98 : decode b_D_outcomeOf 98 = .ok (.ifCond .ne 23, 3) := by decide +kernel
theorem d_D_outcomeOf_101 : decode b_D_outcomeOf 101 = .ok (.aload_n 0, 1) := by decide +kernel
theorem d_D_outcomeOf_102 : decode b_D_outcomeOf 102 = .ok (.getfield 22, 3) := by decide +kernel
theorem d_D_outcomeOf_105 : decode b_D_outcomeOf 105 = .ok (.aload_n 1, 1) := by decide +kernel
theorem d_D_outcomeOf_106 : decode b_D_outcomeOf 106 = .ok (.getfield 187, 3) := by decide +kernel
theorem d_D_outcomeOf_109 : decode b_D_outcomeOf 109 = .ok (.iconst 2, 1) := by decide +kernel
theorem d_D_outcomeOf_110 : decode b_D_outcomeOf 110 = .ok (.iconst (-1), 1) := by decide +kernel
theorem d_D_outcomeOf_111 : decode b_D_outcomeOf 111 = .ok (.invokevirtual 194, 3) := by decide +kernel
theorem d_D_outcomeOf_114 : decode b_D_outcomeOf 114 = .ok (.ifCond .eq 7, 3) := by decide +kernel
theorem d_D_outcomeOf_117 : decode b_D_outcomeOf 117 = .ok (.iconst 4, 1) := by decide +kernel
theorem d_D_outcomeOf_118 : decode b_D_outcomeOf 118 = .ok (.goto 5, 3) := by decide +kernel
theorem d_D_outcomeOf_121 : decode b_D_outcomeOf 121 = .ok (.bipush (-21), 2) := by decide +kernel
theorem d_D_outcomeOf_123 : decode b_D_outcomeOf 123 = .ok (.ireturn, 1) := by decide +kernel
theorem d_D_handOutcome_0 : decode b_D_handOutcome 0 = .ok (.aload_n 0, 1) := by decide +kernel
theorem d_D_handOutcome_1 : decode b_D_handOutcome 1 = .ok (.aload_n 1, 1) := by decide +kernel
theorem d_D_handOutcome_2 : decode b_D_handOutcome 2 = .ok (.aload_n 2, 1) := by decide +kernel
theorem d_D_handOutcome_3 : decode b_D_handOutcome 3 = .ok (.iload_n 3, 1) := by decide +kernel
theorem d_D_handOutcome_4 : decode b_D_handOutcome 4 = .ok (.invokevirtual 197, 3) := by decide +kernel
theorem d_D_handOutcome_7 : decode b_D_handOutcome 7 = .ok (.istore 5, 2) := by decide +kernel
theorem d_D_handOutcome_9 : decode b_D_handOutcome 9 = .ok (.iload 5, 2) := by decide +kernel
theorem d_D_handOutcome_11 : decode b_D_handOutcome 11 = .ok (.ifCond .ge 6, 3) := by decide +kernel
theorem d_D_handOutcome_14 : decode b_D_handOutcome 14 = .ok (.iload 5, 2) := by decide +kernel
theorem d_D_handOutcome_16 : decode b_D_handOutcome 16 = .ok (.ireturn, 1) := by decide +kernel
theorem d_D_handOutcome_17 : decode b_D_handOutcome 17 = .ok (.aload_n 1, 1) := by decide +kernel
theorem d_D_handOutcome_18 : decode b_D_handOutcome 18 = .ok (.aload_n 2, 1) := by decide +kernel
theorem d_D_handOutcome_19 : decode b_D_handOutcome 19 = .ok (.iload_n 3, 1) := by decide +kernel
theorem d_D_handOutcome_20 : decode b_D_handOutcome 20 = .ok (.iload 4, 2) := by decide +kernel
theorem d_D_handOutcome_22 : decode b_D_handOutcome 22 = .ok (.invokestatic 201, 3) := by decide +kernel
theorem d_D_handOutcome_25 : decode b_D_handOutcome 25 = .ok (.ifCond .ne 6, 3) := by decide +kernel
theorem d_D_handOutcome_28 : decode b_D_handOutcome 28 = .ok (.bipush (-22), 2) := by decide +kernel
theorem d_D_handOutcome_30 : decode b_D_handOutcome 30 = .ok (.ireturn, 1) := by decide +kernel
theorem d_D_handOutcome_31 : decode b_D_handOutcome 31 = .ok (.aload_n 1, 1) := by decide +kernel
theorem d_D_handOutcome_32 : decode b_D_handOutcome 32 = .ok (.getfield 160, 3) := by decide +kernel
theorem d_D_handOutcome_35 : decode b_D_handOutcome 35 = .ok (.ifCond .le 8, 3) := by decide +kernel
theorem d_D_handOutcome_38 : decode b_D_handOutcome 38 = .ok (.bipush (-23), 2) := by decide +kernel
theorem d_D_handOutcome_40 : decode b_D_handOutcome 40 = .ok (.goto 5, 3) := by decide +kernel
theorem d_D_handOutcome_43 : decode b_D_handOutcome 43 = .ok (.iload 5, 2) := by decide +kernel
theorem d_D_handOutcome_45 : decode b_D_handOutcome 45 = .ok (.ireturn, 1) := by decide +kernel
theorem d_D_takerOutcome_0 : decode b_D_takerOutcome 0 = .ok (.iload_n 3, 1) := by decide +kernel
theorem d_D_takerOutcome_1 : decode b_D_takerOutcome 1 = .ok (.aload_n 1, 1) := by decide +kernel
theorem d_D_takerOutcome_2 : decode b_D_takerOutcome 2 = .ok (.getfield 187, 3) := by decide +kernel
theorem d_D_takerOutcome_5 : decode b_D_takerOutcome 5 = .ok (.if_icmp .ne 5, 3) := by decide +kernel
theorem d_D_takerOutcome_8 : decode b_D_takerOutcome 8 = .ok (.iconst 1, 1) := by decide +kernel
theorem d_D_takerOutcome_9 : decode b_D_takerOutcome 9 = .ok (.ireturn, 1) := by decide +kernel
theorem d_D_takerOutcome_10 : decode b_D_takerOutcome 10 = .ok (.aload_n 0, 1) := by decide +kernel
theorem d_D_takerOutcome_11 : decode b_D_takerOutcome 11 = .ok (.aload_n 1, 1) := by decide +kernel
theorem d_D_takerOutcome_12 : decode b_D_takerOutcome 12 = .ok (.iload_n 3, 1) := by decide +kernel
theorem d_D_takerOutcome_13 : decode b_D_takerOutcome 13 = .ok (.invokevirtual 190, 3) := by decide +kernel
theorem d_D_takerOutcome_16 : decode b_D_takerOutcome 16 = .ok (.ifCond .eq 5, 3) := by decide +kernel
theorem d_D_takerOutcome_19 : decode b_D_takerOutcome 19 = .ok (.iconst 2, 1) := by decide +kernel
theorem d_D_takerOutcome_20 : decode b_D_takerOutcome 20 = .ok (.ireturn, 1) := by decide +kernel
theorem d_D_takerOutcome_21 : decode b_D_takerOutcome 21 = .ok (.aload_n 1, 1) := by decide +kernel
theorem d_D_takerOutcome_22 : decode b_D_takerOutcome 22 = .ok (.getfield 144, 3) := by decide +kernel
theorem d_D_takerOutcome_25 : decode b_D_takerOutcome 25 = .ok (.iconst 1, 1) := by decide +kernel
theorem d_D_takerOutcome_26 : decode b_D_takerOutcome 26 = .ok (.if_icmp .gt 15, 3) := by decide +kernel
theorem d_D_takerOutcome_29 : decode b_D_takerOutcome 29 = .ok (.aload_n 2, 1) := by decide +kernel
theorem d_D_takerOutcome_30 : decode b_D_takerOutcome 30 = .ok (.getfield 157, 3) := by decide +kernel
theorem d_D_takerOutcome_33 : decode b_D_takerOutcome 33 = .ok (.iconst 2, 1) := by decide +kernel
theorem d_D_takerOutcome_34 : decode b_D_takerOutcome 34 = .ok (.if_icmp .eq 7, 3) := by decide +kernel
theorem d_D_takerOutcome_37 : decode b_D_takerOutcome 37 = .ok (.iconst 1, 1) := by decide +kernel
theorem d_D_takerOutcome_38 : decode b_D_takerOutcome 38 = .ok (.goto 4, 3) := by decide +kernel
theorem d_D_takerOutcome_41 : decode b_D_takerOutcome 41 = .ok (.iconst 0, 1) := by decide +kernel
theorem d_D_takerOutcome_42 : decode b_D_takerOutcome 42 = .ok (.istore 4, 2) := by decide +kernel
theorem d_D_takerOutcome_44 : decode b_D_takerOutcome 44 = .ok (.iload 4, 2) := by decide +kernel
theorem d_D_takerOutcome_46 : decode b_D_takerOutcome 46 = .ok (.ifCond .eq 23, 3) := by decide +kernel
theorem d_D_takerOutcome_49 : decode b_D_takerOutcome 49 = .ok (.aload_n 0, 1) := by decide +kernel
theorem d_D_takerOutcome_50 : decode b_D_takerOutcome 50 = .ok (.getfield 22, 3) := by decide +kernel
theorem d_D_takerOutcome_53 : decode b_D_takerOutcome 53 = .ok (.aload_n 1, 1) := by decide +kernel
theorem d_D_takerOutcome_54 : decode b_D_takerOutcome 54 = .ok (.getfield 187, 3) := by decide +kernel
theorem d_D_takerOutcome_57 : decode b_D_takerOutcome 57 = .ok (.iconst 0, 1) := by decide +kernel
theorem d_D_takerOutcome_58 : decode b_D_takerOutcome 58 = .ok (.iload_n 3, 1) := by decide +kernel
theorem d_D_takerOutcome_59 : decode b_D_takerOutcome 59 = .ok (.invokevirtual 194, 3) := by decide +kernel
theorem d_D_takerOutcome_62 : decode b_D_takerOutcome 62 = .ok (.ifCond .eq 7, 3) := by decide +kernel
theorem d_D_takerOutcome_65 : decode b_D_takerOutcome 65 = .ok (.iconst 3, 1) := by decide +kernel
theorem d_D_takerOutcome_66 : decode b_D_takerOutcome 66 = .ok (.goto 5, 3) := by decide +kernel
theorem d_D_takerOutcome_69 : decode b_D_takerOutcome 69 = .ok (.bipush (-21), 2) := by decide +kernel
theorem d_D_takerOutcome_71 : decode b_D_takerOutcome 71 = .ok (.ireturn, 1) := by decide +kernel
theorem d_D_hasOrder_0 : decode b_D_hasOrder 0 = .ok (.aload_n 1, 1) := by decide +kernel
theorem d_D_hasOrder_1 : decode b_D_hasOrder 1 = .ok (.getfield 144, 3) := by decide +kernel
theorem d_D_hasOrder_4 : decode b_D_hasOrder 4 = .ok (.iconst 2, 1) := by decide +kernel
theorem d_D_hasOrder_5 : decode b_D_hasOrder 5 = .ok (.if_icmp .eq 23, 3) := by decide +kernel
theorem d_D_hasOrder_8 : decode b_D_hasOrder 8 = .ok (.aload_n 0, 1) := by decide +kernel
theorem d_D_hasOrder_9 : decode b_D_hasOrder 9 = .ok (.getfield 22, 3) := by decide +kernel
theorem d_D_hasOrder_12 : decode b_D_hasOrder 12 = .ok (.aload_n 1, 1) := by decide +kernel
theorem d_D_hasOrder_13 : decode b_D_hasOrder 13 = .ok (.getfield 187, 3) := by decide +kernel
theorem d_D_hasOrder_16 : decode b_D_hasOrder 16 = .ok (.iconst 1, 1) := by decide +kernel
theorem d_D_hasOrder_17 : decode b_D_hasOrder 17 = .ok (.iload_n 2, 1) := by decide +kernel
theorem d_D_hasOrder_18 : decode b_D_hasOrder 18 = .ok (.invokevirtual 194, 3) := by decide +kernel
theorem d_D_hasOrder_21 : decode b_D_hasOrder 21 = .ok (.ifCond .eq 7, 3) := by decide +kernel
theorem d_D_hasOrder_24 : decode b_D_hasOrder 24 = .ok (.iconst 1, 1) := by decide +kernel
theorem d_D_hasOrder_25 : decode b_D_hasOrder 25 = .ok (.goto 4, 3) := by decide +kernel
theorem d_D_hasOrder_28 : decode b_D_hasOrder 28 = .ok (.iconst 0, 1) := by decide +kernel
theorem d_D_hasOrder_29 : decode b_D_hasOrder 29 = .ok (.ireturn, 1) := by decide +kernel
theorem d_N_stand_0 : decode b_N_stand 0 = .ok (.aload_n 0, 1) := by decide +kernel
theorem d_N_stand_1 : decode b_N_stand 1 = .ok (.iload_n 1, 1) := by decide +kernel
theorem d_N_stand_2 : decode b_N_stand 2 = .ok (.iload_n 2, 1) := by decide +kernel
theorem d_N_stand_3 : decode b_N_stand 3 = .ok (.iload_n 3, 1) := by decide +kernel
theorem d_N_stand_4 : decode b_N_stand 4 = .ok (.invokestatic 19, 3) := by decide +kernel
theorem d_N_stand_7 : decode b_N_stand 7 = .ok (.invokevirtual 23, 3) := by decide +kernel
theorem d_N_stand_10 : decode b_N_stand 10 = .ok (.ifCond .lt 7, 3) := by decide +kernel
theorem d_N_stand_13 : decode b_N_stand 13 = .ok (.iconst 1, 1) := by decide +kernel
theorem d_N_stand_14 : decode b_N_stand 14 = .ok (.goto 4, 3) := by decide +kernel
theorem d_N_stand_17 : decode b_N_stand 17 = .ok (.iconst 0, 1) := by decide +kernel
theorem d_N_stand_18 : decode b_N_stand 18 = .ok (.ireturn, 1) := by decide +kernel
theorem d_D_isProofEnough_0 : decode b_D_isProofEnough 0 = .ok (.iload_n 3, 1) := by decide +kernel
theorem d_D_isProofEnough_1 : decode b_D_isProofEnough 1 = .ok (.iconst (-1), 1) := by decide +kernel
theorem d_D_isProofEnough_2 : decode b_D_isProofEnough 2 = .ok (.if_icmp .ne 32, 3) := by decide +kernel
theorem d_D_isProofEnough_5 : decode b_D_isProofEnough 5 = .ok (.aload_n 1, 1) := by decide +kernel
theorem d_D_isProofEnough_6 : decode b_D_isProofEnough 6 = .ok (.getfield 157, 3) := by decide +kernel
theorem d_D_isProofEnough_9 : decode b_D_isProofEnough 9 = .ok (.iconst 2, 1) := by decide +kernel
theorem d_D_isProofEnough_10 : decode b_D_isProofEnough 10 = .ok (.if_icmp .eq 22, 3) := by decide +kernel
theorem d_D_isProofEnough_13 : decode b_D_isProofEnough 13 = .ok (.aload_n 0, 1) := by decide +kernel
theorem d_D_isProofEnough_14 : decode b_D_isProofEnough 14 = .ok (.getfield 144, 3) := by decide +kernel
theorem d_D_isProofEnough_17 : decode b_D_isProofEnough 17 = .ok (.ifCond .eq 11, 3) := by decide +kernel
theorem d_D_isProofEnough_20 : decode b_D_isProofEnough 20 = .ok (.aload_n 0, 1) := by decide +kernel
theorem d_D_isProofEnough_21 : decode b_D_isProofEnough 21 = .ok (.getfield 144, 3) := by decide +kernel
theorem d_D_isProofEnough_24 : decode b_D_isProofEnough 24 = .ok (.iconst 5, 1) := by decide +kernel
theorem d_D_isProofEnough_25 : decode b_D_isProofEnough 25 = .ok (.if_icmp .ne 7, 3) := by decide +kernel
theorem d_D_isProofEnough_28 : decode b_D_isProofEnough 28 = .ok (.iconst 1, 1) := by decide +kernel
theorem d_D_isProofEnough_29 : decode b_D_isProofEnough 29 = .ok (.goto 4, 3) := by decide +kernel
theorem d_D_isProofEnough_32 : decode b_D_isProofEnough 32 = .ok (.iconst 0, 1) := by decide +kernel
theorem d_D_isProofEnough_33 : decode b_D_isProofEnough 33 = .ok (.ireturn, 1) := by decide +kernel
theorem d_D_isProofEnough_34 : decode b_D_isProofEnough 34 = .ok (.iload_n 3, 1) := by decide +kernel
theorem d_D_isProofEnough_35 : decode b_D_isProofEnough 35 = .ok (.iconst 4, 1) := by decide +kernel
theorem d_D_isProofEnough_36 : decode b_D_isProofEnough 36 = .ok (.idiv, 1) := by decide +kernel
theorem d_D_isProofEnough_37 : decode b_D_isProofEnough 37 = .ok (.iload_n 2, 1) := by decide +kernel
theorem d_D_isProofEnough_38 : decode b_D_isProofEnough 38 = .ok (.if_icmp .eq 5, 3) := by decide +kernel
theorem d_D_isProofEnough_41 : decode b_D_isProofEnough 41 = .ok (.iconst 0, 1) := by decide +kernel
theorem d_D_isProofEnough_42 : decode b_D_isProofEnough 42 = .ok (.ireturn, 1) := by decide +kernel
theorem d_D_isProofEnough_43 : decode b_D_isProofEnough 43 = .ok (.iload_n 3, 1) := by decide +kernel
theorem d_D_isProofEnough_44 : decode b_D_isProofEnough 44 = .ok (.iconst 4, 1) := by decide +kernel
theorem d_D_isProofEnough_45 : decode b_D_isProofEnough 45 = .ok (.irem, 1) := by decide +kernel
theorem d_D_isProofEnough_46 : decode b_D_isProofEnough 46 = .ok (.istore 4, 2) := by decide +kernel
theorem d_D_isProofEnough_48 : decode b_D_isProofEnough 48 = .ok (.aload_n 0, 1) := by decide +kernel
theorem d_D_isProofEnough_49 : decode b_D_isProofEnough 49 = .ok (.getfield 144, 3) := by decide +kernel
theorem d_D_isProofEnough_52 : decode b_D_isProofEnough 52 = .ok (.iconst 2, 1) := by decide +kernel
theorem d_D_isProofEnough_53 : decode b_D_isProofEnough 53 = .ok (.if_icmp .ne 21, 3) := by decide +kernel
theorem d_D_isProofEnough_56 : decode b_D_isProofEnough 56 = .ok (.iload 4, 2) := by decide +kernel
theorem d_D_isProofEnough_58 : decode b_D_isProofEnough 58 = .ok (.iconst 1, 1) := by decide +kernel
theorem d_D_isProofEnough_59 : decode b_D_isProofEnough 59 = .ok (.if_icmp .eq 9, 3) := by decide +kernel
theorem d_D_isProofEnough_62 : decode b_D_isProofEnough 62 = .ok (.iload 4, 2) := by decide +kernel
theorem d_D_isProofEnough_64 : decode b_D_isProofEnough 64 = .ok (.iconst 2, 1) := by decide +kernel
theorem d_D_isProofEnough_65 : decode b_D_isProofEnough 65 = .ok (.if_icmp .ne 7, 3) := by decide +kernel
theorem d_D_isProofEnough_68 : decode b_D_isProofEnough 68 = .ok (.iconst 1, 1) := by decide +kernel
theorem d_D_isProofEnough_69 : decode b_D_isProofEnough 69 = .ok (.goto 4, 3) := by decide +kernel
theorem d_D_isProofEnough_72 : decode b_D_isProofEnough 72 = .ok (.iconst 0, 1) := by decide +kernel
theorem d_D_isProofEnough_73 : decode b_D_isProofEnough 73 = .ok (.ireturn, 1) := by decide +kernel
theorem d_D_isProofEnough_74 : decode b_D_isProofEnough 74 = .ok (.aload_n 0, 1) := by decide +kernel
theorem d_D_isProofEnough_75 : decode b_D_isProofEnough 75 = .ok (.getfield 144, 3) := by decide +kernel
theorem d_D_isProofEnough_78 : decode b_D_isProofEnough 78 = .ok (.iconst 3, 1) := by decide +kernel
theorem d_D_isProofEnough_79 : decode b_D_isProofEnough 79 = .ok (.if_icmp .ne 9, 3) := by decide +kernel
theorem d_D_isProofEnough_82 : decode b_D_isProofEnough 82 = .ok (.iload 4, 2) := by decide +kernel
theorem d_D_isProofEnough_84 : decode b_D_isProofEnough 84 = .ok (.iconst 2, 1) := by decide +kernel
theorem d_D_isProofEnough_85 : decode b_D_isProofEnough 85 = .ok (.if_icmp .ne 7, 3) := by decide +kernel
theorem d_D_isProofEnough_88 : decode b_D_isProofEnough 88 = .ok (.iconst 1, 1) := by decide +kernel
theorem d_D_isProofEnough_89 : decode b_D_isProofEnough 89 = .ok (.goto 4, 3) := by decide +kernel
theorem d_D_isProofEnough_92 : decode b_D_isProofEnough 92 = .ok (.iconst 0, 1) := by decide +kernel
theorem d_D_isProofEnough_93 : decode b_D_isProofEnough 93 = .ok (.ireturn, 1) := by decide +kernel
theorem d_A_init_0 : decode b_A_init 0 = .ok (.aload_n 0, 1) := by decide +kernel
theorem d_A_init_1 : decode b_A_init 1 = .ok (.invokespecial 1, 3) := by decide +kernel
theorem d_A_init_4 : decode b_A_init 4 = .ok (.aload_n 0, 1) := by decide +kernel
theorem d_A_init_5 : decode b_A_init 5 = .ok (.aload_n 1, 1) := by decide +kernel
theorem d_A_init_6 : decode b_A_init 6 = .ok (.putfield 7, 3) := by decide +kernel
theorem d_A_init_9 : decode b_A_init 9 = .ok (.aload_n 0, 1) := by decide +kernel
theorem d_A_init_10 : decode b_A_init 10 = .ok (.iload_n 2, 1) := by decide +kernel
theorem d_A_init_11 : decode b_A_init 11 = .ok (.putfield 13, 3) := by decide +kernel
theorem d_A_init_14 : decode b_A_init 14 = .ok (.aload_n 0, 1) := by decide +kernel
theorem d_A_init_15 : decode b_A_init 15 = .ok (.iload_n 3, 1) := by decide +kernel
theorem d_A_init_16 : decode b_A_init 16 = .ok (.putfield 17, 3) := by decide +kernel
theorem d_A_init_19 : decode b_A_init 19 = .ok (.aload_n 0, 1) := by decide +kernel
theorem d_A_init_20 : decode b_A_init 20 = .ok (.iload 4, 2) := by decide +kernel
theorem d_A_init_22 : decode b_A_init 22 = .ok (.putfield 20, 3) := by decide +kernel
theorem d_A_init_25 : decode b_A_init 25 = .ok (.aload_n 0, 1) := by decide +kernel
theorem d_A_init_26 : decode b_A_init 26 = .ok (.iload 5, 2) := by decide +kernel
theorem d_A_init_28 : decode b_A_init 28 = .ok (.putfield 23, 3) := by decide +kernel
theorem d_A_init_31 : decode b_A_init 31 = .ok (.aload_n 0, 1) := by decide +kernel
theorem d_A_init_32 : decode b_A_init 32 = .ok (.iload 6, 2) := by decide +kernel
theorem d_A_init_34 : decode b_A_init 34 = .ok (.putfield 26, 3) := by decide +kernel
theorem d_A_init_37 : decode b_A_init 37 = .ok (.return_, 1) := by decide +kernel
theorem d_F_change_0 : decode b_F_change 0 = .ok (.aload_n 0, 1) := by decide +kernel
theorem d_F_change_1 : decode b_F_change 1 = .ok (.aload_n 1, 1) := by decide +kernel
theorem d_F_change_2 : decode b_F_change 2 = .ok (.getfield 50, 3) := by decide +kernel
theorem d_F_change_5 : decode b_F_change 5 = .ok (.putfield 43, 3) := by decide +kernel
theorem d_F_change_8 : decode b_F_change 8 = .ok (.aload_n 1, 1) := by decide +kernel
theorem d_F_change_9 : decode b_F_change 9 = .ok (.getfield 55, 3) := by decide +kernel
theorem d_F_change_12 : decode b_F_change 12 = .ok (.tableswitch 76 1 4 #[32, 43, 52, 60], 32) := by decide +kernel
theorem d_F_change_44 : decode b_F_change 44 = .ok (.aload_n 0, 1) := by decide +kernel
theorem d_F_change_45 : decode b_F_change 45 = .ok (.aload_n 1, 1) := by decide +kernel
theorem d_F_change_46 : decode b_F_change 46 = .ok (.getfield 58, 3) := by decide +kernel
theorem d_F_change_49 : decode b_F_change 49 = .ok (.invokevirtual 61, 3) := by decide +kernel
theorem d_F_change_52 : decode b_F_change 52 = .ok (.goto 41, 3) := by decide +kernel
theorem d_F_change_55 : decode b_F_change 55 = .ok (.aload_n 0, 1) := by decide +kernel
theorem d_F_change_56 : decode b_F_change 56 = .ok (.bipush 7, 2) := by decide +kernel
theorem d_F_change_58 : decode b_F_change 58 = .ok (.putfield 9, 3) := by decide +kernel
theorem d_F_change_61 : decode b_F_change 61 = .ok (.goto 32, 3) := by decide +kernel
theorem d_F_change_64 : decode b_F_change 64 = .ok (.aload_n 0, 1) := by decide +kernel
theorem d_F_change_65 : decode b_F_change 65 = .ok (.iconst 1, 1) := by decide +kernel
theorem d_F_change_66 : decode b_F_change 66 = .ok (.putfield 18, 3) := by decide +kernel
theorem d_F_change_69 : decode b_F_change 69 = .ok (.goto 24, 3) := by decide +kernel
theorem d_F_change_72 : decode b_F_change 72 = .ok (.aload_n 0, 1) := by decide +kernel
theorem d_F_change_73 : decode b_F_change 73 = .ok (.aload_n 0, 1) := by decide +kernel
theorem d_F_change_74 : decode b_F_change 74 = .ok (.getfield 15, 3) := by decide +kernel
theorem d_F_change_77 : decode b_F_change 77 = .ok (.putfield 9, 3) := by decide +kernel
theorem d_F_change_80 : decode b_F_change 80 = .ok (.aload_n 0, 1) := by decide +kernel
theorem d_F_change_81 : decode b_F_change 81 = .ok (.iconst 0, 1) := by decide +kernel
theorem d_F_change_82 : decode b_F_change 82 = .ok (.putfield 40, 3) := by decide +kernel
theorem d_F_change_85 : decode b_F_change 85 = .ok (.goto 8, 3) := by decide +kernel
theorem d_F_change_88 : decode b_F_change 88 = .ok (.aload_n 0, 1) := by decide +kernel
theorem d_F_change_89 : decode b_F_change 89 = .ok (.aload_n 1, 1) := by decide +kernel
theorem d_F_change_90 : decode b_F_change 90 = .ok (.invokevirtual 65, 3) := by decide +kernel
theorem d_F_change_93 : decode b_F_change 93 = .ok (.return_, 1) := by decide +kernel
theorem d_F_leaveCard_0 : decode b_F_leaveCard 0 = .ok (.aload_n 0, 1) := by decide +kernel
theorem d_F_leaveCard_1 : decode b_F_leaveCard 1 = .ok (.dup, 1) := by decide +kernel
theorem d_F_leaveCard_2 : decode b_F_leaveCard 2 = .ok (.getfield 22, 3) := by decide +kernel
theorem d_F_leaveCard_5 : decode b_F_leaveCard 5 = .ok (.iconst 1, 1) := by decide +kernel
theorem d_F_leaveCard_6 : decode b_F_leaveCard 6 = .ok (.iadd, 1) := by decide +kernel
theorem d_F_leaveCard_7 : decode b_F_leaveCard 7 = .ok (.putfield 22, 3) := by decide +kernel
theorem d_F_leaveCard_10 : decode b_F_leaveCard 10 = .ok (.aload_n 0, 1) := by decide +kernel
theorem d_F_leaveCard_11 : decode b_F_leaveCard 11 = .ok (.getfield 9, 3) := by decide +kernel
theorem d_F_leaveCard_14 : decode b_F_leaveCard 14 = .ok (.ifCond .ne 16, 3) := by decide +kernel
theorem d_F_leaveCard_17 : decode b_F_leaveCard 17 = .ok (.aload_n 0, 1) := by decide +kernel
theorem d_F_leaveCard_18 : decode b_F_leaveCard 18 = .ok (.iconst 1, 1) := by decide +kernel
theorem d_F_leaveCard_19 : decode b_F_leaveCard 19 = .ok (.putfield 9, 3) := by decide +kernel
theorem d_F_leaveCard_22 : decode b_F_leaveCard 22 = .ok (.aload_n 0, 1) := by decide +kernel
theorem d_F_leaveCard_23 : decode b_F_leaveCard 23 = .ok (.iload_n 1, 1) := by decide +kernel
theorem d_F_leaveCard_24 : decode b_F_leaveCard 24 = .ok (.putfield 25, 3) := by decide +kernel
theorem d_F_leaveCard_27 : decode b_F_leaveCard 27 = .ok (.goto 16, 3) := by decide +kernel
theorem d_F_leaveCard_30 : decode b_F_leaveCard 30 = .ok (.aload_n 0, 1) := by decide +kernel
theorem d_F_leaveCard_31 : decode b_F_leaveCard 31 = .ok (.iconst 2, 1) := by decide +kernel
theorem d_F_leaveCard_32 : decode b_F_leaveCard 32 = .ok (.putfield 9, 3) := by decide +kernel
theorem d_F_leaveCard_35 : decode b_F_leaveCard 35 = .ok (.aload_n 0, 1) := by decide +kernel
theorem d_F_leaveCard_36 : decode b_F_leaveCard 36 = .ok (.iload_n 1, 1) := by decide +kernel
theorem d_F_leaveCard_37 : decode b_F_leaveCard 37 = .ok (.bipush 7, 2) := by decide +kernel
theorem d_F_leaveCard_39 : decode b_F_leaveCard 39 = .ok (.iadd, 1) := by decide +kernel
theorem d_F_leaveCard_40 : decode b_F_leaveCard 40 = .ok (.putfield 28, 3) := by decide +kernel
theorem d_F_leaveCard_43 : decode b_F_leaveCard 43 = .ok (.return_, 1) := by decide +kernel
theorem d_F_handOver_0 : decode b_F_handOver 0 = .ok (.aload_n 0, 1) := by decide +kernel
theorem d_F_handOver_1 : decode b_F_handOver 1 = .ok (.aload_n 0, 1) := by decide +kernel
theorem d_F_handOver_2 : decode b_F_handOver 2 = .ok (.getfield 9, 3) := by decide +kernel
theorem d_F_handOver_5 : decode b_F_handOver 5 = .ok (.putfield 15, 3) := by decide +kernel
theorem d_F_handOver_8 : decode b_F_handOver 8 = .ok (.aload_n 0, 1) := by decide +kernel
theorem d_F_handOver_9 : decode b_F_handOver 9 = .ok (.iconst 3, 1) := by decide +kernel
theorem d_F_handOver_10 : decode b_F_handOver 10 = .ok (.aload_n 1, 1) := by decide +kernel
theorem d_F_handOver_11 : decode b_F_handOver 11 = .ok (.getfield 69, 3) := by decide +kernel
theorem d_F_handOver_14 : decode b_F_handOver 14 = .ok (.iadd, 1) := by decide +kernel
theorem d_F_handOver_15 : decode b_F_handOver 15 = .ok (.iconst 1, 1) := by decide +kernel
theorem d_F_handOver_16 : decode b_F_handOver 16 = .ok (.isub, 1) := by decide +kernel
theorem d_F_handOver_17 : decode b_F_handOver 17 = .ok (.putfield 9, 3) := by decide +kernel
theorem d_F_handOver_20 : decode b_F_handOver 20 = .ok (.aload_n 0, 1) := by decide +kernel
theorem d_F_handOver_21 : decode b_F_handOver 21 = .ok (.aload_n 1, 1) := by decide +kernel
theorem d_F_handOver_22 : decode b_F_handOver 22 = .ok (.getfield 50, 3) := by decide +kernel
theorem d_F_handOver_25 : decode b_F_handOver 25 = .ok (.putfield 31, 3) := by decide +kernel
theorem d_F_handOver_28 : decode b_F_handOver 28 = .ok (.aload_n 0, 1) := by decide +kernel
theorem d_F_handOver_29 : decode b_F_handOver 29 = .ok (.aload_n 1, 1) := by decide +kernel
theorem d_F_handOver_30 : decode b_F_handOver 30 = .ok (.getfield 58, 3) := by decide +kernel
theorem d_F_handOver_33 : decode b_F_handOver 33 = .ok (.putfield 34, 3) := by decide +kernel
theorem d_F_handOver_36 : decode b_F_handOver 36 = .ok (.aload_n 0, 1) := by decide +kernel
theorem d_F_handOver_37 : decode b_F_handOver 37 = .ok (.aload_n 1, 1) := by decide +kernel
theorem d_F_handOver_38 : decode b_F_handOver 38 = .ok (.getfield 72, 3) := by decide +kernel
theorem d_F_handOver_41 : decode b_F_handOver 41 = .ok (.putfield 37, 3) := by decide +kernel
theorem d_F_handOver_44 : decode b_F_handOver 44 = .ok (.return_, 1) := by decide +kernel
theorem d_D_join_0 : decode b_D_join 0 = .ok (.iload_n 1, 1) := by decide +kernel
theorem d_D_join_1 : decode b_D_join 1 = .ok (.invokestatic 62, 3) := by decide +kernel
theorem d_D_join_4 : decode b_D_join 4 = .ok (.ifCond .ne 6, 3) := by decide +kernel
theorem d_D_join_7 : decode b_D_join 7 = .ok (.bipush (-12), 2) := by decide +kernel
theorem d_D_join_9 : decode b_D_join 9 = .ok (.ireturn, 1) := by decide +kernel
theorem d_D_join_10 : decode b_D_join 10 = .ok (.aload_n 0, 1) := by decide +kernel
theorem d_D_join_11 : decode b_D_join 11 = .ok (.getfield 28, 3) := by decide +kernel
theorem d_D_join_14 : decode b_D_join 14 = .ok (.iload_n 1, 1) := by decide +kernel
theorem d_D_join_15 : decode b_D_join 15 = .ok (.aaload, 1) := by decide +kernel
theorem d_D_join_16 : decode b_D_join 16 = .ok (.astore_n 2, 1) := by decide +kernel
theorem d_D_join_17 : decode b_D_join 17 = .ok (.aload_n 2, 1) := by decide +kernel
theorem d_D_join_18 : decode b_D_join 18 = .ok (.getfield 65, 3) := by decide +kernel
theorem d_D_join_21 : decode b_D_join 21 = .ok (.ifCond .ne 6, 3) := by decide +kernel
theorem d_D_join_24 : decode b_D_join 24 = .ok (.bipush (-13), 2) := by decide +kernel
theorem d_D_join_26 : decode b_D_join 26 = .ok (.ireturn, 1) := by decide +kernel
theorem d_D_join_27 : decode b_D_join 27 = .ok (.aload_n 0, 1) := by decide +kernel
theorem d_D_join_28 : decode b_D_join 28 = .ok (.getfield 16, 3) := by decide +kernel
theorem d_D_join_31 : decode b_D_join 31 = .ok (.invokevirtual 41, 3) := by decide +kernel
theorem d_D_join_34 : decode b_D_join 34 = .ok (.istore_n 3, 1) := by decide +kernel
theorem d_D_join_35 : decode b_D_join 35 = .ok (.aload_n 2, 1) := by decide +kernel
theorem d_D_join_36 : decode b_D_join 36 = .ok (.getfield 93, 3) := by decide +kernel
theorem d_D_join_39 : decode b_D_join 39 = .ok (.invokevirtual 41, 3) := by decide +kernel
theorem d_D_join_42 : decode b_D_join 42 = .ok (.istore 4, 2) := by decide +kernel
theorem d_D_join_44 : decode b_D_join 44 = .ok (.iconst 0, 1) := by decide +kernel
theorem d_D_join_45 : decode b_D_join 45 = .ok (.istore 5, 2) := by decide +kernel
theorem d_D_join_47 : decode b_D_join 47 = .ok (.iload 5, 2) := by decide +kernel
theorem d_D_join_49 : decode b_D_join 49 = .ok (.iload 4, 2) := by decide +kernel
theorem d_D_join_51 : decode b_D_join 51 = .ok (.if_icmp .ge 25, 3) := by decide +kernel
theorem d_D_join_54 : decode b_D_join 54 = .ok (.aload_n 0, 1) := by decide +kernel
theorem d_D_join_55 : decode b_D_join 55 = .ok (.aload_n 2, 1) := by decide +kernel
theorem d_D_join_56 : decode b_D_join 56 = .ok (.getfield 93, 3) := by decide +kernel
theorem d_D_join_59 : decode b_D_join 59 = .ok (.iload 5, 2) := by decide +kernel
theorem d_D_join_61 : decode b_D_join 61 = .ok (.invokevirtual 109, 3) := by decide +kernel
theorem d_D_join_64 : decode b_D_join 64 = .ok (.checkcast 100, 3) := by decide +kernel
theorem d_D_join_67 : decode b_D_join 67 = .ok (.invokevirtual 113, 3) := by decide +kernel
theorem d_D_join_70 : decode b_D_join 70 = .ok (.iinc 5 1, 3) := by decide +kernel
theorem d_D_join_73 : decode b_D_join 73 = .ok (.goto (-26), 3) := by decide +kernel
theorem d_D_join_76 : decode b_D_join 76 = .ok (.aload_n 2, 1) := by decide +kernel
theorem d_D_join_77 : decode b_D_join 77 = .ok (.invokevirtual 116, 3) := by decide +kernel
theorem d_D_join_80 : decode b_D_join 80 = .ok (.aload_n 0, 1) := by decide +kernel
theorem d_D_join_81 : decode b_D_join 81 = .ok (.getfield 16, 3) := by decide +kernel
theorem d_D_join_84 : decode b_D_join 84 = .ok (.invokevirtual 41, 3) := by decide +kernel
theorem d_D_join_87 : decode b_D_join 87 = .ok (.iload_n 3, 1) := by decide +kernel
theorem d_D_join_88 : decode b_D_join 88 = .ok (.if_icmp .ne 8, 3) := by decide +kernel
theorem d_D_join_91 : decode b_D_join 91 = .ok (.iload 4, 2) := by decide +kernel
theorem d_D_join_93 : decode b_D_join 93 = .ok (.goto 6, 3) := by decide +kernel
theorem d_D_join_96 : decode b_D_join 96 = .ok (.iconst (-1), 1) := by decide +kernel
theorem d_D_join_97 : decode b_D_join 97 = .ok (.iload_n 3, 1) := by decide +kernel
theorem d_D_join_98 : decode b_D_join 98 = .ok (.isub, 1) := by decide +kernel
theorem d_D_join_99 : decode b_D_join 99 = .ok (.ireturn, 1) := by decide +kernel
theorem d_D_doForAll_0 : decode b_D_doForAll 0 = .ok (.aload_n 1, 1) := by decide +kernel
theorem d_D_doForAll_1 : decode b_D_doForAll 1 = .ok (.getfield 166, 3) := by decide +kernel
theorem d_D_doForAll_4 : decode b_D_doForAll 4 = .ok (.getfield 73, 3) := by decide +kernel
theorem d_D_doForAll_7 : decode b_D_doForAll 7 = .ok (.astore_n 2, 1) := by decide +kernel
theorem d_D_doForAll_8 : decode b_D_doForAll 8 = .ok (.aload_n 2, 1) := by decide +kernel
theorem d_D_doForAll_9 : decode b_D_doForAll 9 = .ok (.aload_n 1, 1) := by decide +kernel
theorem d_D_doForAll_10 : decode b_D_doForAll 10 = .ok (.getfield 169, 3) := by decide +kernel
theorem d_D_doForAll_13 : decode b_D_doForAll 13 = .ok (.aload_n 1, 1) := by decide +kernel
theorem d_D_doForAll_14 : decode b_D_doForAll 14 = .ok (.getfield 172, 3) := by decide +kernel
theorem d_D_doForAll_17 : decode b_D_doForAll 17 = .ok (.aload_n 1, 1) := by decide +kernel
theorem d_D_doForAll_18 : decode b_D_doForAll 18 = .ok (.getfield 175, 3) := by decide +kernel
theorem d_D_doForAll_21 : decode b_D_doForAll 21 = .ok (.invokevirtual 88, 3) := by decide +kernel
theorem d_D_doForAll_24 : decode b_D_doForAll 24 = .ok (.ifCond .eq 11, 3) := by decide +kernel
theorem d_D_doForAll_27 : decode b_D_doForAll 27 = .ok (.aload_n 2, 1) := by decide +kernel
theorem d_D_doForAll_28 : decode b_D_doForAll 28 = .ok (.aload_n 1, 1) := by decide +kernel
theorem d_D_doForAll_29 : decode b_D_doForAll 29 = .ok (.invokevirtual 105, 3) := by decide +kernel
theorem d_D_doForAll_32 : decode b_D_doForAll 32 = .ok (.goto 46, 3) := by decide +kernel
theorem d_D_doForAll_35 : decode b_D_doForAll 35 = .ok (.aload_n 0, 1) := by decide +kernel
theorem d_D_doForAll_36 : decode b_D_doForAll 36 = .ok (.getfield 16, 3) := by decide +kernel
theorem d_D_doForAll_39 : decode b_D_doForAll 39 = .ok (.invokevirtual 41, 3) := by decide +kernel
theorem d_D_doForAll_42 : decode b_D_doForAll 42 = .ok (.sipush 512, 3) := by decide +kernel
theorem d_D_doForAll_45 : decode b_D_doForAll 45 = .ok (.if_icmp .ge 33, 3) := by decide +kernel
theorem d_D_doForAll_48 : decode b_D_doForAll 48 = .ok (.aload_n 0, 1) := by decide +kernel
theorem d_D_doForAll_49 : decode b_D_doForAll 49 = .ok (.getfield 16, 3) := by decide +kernel
theorem d_D_doForAll_52 : decode b_D_doForAll 52 = .ok (.new 119, 3) := by decide +kernel
theorem d_D_doForAll_55 : decode b_D_doForAll 55 = .ok (.dup, 1) := by decide +kernel
theorem d_D_doForAll_56 : decode b_D_doForAll 56 = .ok (.aload_n 1, 1) := by decide +kernel
theorem d_D_doForAll_57 : decode b_D_doForAll 57 = .ok (.getfield 166, 3) := by decide +kernel
theorem d_D_doForAll_60 : decode b_D_doForAll 60 = .ok (.getfield 178, 3) := by decide +kernel
theorem d_D_doForAll_63 : decode b_D_doForAll 63 = .ok (.aload_n 2, 1) := by decide +kernel
theorem d_D_doForAll_64 : decode b_D_doForAll 64 = .ok (.getfield 181, 3) := by decide +kernel
theorem d_D_doForAll_67 : decode b_D_doForAll 67 = .ok (.aload_n 1, 1) := by decide +kernel
theorem d_D_doForAll_68 : decode b_D_doForAll 68 = .ok (.getfield 172, 3) := by decide +kernel
theorem d_D_doForAll_71 : decode b_D_doForAll 71 = .ok (.invokespecial 182, 3) := by decide +kernel
theorem d_D_doForAll_74 : decode b_D_doForAll 74 = .ok (.invokevirtual 50, 3) := by decide +kernel
theorem d_D_doForAll_77 : decode b_D_doForAll 77 = .ok (.pop, 1) := by decide +kernel
theorem d_D_doForAll_78 : decode b_D_doForAll 78 = .ok (.return_, 1) := by decide +kernel
theorem d_C_init_0 : decode b_C_init 0 = .ok (.aload_n 0, 1) := by decide +kernel
theorem d_C_init_1 : decode b_C_init 1 = .ok (.invokespecial 1, 3) := by decide +kernel
theorem d_C_init_4 : decode b_C_init 4 = .ok (.aload_n 0, 1) := by decide +kernel
theorem d_C_init_5 : decode b_C_init 5 = .ok (.iload_n 1, 1) := by decide +kernel
theorem d_C_init_6 : decode b_C_init 6 = .ok (.putfield 7, 3) := by decide +kernel
theorem d_C_init_9 : decode b_C_init 9 = .ok (.aload_n 0, 1) := by decide +kernel
theorem d_C_init_10 : decode b_C_init 10 = .ok (.iload_n 2, 1) := by decide +kernel
theorem d_C_init_11 : decode b_C_init 11 = .ok (.putfield 13, 3) := by decide +kernel
theorem d_C_init_14 : decode b_C_init 14 = .ok (.aload_n 0, 1) := by decide +kernel
theorem d_C_init_15 : decode b_C_init 15 = .ok (.iload_n 3, 1) := by decide +kernel
theorem d_C_init_16 : decode b_C_init 16 = .ok (.putfield 16, 3) := by decide +kernel
theorem d_C_init_19 : decode b_C_init 19 = .ok (.return_, 1) := by decide +kernel
theorem d_V_goOnLine_0 : decode b_V_goOnLine 0 = .ok (.aload_n 0, 1) := by decide +kernel
theorem d_V_goOnLine_1 : decode b_V_goOnLine 1 = .ok (.iconst 0, 1) := by decide +kernel
theorem d_V_goOnLine_2 : decode b_V_goOnLine 2 = .ok (.putfield 7, 3) := by decide +kernel
theorem d_V_goOnLine_5 : decode b_V_goOnLine 5 = .ok (.aload_n 0, 1) := by decide +kernel
theorem d_V_goOnLine_6 : decode b_V_goOnLine 6 = .ok (.getfield 20, 3) := by decide +kernel
theorem d_V_goOnLine_9 : decode b_V_goOnLine 9 = .ok (.invokevirtual 56, 3) := by decide +kernel
theorem d_V_goOnLine_12 : decode b_V_goOnLine 12 = .ok (.return_, 1) := by decide +kernel
theorem d_D_clash_0 : decode b_D_clash 0 = .ok (.iload_n 2, 1) := by decide +kernel
theorem d_D_clash_1 : decode b_D_clash 1 = .ok (.ifCond .lt 8, 3) := by decide +kernel
theorem d_D_clash_4 : decode b_D_clash 4 = .ok (.iload_n 2, 1) := by decide +kernel
theorem d_D_clash_5 : decode b_D_clash 5 = .ok (.iconst 2, 1) := by decide +kernel
theorem d_D_clash_6 : decode b_D_clash 6 = .ok (.if_icmp .le 6, 3) := by decide +kernel
theorem d_D_clash_9 : decode b_D_clash 9 = .ok (.bipush (-12), 2) := by decide +kernel
theorem d_D_clash_11 : decode b_D_clash 11 = .ok (.ireturn, 1) := by decide +kernel
theorem d_D_clash_12 : decode b_D_clash 12 = .ok (.iload_n 1, 1) := by decide +kernel
theorem d_D_clash_13 : decode b_D_clash 13 = .ok (.ifCond .lt 14, 3) := by decide +kernel
theorem d_D_clash_16 : decode b_D_clash 16 = .ok (.iload_n 1, 1) := by decide +kernel
theorem d_D_clash_17 : decode b_D_clash 17 = .ok (.aload_n 0, 1) := by decide +kernel
theorem d_D_clash_18 : decode b_D_clash 18 = .ok (.getfield 16, 3) := by decide +kernel
theorem d_D_clash_21 : decode b_D_clash 21 = .ok (.invokevirtual 41, 3) := by decide +kernel
theorem d_D_clash_24 : decode b_D_clash 24 = .ok (.if_icmp .lt 5, 3) := by decide +kernel
theorem d_D_clash_27 : decode b_D_clash 27 = .ok (.iconst (-1), 1) := by decide +kernel
theorem d_D_clash_28 : decode b_D_clash 28 = .ok (.ireturn, 1) := by decide +kernel
theorem d_D_clash_29 : decode b_D_clash 29 = .ok (.aload_n 0, 1) := by decide +kernel
theorem d_D_clash_30 : decode b_D_clash 30 = .ok (.getfield 16, 3) := by decide +kernel
theorem d_D_clash_33 : decode b_D_clash 33 = .ok (.iload_n 1, 1) := by decide +kernel
theorem d_D_clash_34 : decode b_D_clash 34 = .ok (.invokevirtual 109, 3) := by decide +kernel
theorem d_D_clash_37 : decode b_D_clash 37 = .ok (.checkcast 119, 3) := by decide +kernel
theorem d_D_clash_40 : decode b_D_clash 40 = .ok (.astore_n 3, 1) := by decide +kernel
theorem d_D_clash_41 : decode b_D_clash 41 = .ok (.iload_n 2, 1) := by decide +kernel
theorem d_D_clash_42 : decode b_D_clash 42 = .ok (.ifCond .ne 8, 3) := by decide +kernel
theorem d_D_clash_45 : decode b_D_clash 45 = .ok (.aload_n 3, 1) := by decide +kernel
theorem d_D_clash_46 : decode b_D_clash 46 = .ok (.getfield 121, 3) := by decide +kernel
theorem d_D_clash_49 : decode b_D_clash 49 = .ok (.ireturn, 1) := by decide +kernel
theorem d_D_clash_50 : decode b_D_clash 50 = .ok (.iload_n 2, 1) := by decide +kernel
theorem d_D_clash_51 : decode b_D_clash 51 = .ok (.iconst 1, 1) := by decide +kernel
theorem d_D_clash_52 : decode b_D_clash 52 = .ok (.if_icmp .ne 10, 3) := by decide +kernel
theorem d_D_clash_55 : decode b_D_clash 55 = .ok (.aload_n 3, 1) := by decide +kernel
theorem d_D_clash_56 : decode b_D_clash 56 = .ok (.getfield 125, 3) := by decide +kernel
theorem d_D_clash_59 : decode b_D_clash 59 = .ok (.goto 7, 3) := by decide +kernel
theorem d_D_clash_62 : decode b_D_clash 62 = .ok (.aload_n 3, 1) := by decide +kernel
theorem d_D_clash_63 : decode b_D_clash 63 = .ok (.getfield 128, 3) := by decide +kernel
theorem d_D_clash_66 : decode b_D_clash 66 = .ok (.ireturn, 1) := by decide +kernel
theorem d_D_cut_0 : decode b_D_cut 0 = .ok (.iload_n 1, 1) := by decide +kernel
theorem d_D_cut_1 : decode b_D_cut 1 = .ok (.invokestatic 62, 3) := by decide +kernel
theorem d_D_cut_4 : decode b_D_cut 4 = .ok (.ifCond .eq 16, 3) := by decide +kernel
theorem d_D_cut_7 : decode b_D_cut 7 = .ok (.aload_n 0, 1) := by decide +kernel
theorem d_D_cut_8 : decode b_D_cut 8 = .ok (.getfield 28, 3) := by decide +kernel
theorem d_D_cut_11 : decode b_D_cut 11 = .ok (.iload_n 1, 1) := by decide +kernel
theorem d_D_cut_12 : decode b_D_cut 12 = .ok (.aaload, 1) := by decide +kernel
theorem d_D_cut_13 : decode b_D_cut 13 = .ok (.getfield 65, 3) := by decide +kernel
theorem d_D_cut_16 : decode b_D_cut 16 = .ok (.iload_n 2, 1) := by decide +kernel
theorem d_D_cut_17 : decode b_D_cut 17 = .ok (.if_icmp .ne 5, 3) := by decide +kernel
theorem d_D_cut_20 : decode b_D_cut 20 = .ok (.iconst 0, 1) := by decide +kernel
theorem d_D_cut_21 : decode b_D_cut 21 = .ok (.ireturn, 1) := by decide +kernel
theorem d_D_cut_22 : decode b_D_cut 22 = .ok (.iload_n 2, 1) := by decide +kernel
theorem d_D_cut_23 : decode b_D_cut 23 = .ok (.ifCond .eq 19, 3) := by decide +kernel
theorem d_D_cut_26 : decode b_D_cut 26 = .ok (.aload_n 0, 1) := by decide +kernel
theorem d_D_cut_27 : decode b_D_cut 27 = .ok (.getfield 28, 3) := by decide +kernel
theorem d_D_cut_30 : decode b_D_cut 30 = .ok (.iload_n 1, 1) := by decide +kernel
theorem d_D_cut_31 : decode b_D_cut 31 = .ok (.aaload, 1) := by decide +kernel
theorem d_D_cut_32 : decode b_D_cut 32 = .ok (.aload_n 0, 1) := by decide +kernel
theorem d_D_cut_33 : decode b_D_cut 33 = .ok (.getfield 12, 3) := by decide +kernel
theorem d_D_cut_36 : decode b_D_cut 36 = .ok (.invokevirtual 131, 3) := by decide +kernel
theorem d_D_cut_39 : decode b_D_cut 39 = .ok (.goto 12, 3) := by decide +kernel
theorem d_D_cut_42 : decode b_D_cut 42 = .ok (.aload_n 0, 1) := by decide +kernel
theorem d_D_cut_43 : decode b_D_cut 43 = .ok (.getfield 28, 3) := by decide +kernel
theorem d_D_cut_46 : decode b_D_cut 46 = .ok (.iload_n 1, 1) := by decide +kernel
theorem d_D_cut_47 : decode b_D_cut 47 = .ok (.aaload, 1) := by decide +kernel
theorem d_D_cut_48 : decode b_D_cut 48 = .ok (.invokevirtual 116, 3) := by decide +kernel
theorem d_D_cut_51 : decode b_D_cut 51 = .ok (.iconst 1, 1) := by decide +kernel
theorem d_D_cut_52 : decode b_D_cut 52 = .ok (.ireturn, 1) := by decide +kernel
theorem d_V_goOffLine_0 : decode b_V_goOffLine 0 = .ok (.aload_n 0, 1) := by decide +kernel
theorem d_V_goOffLine_1 : decode b_V_goOffLine 1 = .ok (.iconst 1, 1) := by decide +kernel
theorem d_V_goOffLine_2 : decode b_V_goOffLine 2 = .ok (.putfield 7, 3) := by decide +kernel
theorem d_V_goOffLine_5 : decode b_V_goOffLine 5 = .ok (.iconst 0, 1) := by decide +kernel
theorem d_V_goOffLine_6 : decode b_V_goOffLine 6 = .ok (.istore_n 2, 1) := by decide +kernel
theorem d_V_goOffLine_7 : decode b_V_goOffLine 7 = .ok (.iload_n 2, 1) := by decide +kernel
theorem d_V_goOffLine_8 : decode b_V_goOffLine 8 = .ok (.aload_n 1, 1) := by decide +kernel
theorem d_V_goOffLine_9 : decode b_V_goOffLine 9 = .ok (.invokevirtual 33, 3) := by decide +kernel
theorem d_V_goOffLine_12 : decode b_V_goOffLine 12 = .ok (.if_icmp .ge 60, 3) := by decide +kernel
theorem d_V_goOffLine_15 : decode b_V_goOffLine 15 = .ok (.iload_n 2, 1) := by decide +kernel
theorem d_V_goOffLine_16 : decode b_V_goOffLine 16 = .ok (.aload_n 0, 1) := by decide +kernel
theorem d_V_goOffLine_17 : decode b_V_goOffLine 17 = .ok (.getfield 24, 3) := by decide +kernel
theorem d_V_goOffLine_20 : decode b_V_goOffLine 20 = .ok (.invokevirtual 33, 3) := by decide +kernel
theorem d_V_goOffLine_23 : decode b_V_goOffLine 23 = .ok (.if_icmp .lt 18, 3) := by decide +kernel
theorem d_V_goOffLine_26 : decode b_V_goOffLine 26 = .ok (.aload_n 0, 1) := by decide +kernel
theorem d_V_goOffLine_27 : decode b_V_goOffLine 27 = .ok (.getfield 24, 3) := by decide +kernel
theorem d_V_goOffLine_30 : decode b_V_goOffLine 30 = .ok (.new 41, 3) := by decide +kernel
theorem d_V_goOffLine_33 : decode b_V_goOffLine 33 = .ok (.dup, 1) := by decide +kernel
theorem d_V_goOffLine_34 : decode b_V_goOffLine 34 = .ok (.invokespecial 43, 3) := by decide +kernel
theorem d_V_goOffLine_37 : decode b_V_goOffLine 37 = .ok (.invokevirtual 44, 3) := by decide +kernel
theorem d_V_goOffLine_40 : decode b_V_goOffLine 40 = .ok (.pop, 1) := by decide +kernel
theorem d_V_goOffLine_41 : decode b_V_goOffLine 41 = .ok (.aload_n 0, 1) := by decide +kernel
theorem d_V_goOffLine_42 : decode b_V_goOffLine 42 = .ok (.getfield 24, 3) := by decide +kernel
theorem d_V_goOffLine_45 : decode b_V_goOffLine 45 = .ok (.iload_n 2, 1) := by decide +kernel
theorem d_V_goOffLine_46 : decode b_V_goOffLine 46 = .ok (.invokevirtual 37, 3) := by decide +kernel
theorem d_V_goOffLine_49 : decode b_V_goOffLine 49 = .ok (.checkcast 41, 3) := by decide +kernel
theorem d_V_goOffLine_52 : decode b_V_goOffLine 52 = .ok (.aload_n 1, 1) := by decide +kernel
theorem d_V_goOffLine_53 : decode b_V_goOffLine 53 = .ok (.iload_n 2, 1) := by decide +kernel
theorem d_V_goOffLine_54 : decode b_V_goOffLine 54 = .ok (.invokevirtual 37, 3) := by decide +kernel
theorem d_V_goOffLine_57 : decode b_V_goOffLine 57 = .ok (.checkcast 28, 3) := by decide +kernel
theorem d_V_goOffLine_60 : decode b_V_goOffLine 60 = .ok (.getfield 48, 3) := by decide +kernel
theorem d_V_goOffLine_63 : decode b_V_goOffLine 63 = .ok (.invokevirtual 52, 3) := by decide +kernel
theorem d_V_goOffLine_66 : decode b_V_goOffLine 66 = .ok (.iinc 2 1, 3) := by decide +kernel
theorem d_V_goOffLine_69 : decode b_V_goOffLine 69 = .ok (.goto (-62), 3) := by decide +kernel
theorem d_V_goOffLine_72 : decode b_V_goOffLine 72 = .ok (.return_, 1) := by decide +kernel
theorem d_F_copyFrom_0 : decode b_F_copyFrom 0 = .ok (.aload_n 0, 1) := by decide +kernel
theorem d_F_copyFrom_1 : decode b_F_copyFrom 1 = .ok (.aload_n 1, 1) := by decide +kernel
theorem d_F_copyFrom_2 : decode b_F_copyFrom 2 = .ok (.getfield 9, 3) := by decide +kernel
theorem d_F_copyFrom_5 : decode b_F_copyFrom 5 = .ok (.putfield 9, 3) := by decide +kernel
theorem d_F_copyFrom_8 : decode b_F_copyFrom 8 = .ok (.aload_n 0, 1) := by decide +kernel
theorem d_F_copyFrom_9 : decode b_F_copyFrom 9 = .ok (.aload_n 1, 1) := by decide +kernel
theorem d_F_copyFrom_10 : decode b_F_copyFrom 10 = .ok (.getfield 15, 3) := by decide +kernel
theorem d_F_copyFrom_13 : decode b_F_copyFrom 13 = .ok (.putfield 15, 3) := by decide +kernel
theorem d_F_copyFrom_16 : decode b_F_copyFrom 16 = .ok (.aload_n 0, 1) := by decide +kernel
theorem d_F_copyFrom_17 : decode b_F_copyFrom 17 = .ok (.aload_n 1, 1) := by decide +kernel
theorem d_F_copyFrom_18 : decode b_F_copyFrom 18 = .ok (.getfield 18, 3) := by decide +kernel
theorem d_F_copyFrom_21 : decode b_F_copyFrom 21 = .ok (.putfield 18, 3) := by decide +kernel
theorem d_F_copyFrom_24 : decode b_F_copyFrom 24 = .ok (.aload_n 0, 1) := by decide +kernel
theorem d_F_copyFrom_25 : decode b_F_copyFrom 25 = .ok (.aload_n 1, 1) := by decide +kernel
theorem d_F_copyFrom_26 : decode b_F_copyFrom 26 = .ok (.getfield 22, 3) := by decide +kernel
theorem d_F_copyFrom_29 : decode b_F_copyFrom 29 = .ok (.putfield 22, 3) := by decide +kernel
theorem d_F_copyFrom_32 : decode b_F_copyFrom 32 = .ok (.aload_n 0, 1) := by decide +kernel
theorem d_F_copyFrom_33 : decode b_F_copyFrom 33 = .ok (.aload_n 1, 1) := by decide +kernel
theorem d_F_copyFrom_34 : decode b_F_copyFrom 34 = .ok (.getfield 25, 3) := by decide +kernel
theorem d_F_copyFrom_37 : decode b_F_copyFrom 37 = .ok (.putfield 25, 3) := by decide +kernel
theorem d_F_copyFrom_40 : decode b_F_copyFrom 40 = .ok (.aload_n 0, 1) := by decide +kernel
theorem d_F_copyFrom_41 : decode b_F_copyFrom 41 = .ok (.aload_n 1, 1) := by decide +kernel
theorem d_F_copyFrom_42 : decode b_F_copyFrom 42 = .ok (.getfield 28, 3) := by decide +kernel
theorem d_F_copyFrom_45 : decode b_F_copyFrom 45 = .ok (.putfield 28, 3) := by decide +kernel
theorem d_F_copyFrom_48 : decode b_F_copyFrom 48 = .ok (.aload_n 0, 1) := by decide +kernel
theorem d_F_copyFrom_49 : decode b_F_copyFrom 49 = .ok (.aload_n 1, 1) := by decide +kernel
theorem d_F_copyFrom_50 : decode b_F_copyFrom 50 = .ok (.getfield 31, 3) := by decide +kernel
theorem d_F_copyFrom_53 : decode b_F_copyFrom 53 = .ok (.putfield 31, 3) := by decide +kernel
theorem d_F_copyFrom_56 : decode b_F_copyFrom 56 = .ok (.aload_n 0, 1) := by decide +kernel
theorem d_F_copyFrom_57 : decode b_F_copyFrom 57 = .ok (.aload_n 1, 1) := by decide +kernel
theorem d_F_copyFrom_58 : decode b_F_copyFrom 58 = .ok (.getfield 34, 3) := by decide +kernel
theorem d_F_copyFrom_61 : decode b_F_copyFrom 61 = .ok (.putfield 34, 3) := by decide +kernel
theorem d_F_copyFrom_64 : decode b_F_copyFrom 64 = .ok (.aload_n 0, 1) := by decide +kernel
theorem d_F_copyFrom_65 : decode b_F_copyFrom 65 = .ok (.aload_n 1, 1) := by decide +kernel
theorem d_F_copyFrom_66 : decode b_F_copyFrom 66 = .ok (.getfield 37, 3) := by decide +kernel
theorem d_F_copyFrom_69 : decode b_F_copyFrom 69 = .ok (.putfield 37, 3) := by decide +kernel
theorem d_F_copyFrom_72 : decode b_F_copyFrom 72 = .ok (.aload_n 0, 1) := by decide +kernel
theorem d_F_copyFrom_73 : decode b_F_copyFrom 73 = .ok (.aload_n 1, 1) := by decide +kernel
theorem d_F_copyFrom_74 : decode b_F_copyFrom 74 = .ok (.getfield 40, 3) := by decide +kernel
theorem d_F_copyFrom_77 : decode b_F_copyFrom 77 = .ok (.putfield 40, 3) := by decide +kernel
theorem d_F_copyFrom_80 : decode b_F_copyFrom 80 = .ok (.aload_n 0, 1) := by decide +kernel
theorem d_F_copyFrom_81 : decode b_F_copyFrom 81 = .ok (.aload_n 1, 1) := by decide +kernel
theorem d_F_copyFrom_82 : decode b_F_copyFrom 82 = .ok (.getfield 43, 3) := by decide +kernel
theorem d_F_copyFrom_85 : decode b_F_copyFrom 85 = .ok (.putfield 43, 3) := by decide +kernel
theorem d_F_copyFrom_88 : decode b_F_copyFrom 88 = .ok (.return_, 1) := by decide +kernel
theorem d_D_tries_0 : decode b_D_tries 0 = .ok (.aload_n 0, 1) := by decide +kernel
theorem d_D_tries_1 : decode b_D_tries 1 = .ok (.iload_n 1, 1) := by decide +kernel
theorem d_D_tries_2 : decode b_D_tries 2 = .ok (.invokevirtual 58, 3) := by decide +kernel
theorem d_D_tries_5 : decode b_D_tries 5 = .ok (.astore_n 2, 1) := by decide +kernel
theorem d_D_tries_6 : decode b_D_tries 6 = .ok (.aload_n 2, 1) := by decide +kernel
theorem d_D_tries_7 : decode b_D_tries 7 = .ok (.ifnonnull 8, 3) := by decide +kernel
theorem d_D_tries_10 : decode b_D_tries 10 = .ok (.bipush (-11), 2) := by decide +kernel
theorem d_D_tries_12 : decode b_D_tries 12 = .ok (.goto 10, 3) := by decide +kernel
theorem d_D_tries_15 : decode b_D_tries 15 = .ok (.aload_n 2, 1) := by decide +kernel
theorem d_D_tries_16 : decode b_D_tries 16 = .ok (.getfield 73, 3) := by decide +kernel
theorem d_D_tries_19 : decode b_D_tries 19 = .ok (.getfield 135, 3) := by decide +kernel
theorem d_D_tries_22 : decode b_D_tries 22 = .ok (.ireturn, 1) := by decide +kernel
theorem d_D_tick_0 : decode b_D_tick 0 = .ok (.lload_n 1, 1) := by decide +kernel
theorem d_D_tick_1 : decode b_D_tick 1 = .ok (.aload_n 0, 1) := by decide +kernel
theorem d_D_tick_2 : decode b_D_tick 2 = .ok (.getfield 32, 3) := by decide +kernel
theorem d_D_tick_5 : decode b_D_tick 5 = .ok (.lcmp, 1) := by decide +kernel
theorem d_D_tick_6 : decode b_D_tick 6 = .ok (.ifCond .lt 11, 3) := by decide +kernel
theorem d_D_tick_9 : decode b_D_tick 9 = .ok (.lload_n 1, 1) := by decide +kernel
theorem d_D_tick_10 : decode b_D_tick 10 = .ok (.ldc2_w 138, 3) := by decide +kernel
theorem d_D_tick_13 : decode b_D_tick 13 = .ok (.lcmp, 1) := by decide +kernel
theorem d_D_tick_14 : decode b_D_tick 14 = .ok (.ifCond .le 6, 3) := by decide +kernel
theorem d_D_tick_17 : decode b_D_tick 17 = .ok (.bipush (-12), 2) := by decide +kernel
theorem d_D_tick_19 : decode b_D_tick 19 = .ok (.ireturn, 1) := by decide +kernel
theorem d_D_tick_20 : decode b_D_tick 20 = .ok (.aload_n 0, 1) := by decide +kernel
theorem d_D_tick_21 : decode b_D_tick 21 = .ok (.lload_n 1, 1) := by decide +kernel
theorem d_D_tick_22 : decode b_D_tick 22 = .ok (.putfield 32, 3) := by decide +kernel
theorem d_D_tick_25 : decode b_D_tick 25 = .ok (.iconst 0, 1) := by decide +kernel
theorem d_D_tick_26 : decode b_D_tick 26 = .ok (.istore_n 3, 1) := by decide +kernel
theorem d_D_tick_27 : decode b_D_tick 27 = .ok (.iconst 0, 1) := by decide +kernel
theorem d_D_tick_28 : decode b_D_tick 28 = .ok (.istore 4, 2) := by decide +kernel
theorem d_D_tick_30 : decode b_D_tick 30 = .ok (.iload 4, 2) := by decide +kernel
theorem d_D_tick_32 : decode b_D_tick 32 = .ok (.aload_n 0, 1) := by decide +kernel
theorem d_D_tick_33 : decode b_D_tick 33 = .ok (.getfield 12, 3) := by decide +kernel
theorem d_D_tick_36 : decode b_D_tick 36 = .ok (.invokevirtual 41, 3) := by decide +kernel
theorem d_D_tick_39 : decode b_D_tick 39 = .ok (.if_icmp .ge 34, 3) := by decide +kernel
theorem d_D_tick_42 : decode b_D_tick 42 = .ok (.aload_n 0, 1) := by decide +kernel
theorem d_D_tick_43 : decode b_D_tick 43 = .ok (.getfield 12, 3) := by decide +kernel
theorem d_D_tick_46 : decode b_D_tick 46 = .ok (.iload 4, 2) := by decide +kernel
theorem d_D_tick_48 : decode b_D_tick 48 = .ok (.invokevirtual 109, 3) := by decide +kernel
theorem d_D_tick_51 : decode b_D_tick 51 = .ok (.checkcast 45, 3) := by decide +kernel
theorem d_D_tick_54 : decode b_D_tick 54 = .ok (.getfield 73, 3) := by decide +kernel
theorem d_D_tick_57 : decode b_D_tick 57 = .ok (.lload_n 1, 1) := by decide +kernel
theorem d_D_tick_58 : decode b_D_tick 58 = .ok (.invokevirtual 140, 3) := by decide +kernel
theorem d_D_tick_61 : decode b_D_tick 61 = .ok (.ifCond .eq 6, 3) := by decide +kernel
theorem d_D_tick_64 : decode b_D_tick 64 = .ok (.iinc 3 1, 3) := by decide +kernel
theorem d_D_tick_67 : decode b_D_tick 67 = .ok (.iinc 4 1, 3) := by decide +kernel
theorem d_D_tick_70 : decode b_D_tick 70 = .ok (.goto (-40), 3) := by decide +kernel
theorem d_D_tick_73 : decode b_D_tick 73 = .ok (.iload_n 3, 1) := by decide +kernel
theorem d_D_tick_74 : decode b_D_tick 74 = .ok (.ireturn, 1) := by decide +kernel
theorem d_F_goBackBy_0 : decode b_F_goBackBy 0 = .ok (.aload_n 0, 1) := by decide +kernel
theorem d_F_goBackBy_1 : decode b_F_goBackBy 1 = .ok (.getfield 9, 3) := by decide +kernel
theorem d_F_goBackBy_4 : decode b_F_goBackBy 4 = .ok (.iconst 2, 1) := by decide +kernel
theorem d_F_goBackBy_5 : decode b_F_goBackBy 5 = .ok (.if_icmp .ne 13, 3) := by decide +kernel
theorem d_F_goBackBy_8 : decode b_F_goBackBy 8 = .ok (.aload_n 0, 1) := by decide +kernel
theorem d_F_goBackBy_9 : decode b_F_goBackBy 9 = .ok (.getfield 28, 3) := by decide +kernel
theorem d_F_goBackBy_12 : decode b_F_goBackBy 12 = .ok (.i2l, 1) := by decide +kernel
theorem d_F_goBackBy_13 : decode b_F_goBackBy 13 = .ok (.lload_n 1, 1) := by decide +kernel
theorem d_F_goBackBy_14 : decode b_F_goBackBy 14 = .ok (.lcmp, 1) := by decide +kernel
theorem d_F_goBackBy_15 : decode b_F_goBackBy 15 = .ok (.ifCond .lt 5, 3) := by decide +kernel
theorem d_F_goBackBy_18 : decode b_F_goBackBy 18 = .ok (.iconst 0, 1) := by decide +kernel
theorem d_F_goBackBy_19 : decode b_F_goBackBy 19 = .ok (.ireturn, 1) := by decide +kernel
theorem d_F_goBackBy_20 : decode b_F_goBackBy 20 = .ok (.aload_n 0, 1) := by decide +kernel
theorem d_F_goBackBy_21 : decode b_F_goBackBy 21 = .ok (.bipush 8, 2) := by decide +kernel
theorem d_F_goBackBy_23 : decode b_F_goBackBy 23 = .ok (.putfield 9, 3) := by decide +kernel
theorem d_F_goBackBy_26 : decode b_F_goBackBy 26 = .ok (.aload_n 0, 1) := by decide +kernel
theorem d_F_goBackBy_27 : decode b_F_goBackBy 27 = .ok (.iconst (-1), 1) := by decide +kernel
theorem d_F_goBackBy_28 : decode b_F_goBackBy 28 = .ok (.putfield 43, 3) := by decide +kernel
theorem d_F_goBackBy_31 : decode b_F_goBackBy 31 = .ok (.iconst 1, 1) := by decide +kernel
theorem d_F_goBackBy_32 : decode b_F_goBackBy 32 = .ok (.ireturn, 1) := by decide +kernel
theorem d_D_slip_0 : decode b_D_slip 0 = .ok (.aload_n 0, 1) := by decide +kernel
theorem d_D_slip_1 : decode b_D_slip 1 = .ok (.iload_n 1, 1) := by decide +kernel
theorem d_D_slip_2 : decode b_D_slip 2 = .ok (.invokevirtual 58, 3) := by decide +kernel
theorem d_D_slip_5 : decode b_D_slip 5 = .ok (.astore_n 3, 1) := by decide +kernel
theorem d_D_slip_6 : decode b_D_slip 6 = .ok (.aload_n 3, 1) := by decide +kernel
theorem d_D_slip_7 : decode b_D_slip 7 = .ok (.ifnonnull 6, 3) := by decide +kernel
theorem d_D_slip_10 : decode b_D_slip 10 = .ok (.bipush (-11), 2) := by decide +kernel
theorem d_D_slip_12 : decode b_D_slip 12 = .ok (.ireturn, 1) := by decide +kernel
theorem d_D_slip_13 : decode b_D_slip 13 = .ok (.iload_n 2, 1) := by decide +kernel
theorem d_D_slip_14 : decode b_D_slip 14 = .ok (.iconst (-1), 1) := by decide +kernel
theorem d_D_slip_15 : decode b_D_slip 15 = .ok (.if_icmp .eq 13, 3) := by decide +kernel
theorem d_D_slip_18 : decode b_D_slip 18 = .ok (.iload_n 2, 1) := by decide +kernel
theorem d_D_slip_19 : decode b_D_slip 19 = .ok (.invokestatic 37, 3) := by decide +kernel
theorem d_D_slip_22 : decode b_D_slip 22 = .ok (.ifCond .ne 6, 3) := by decide +kernel
theorem d_D_slip_25 : decode b_D_slip 25 = .ok (.bipush (-12), 2) := by decide +kernel
theorem d_D_slip_27 : decode b_D_slip 27 = .ok (.ireturn, 1) := by decide +kernel
theorem d_D_slip_28 : decode b_D_slip 28 = .ok (.aload_n 3, 1) := by decide +kernel
theorem d_D_slip_29 : decode b_D_slip 29 = .ok (.getfield 73, 3) := by decide +kernel
theorem d_D_slip_32 : decode b_D_slip 32 = .ok (.astore 4, 2) := by decide +kernel
theorem d_D_slip_34 : decode b_D_slip 34 = .ok (.iload_n 2, 1) := by decide +kernel
theorem d_D_slip_35 : decode b_D_slip 35 = .ok (.iconst (-1), 1) := by decide +kernel
theorem d_D_slip_36 : decode b_D_slip 36 = .ok (.if_icmp .ne 7, 3) := by decide +kernel
theorem d_D_slip_39 : decode b_D_slip 39 = .ok (.iconst 1, 1) := by decide +kernel
theorem d_D_slip_40 : decode b_D_slip 40 = .ok (.goto 4, 3) := by decide +kernel
theorem d_D_slip_43 : decode b_D_slip 43 = .ok (.iconst 0, 1) := by decide +kernel
theorem d_D_slip_44 : decode b_D_slip 44 = .ok (.istore 5, 2) := by decide +kernel
theorem d_D_slip_46 : decode b_D_slip 46 = .ok (.aload_n 3, 1) := by decide +kernel
theorem d_D_slip_47 : decode b_D_slip 47 = .ok (.getfield 144, 3) := by decide +kernel
theorem d_D_slip_50 : decode b_D_slip 50 = .ok (.iconst 4, 1) := by decide +kernel
theorem d_D_slip_51 : decode b_D_slip 51 = .ok (.if_icmp .ne 21, 3) := by decide +kernel
theorem d_D_slip_54 : decode b_D_slip 54 = .ok (.aload 4, 2) := by decide +kernel
theorem d_D_slip_56 : decode b_D_slip 56 = .ok (.invokevirtual 147, 3) := by decide +kernel
theorem d_D_slip_59 : decode b_D_slip 59 = .ok (.ifCond .eq 13, 3) := by decide +kernel
theorem d_D_slip_62 : decode b_D_slip 62 = .ok (.aload 4, 2) := by decide +kernel
theorem d_D_slip_64 : decode b_D_slip 64 = .ok (.getfield 151, 3) := by decide +kernel
theorem d_D_slip_67 : decode b_D_slip 67 = .ok (.iload 5, 2) := by decide +kernel
theorem d_D_slip_69 : decode b_D_slip 69 = .ok (.if_icmp .eq 6, 3) := by decide +kernel
theorem d_D_slip_72 : decode b_D_slip 72 = .ok (.bipush (-13), 2) := by decide +kernel
theorem d_D_slip_74 : decode b_D_slip 74 = .ok (.ireturn, 1) := by decide +kernel
theorem d_D_slip_75 : decode b_D_slip 75 = .ok (.iload_n 2, 1) := by decide +kernel
theorem d_D_slip_76 : decode b_D_slip 76 = .ok (.iconst (-1), 1) := by decide +kernel
theorem d_D_slip_77 : decode b_D_slip 77 = .ok (.if_icmp .eq 15, 3) := by decide +kernel
theorem d_D_slip_80 : decode b_D_slip 80 = .ok (.iload_n 2, 1) := by decide +kernel
theorem d_D_slip_81 : decode b_D_slip 81 = .ok (.aload 4, 2) := by decide +kernel
theorem d_D_slip_83 : decode b_D_slip 83 = .ok (.getfield 154, 3) := by decide +kernel
theorem d_D_slip_86 : decode b_D_slip 86 = .ok (.if_icmp .eq 6, 3) := by decide +kernel
theorem d_D_slip_89 : decode b_D_slip 89 = .ok (.bipush (-21), 2) := by decide +kernel
theorem d_D_slip_91 : decode b_D_slip 91 = .ok (.ireturn, 1) := by decide +kernel
theorem d_D_slip_92 : decode b_D_slip 92 = .ok (.aload 4, 2) := by decide +kernel
theorem d_D_slip_94 : decode b_D_slip 94 = .ok (.iload_n 2, 1) := by decide +kernel
theorem d_D_slip_95 : decode b_D_slip 95 = .ok (.iconst (-1), 1) := by decide +kernel
theorem d_D_slip_96 : decode b_D_slip 96 = .ok (.if_icmp .ne 7, 3) := by decide +kernel
theorem d_D_slip_99 : decode b_D_slip 99 = .ok (.iconst 2, 1) := by decide +kernel
theorem d_D_slip_100 : decode b_D_slip 100 = .ok (.goto 4, 3) := by decide +kernel
theorem d_D_slip_103 : decode b_D_slip 103 = .ok (.iconst 1, 1) := by decide +kernel
theorem d_D_slip_104 : decode b_D_slip 104 = .ok (.putfield 151, 3) := by decide +kernel
theorem d_D_slip_107 : decode b_D_slip 107 = .ok (.aload 4, 2) := by decide +kernel
theorem d_D_slip_109 : decode b_D_slip 109 = .ok (.getfield 151, 3) := by decide +kernel
theorem d_D_slip_112 : decode b_D_slip 112 = .ok (.ireturn, 1) := by decide +kernel
theorem d_D_cash_0 : decode b_D_cash 0 = .ok (.aload_n 0, 1) := by decide +kernel
theorem d_D_cash_1 : decode b_D_cash 1 = .ok (.iload_n 1, 1) := by decide +kernel
theorem d_D_cash_2 : decode b_D_cash 2 = .ok (.invokevirtual 58, 3) := by decide +kernel
theorem d_D_cash_5 : decode b_D_cash 5 = .ok (.astore 4, 2) := by decide +kernel
theorem d_D_cash_7 : decode b_D_cash 7 = .ok (.aload 4, 2) := by decide +kernel
theorem d_D_cash_9 : decode b_D_cash 9 = .ok (.ifnonnull 6, 3) := by decide +kernel
theorem d_D_cash_12 : decode b_D_cash 12 = .ok (.bipush (-11), 2) := by decide +kernel
theorem d_D_cash_14 : decode b_D_cash 14 = .ok (.ireturn, 1) := by decide +kernel
theorem d_D_cash_15 : decode b_D_cash 15 = .ok (.lload_n 2, 1) := by decide +kernel
theorem d_D_cash_16 : decode b_D_cash 16 = .ok (.lconst 1, 1) := by decide +kernel
theorem d_D_cash_17 : decode b_D_cash 17 = .ok (.lcmp, 1) := by decide +kernel
theorem d_D_cash_18 : decode b_D_cash 18 = .ok (.ifCond .lt 11, 3) := by decide +kernel
theorem d_D_cash_21 : decode b_D_cash 21 = .ok (.lload_n 2, 1) := by decide +kernel
theorem d_D_cash_22 : decode b_D_cash 22 = .ok (.ldc2_w 138, 3) := by decide +kernel
theorem d_D_cash_25 : decode b_D_cash 25 = .ok (.lcmp, 1) := by decide +kernel
theorem d_D_cash_26 : decode b_D_cash 26 = .ok (.ifCond .le 6, 3) := by decide +kernel
theorem d_D_cash_29 : decode b_D_cash 29 = .ok (.bipush (-12), 2) := by decide +kernel
theorem d_D_cash_31 : decode b_D_cash 31 = .ok (.ireturn, 1) := by decide +kernel
theorem d_D_cash_32 : decode b_D_cash 32 = .ok (.aload 4, 2) := by decide +kernel
theorem d_D_cash_34 : decode b_D_cash 34 = .ok (.getfield 144, 3) := by decide +kernel
theorem d_D_cash_37 : decode b_D_cash 37 = .ok (.iconst 5, 1) := by decide +kernel
theorem d_D_cash_38 : decode b_D_cash 38 = .ok (.if_icmp .ne 26, 3) := by decide +kernel
theorem d_D_cash_41 : decode b_D_cash 41 = .ok (.aload 4, 2) := by decide +kernel
theorem d_D_cash_43 : decode b_D_cash 43 = .ok (.getfield 73, 3) := by decide +kernel
theorem d_D_cash_46 : decode b_D_cash 46 = .ok (.getfield 157, 3) := by decide +kernel
theorem d_D_cash_49 : decode b_D_cash 49 = .ok (.iconst 2, 1) := by decide +kernel
theorem d_D_cash_50 : decode b_D_cash 50 = .ok (.if_icmp .gt 14, 3) := by decide +kernel
theorem d_D_cash_53 : decode b_D_cash 53 = .ok (.lload_n 2, 1) := by decide +kernel
theorem d_D_cash_54 : decode b_D_cash 54 = .ok (.aload 4, 2) := by decide +kernel
theorem d_D_cash_56 : decode b_D_cash 56 = .ok (.getfield 160, 3) := by decide +kernel
theorem d_D_cash_59 : decode b_D_cash 59 = .ok (.i2l, 1) := by decide +kernel
theorem d_D_cash_60 : decode b_D_cash 60 = .ok (.lcmp, 1) := by decide +kernel
theorem d_D_cash_61 : decode b_D_cash 61 = .ok (.ifCond .le 6, 3) := by decide +kernel
theorem d_D_cash_64 : decode b_D_cash 64 = .ok (.bipush (-13), 2) := by decide +kernel
theorem d_D_cash_66 : decode b_D_cash 66 = .ok (.ireturn, 1) := by decide +kernel
theorem d_D_cash_67 : decode b_D_cash 67 = .ok (.aload 4, 2) := by decide +kernel
theorem d_D_cash_69 : decode b_D_cash 69 = .ok (.dup, 1) := by decide +kernel
theorem d_D_cash_70 : decode b_D_cash 70 = .ok (.getfield 160, 3) := by decide +kernel
theorem d_D_cash_73 : decode b_D_cash 73 = .ok (.lload_n 2, 1) := by decide +kernel
theorem d_D_cash_74 : decode b_D_cash 74 = .ok (.l2i, 1) := by decide +kernel
theorem d_D_cash_75 : decode b_D_cash 75 = .ok (.isub, 1) := by decide +kernel
theorem d_D_cash_76 : decode b_D_cash 76 = .ok (.putfield 160, 3) := by decide +kernel
theorem d_D_cash_79 : decode b_D_cash 79 = .ok (.aload 4, 2) := by decide +kernel
theorem d_D_cash_81 : decode b_D_cash 81 = .ok (.getfield 160, 3) := by decide +kernel
theorem d_D_cash_84 : decode b_D_cash 84 = .ok (.ireturn, 1) := by decide +kernel
theorem d_D_state_0 : decode b_D_state 0 = .ok (.aload_n 0, 1) := by decide +kernel
theorem d_D_state_1 : decode b_D_state 1 = .ok (.iload_n 1, 1) := by decide +kernel
theorem d_D_state_2 : decode b_D_state 2 = .ok (.invokevirtual 58, 3) := by decide +kernel
theorem d_D_state_5 : decode b_D_state 5 = .ok (.astore_n 2, 1) := by decide +kernel
theorem d_D_state_6 : decode b_D_state 6 = .ok (.aload_n 2, 1) := by decide +kernel
theorem d_D_state_7 : decode b_D_state 7 = .ok (.ifnonnull 6, 3) := by decide +kernel
theorem d_D_state_10 : decode b_D_state 10 = .ok (.bipush (-11), 2) := by decide +kernel
theorem d_D_state_12 : decode b_D_state 12 = .ok (.ireturn, 1) := by decide +kernel
theorem d_D_state_13 : decode b_D_state 13 = .ok (.aload_n 2, 1) := by decide +kernel
theorem d_D_state_14 : decode b_D_state 14 = .ok (.getfield 73, 3) := by decide +kernel
theorem d_D_state_17 : decode b_D_state 17 = .ok (.getfield 163, 3) := by decide +kernel
theorem d_D_state_20 : decode b_D_state 20 = .ok (.ifCond .eq 16, 3) := by decide +kernel
theorem d_D_state_23 : decode b_D_state 23 = .ok (.aload_n 2, 1) := by decide +kernel
theorem d_D_state_24 : decode b_D_state 24 = .ok (.getfield 73, 3) := by decide +kernel
theorem d_D_state_27 : decode b_D_state 27 = .ok (.getfield 157, 3) := by decide +kernel
theorem d_D_state_30 : decode b_D_state 30 = .ok (.bipush 10, 2) := by decide +kernel
theorem d_D_state_32 : decode b_D_state 32 = .ok (.iadd, 1) := by decide +kernel
theorem d_D_state_33 : decode b_D_state 33 = .ok (.goto 10, 3) := by decide +kernel
theorem d_D_state_36 : decode b_D_state 36 = .ok (.aload_n 2, 1) := by decide +kernel
theorem d_D_state_37 : decode b_D_state 37 = .ok (.getfield 73, 3) := by decide +kernel
theorem d_D_state_40 : decode b_D_state 40 = .ok (.getfield 157, 3) := by decide +kernel
theorem d_D_state_43 : decode b_D_state 43 = .ok (.ireturn, 1) := by decide +kernel
end
section
/-! decode rows, written by wip/whole/gennames.py -/
theorem d_M_init_0 : decode b_M_init 0 = .ok (.aload_n 0, 1) := by decide +kernel
theorem d_M_init_1 : decode b_M_init 1 = .ok (.invokespecial 1, 3) := by decide +kernel
theorem d_M_init_4 : decode b_M_init 4 = .ok (.aload_n 0, 1) := by decide +kernel
theorem d_M_init_5 : decode b_M_init 5 = .ok (.bipush 61, 2) := by decide +kernel
theorem d_M_init_7 : decode b_M_init 7 = .ok (.newarray .int, 2) := by decide +kernel
theorem d_M_init_9 : decode b_M_init 9 = .ok (.putfield 7, 3) := by decide +kernel
theorem d_M_init_12 : decode b_M_init 12 = .ok (.aload_n 0, 1) := by decide +kernel
theorem d_M_init_13 : decode b_M_init 13 = .ok (.bipush 61, 2) := by decide +kernel
theorem d_M_init_15 : decode b_M_init 15 = .ok (.newarray .int, 2) := by decide +kernel
theorem d_M_init_17 : decode b_M_init 17 = .ok (.putfield 13, 3) := by decide +kernel
theorem d_M_init_20 : decode b_M_init 20 = .ok (.aload_n 0, 1) := by decide +kernel
theorem d_M_init_21 : decode b_M_init 21 = .ok (.bipush 61, 2) := by decide +kernel
theorem d_M_init_23 : decode b_M_init 23 = .ok (.newarray .long, 2) := by decide +kernel
theorem d_M_init_25 : decode b_M_init 25 = .ok (.putfield 16, 3) := by decide +kernel
theorem d_M_init_28 : decode b_M_init 28 = .ok (.aload_n 0, 1) := by decide +kernel
theorem d_M_init_29 : decode b_M_init 29 = .ok (.bipush 61, 2) := by decide +kernel
theorem d_M_init_31 : decode b_M_init 31 = .ok (.newarray .int, 2) := by decide +kernel
theorem d_M_init_33 : decode b_M_init 33 = .ok (.putfield 20, 3) := by decide +kernel
theorem d_M_init_36 : decode b_M_init 36 = .ok (.aload_n 0, 1) := by decide +kernel
theorem d_M_init_37 : decode b_M_init 37 = .ok (.bipush 61, 2) := by decide +kernel
theorem d_M_init_39 : decode b_M_init 39 = .ok (.newarray .boolean, 2) := by decide +kernel
theorem d_M_init_41 : decode b_M_init 41 = .ok (.putfield 23, 3) := by decide +kernel
theorem d_M_init_44 : decode b_M_init 44 = .ok (.aload_n 0, 1) := by decide +kernel
theorem d_M_init_45 : decode b_M_init 45 = .ok (.bipush 61, 2) := by decide +kernel
theorem d_M_init_47 : decode b_M_init 47 = .ok (.newarray .boolean, 2) := by decide +kernel
theorem d_M_init_49 : decode b_M_init 49 = .ok (.putfield 27, 3) := by decide +kernel
theorem d_M_init_52 : decode b_M_init 52 = .ok (.aload_n 0, 1) := by decide +kernel
theorem d_M_init_53 : decode b_M_init 53 = .ok (.sipush 549, 3) := by decide +kernel
theorem d_M_init_56 : decode b_M_init 56 = .ok (.newarray .int, 2) := by decide +kernel
theorem d_M_init_58 : decode b_M_init 58 = .ok (.putfield 30, 3) := by decide +kernel
theorem d_M_init_61 : decode b_M_init 61 = .ok (.aload_n 0, 1) := by decide +kernel
theorem d_M_init_62 : decode b_M_init 62 = .ok (.sipush 549, 3) := by decide +kernel
theorem d_M_init_65 : decode b_M_init 65 = .ok (.newarray .int, 2) := by decide +kernel
theorem d_M_init_67 : decode b_M_init 67 = .ok (.putfield 33, 3) := by decide +kernel
theorem d_M_init_70 : decode b_M_init 70 = .ok (.aload_n 0, 1) := by decide +kernel
theorem d_M_init_71 : decode b_M_init 71 = .ok (.sipush 549, 3) := by decide +kernel
theorem d_M_init_74 : decode b_M_init 74 = .ok (.newarray .long, 2) := by decide +kernel
theorem d_M_init_76 : decode b_M_init 76 = .ok (.putfield 36, 3) := by decide +kernel
theorem d_M_init_79 : decode b_M_init 79 = .ok (.aload_n 0, 1) := by decide +kernel
theorem d_M_init_80 : decode b_M_init 80 = .ok (.sipush 549, 3) := by decide +kernel
theorem d_M_init_83 : decode b_M_init 83 = .ok (.newarray .long, 2) := by decide +kernel
theorem d_M_init_85 : decode b_M_init 85 = .ok (.putfield 39, 3) := by decide +kernel
theorem d_M_init_88 : decode b_M_init 88 = .ok (.aload_n 0, 1) := by decide +kernel
theorem d_M_init_89 : decode b_M_init 89 = .ok (.sipush 549, 3) := by decide +kernel
theorem d_M_init_92 : decode b_M_init 92 = .ok (.newarray .int, 2) := by decide +kernel
theorem d_M_init_94 : decode b_M_init 94 = .ok (.putfield 42, 3) := by decide +kernel
theorem d_M_init_97 : decode b_M_init 97 = .ok (.aload_n 0, 1) := by decide +kernel
theorem d_M_init_98 : decode b_M_init 98 = .ok (.sipush 549, 3) := by decide +kernel
theorem d_M_init_101 : decode b_M_init 101 = .ok (.newarray .int, 2) := by decide +kernel
theorem d_M_init_103 : decode b_M_init 103 = .ok (.putfield 45, 3) := by decide +kernel
theorem d_M_init_106 : decode b_M_init 106 = .ok (.aload_n 0, 1) := by decide +kernel
theorem d_M_init_107 : decode b_M_init 107 = .ok (.sipush 549, 3) := by decide +kernel
theorem d_M_init_110 : decode b_M_init 110 = .ok (.newarray .long, 2) := by decide +kernel
theorem d_M_init_112 : decode b_M_init 112 = .ok (.putfield 48, 3) := by decide +kernel
theorem d_M_init_115 : decode b_M_init 115 = .ok (.aload_n 0, 1) := by decide +kernel
theorem d_M_init_116 : decode b_M_init 116 = .ok (.sipush 549, 3) := by decide +kernel
theorem d_M_init_119 : decode b_M_init 119 = .ok (.newarray .int, 2) := by decide +kernel
theorem d_M_init_121 : decode b_M_init 121 = .ok (.putfield 51, 3) := by decide +kernel
theorem d_M_init_124 : decode b_M_init 124 = .ok (.aload_n 0, 1) := by decide +kernel
theorem d_M_init_125 : decode b_M_init 125 = .ok (.sipush 549, 3) := by decide +kernel
theorem d_M_init_128 : decode b_M_init 128 = .ok (.newarray .boolean, 2) := by decide +kernel
theorem d_M_init_130 : decode b_M_init 130 = .ok (.putfield 54, 3) := by decide +kernel
theorem d_M_init_133 : decode b_M_init 133 = .ok (.aload_n 0, 1) := by decide +kernel
theorem d_M_init_134 : decode b_M_init 134 = .ok (.bipush 100, 2) := by decide +kernel
theorem d_M_init_136 : decode b_M_init 136 = .ok (.newarray .int, 2) := by decide +kernel
theorem d_M_init_138 : decode b_M_init 138 = .ok (.putfield 57, 3) := by decide +kernel
theorem d_M_init_141 : decode b_M_init 141 = .ok (.aload_n 0, 1) := by decide +kernel
theorem d_M_init_142 : decode b_M_init 142 = .ok (.bipush 100, 2) := by decide +kernel
theorem d_M_init_144 : decode b_M_init 144 = .ok (.newarray .int, 2) := by decide +kernel
theorem d_M_init_146 : decode b_M_init 146 = .ok (.putfield 60, 3) := by decide +kernel
theorem d_M_init_149 : decode b_M_init 149 = .ok (.aload_n 0, 1) := by decide +kernel
theorem d_M_init_150 : decode b_M_init 150 = .ok (.bipush 100, 2) := by decide +kernel
theorem d_M_init_152 : decode b_M_init 152 = .ok (.newarray .int, 2) := by decide +kernel
theorem d_M_init_154 : decode b_M_init 154 = .ok (.putfield 63, 3) := by decide +kernel
theorem d_M_init_157 : decode b_M_init 157 = .ok (.aload_n 0, 1) := by decide +kernel
theorem d_M_init_158 : decode b_M_init 158 = .ok (.bipush 8, 2) := by decide +kernel
theorem d_M_init_160 : decode b_M_init 160 = .ok (.newarray .boolean, 2) := by decide +kernel
theorem d_M_init_162 : decode b_M_init 162 = .ok (.putfield 66, 3) := by decide +kernel
theorem d_M_init_165 : decode b_M_init 165 = .ok (.aload_n 0, 1) := by decide +kernel
theorem d_M_init_166 : decode b_M_init 166 = .ok (.bipush 8, 2) := by decide +kernel
theorem d_M_init_168 : decode b_M_init 168 = .ok (.newarray .int, 2) := by decide +kernel
theorem d_M_init_170 : decode b_M_init 170 = .ok (.putfield 69, 3) := by decide +kernel
theorem d_M_init_173 : decode b_M_init 173 = .ok (.aload_n 0, 1) := by decide +kernel
theorem d_M_init_174 : decode b_M_init 174 = .ok (.bipush 8, 2) := by decide +kernel
theorem d_M_init_176 : decode b_M_init 176 = .ok (.newarray .long, 2) := by decide +kernel
theorem d_M_init_178 : decode b_M_init 178 = .ok (.putfield 72, 3) := by decide +kernel
theorem d_M_init_181 : decode b_M_init 181 = .ok (.aload_n 0, 1) := by decide +kernel
theorem d_M_init_182 : decode b_M_init 182 = .ok (.bipush 8, 2) := by decide +kernel
theorem d_M_init_184 : decode b_M_init 184 = .ok (.newarray .int, 2) := by decide +kernel
theorem d_M_init_186 : decode b_M_init 186 = .ok (.putfield 75, 3) := by decide +kernel
theorem d_M_init_189 : decode b_M_init 189 = .ok (.aload_n 0, 1) := by decide +kernel
theorem d_M_init_190 : decode b_M_init 190 = .ok (.sipush 240, 3) := by decide +kernel
theorem d_M_init_193 : decode b_M_init 193 = .ok (.newarray .int, 2) := by decide +kernel
theorem d_M_init_195 : decode b_M_init 195 = .ok (.putfield 78, 3) := by decide +kernel
theorem d_M_init_198 : decode b_M_init 198 = .ok (.aload_n 0, 1) := by decide +kernel
theorem d_M_init_199 : decode b_M_init 199 = .ok (.sipush 240, 3) := by decide +kernel
theorem d_M_init_202 : decode b_M_init 202 = .ok (.newarray .int, 2) := by decide +kernel
theorem d_M_init_204 : decode b_M_init 204 = .ok (.putfield 81, 3) := by decide +kernel
theorem d_M_init_207 : decode b_M_init 207 = .ok (.aload_n 0, 1) := by decide +kernel
theorem d_M_init_208 : decode b_M_init 208 = .ok (.sipush 240, 3) := by decide +kernel
theorem d_M_init_211 : decode b_M_init 211 = .ok (.newarray .int, 2) := by decide +kernel
theorem d_M_init_213 : decode b_M_init 213 = .ok (.putfield 84, 3) := by decide +kernel
theorem d_M_init_216 : decode b_M_init 216 = .ok (.aload_n 0, 1) := by decide +kernel
theorem d_M_init_217 : decode b_M_init 217 = .ok (.sipush 240, 3) := by decide +kernel
theorem d_M_init_220 : decode b_M_init 220 = .ok (.newarray .int, 2) := by decide +kernel
theorem d_M_init_222 : decode b_M_init 222 = .ok (.putfield 87, 3) := by decide +kernel
theorem d_M_init_225 : decode b_M_init 225 = .ok (.aload_n 0, 1) := by decide +kernel
theorem d_M_init_226 : decode b_M_init 226 = .ok (.sipush 240, 3) := by decide +kernel
theorem d_M_init_229 : decode b_M_init 229 = .ok (.newarray .long, 2) := by decide +kernel
theorem d_M_init_231 : decode b_M_init 231 = .ok (.putfield 90, 3) := by decide +kernel
theorem d_M_init_234 : decode b_M_init 234 = .ok (.aload_n 0, 1) := by decide +kernel
theorem d_M_init_235 : decode b_M_init 235 = .ok (.sipush 4200, 3) := by decide +kernel
theorem d_M_init_238 : decode b_M_init 238 = .ok (.newarray .int, 2) := by decide +kernel
theorem d_M_init_240 : decode b_M_init 240 = .ok (.putfield 93, 3) := by decide +kernel
theorem d_M_init_243 : decode b_M_init 243 = .ok (.aload_n 0, 1) := by decide +kernel
theorem d_M_init_244 : decode b_M_init 244 = .ok (.sipush 4200, 3) := by decide +kernel
theorem d_M_init_247 : decode b_M_init 247 = .ok (.newarray .int, 2) := by decide +kernel
theorem d_M_init_249 : decode b_M_init 249 = .ok (.putfield 96, 3) := by decide +kernel
theorem d_M_init_252 : decode b_M_init 252 = .ok (.aload_n 0, 1) := by decide +kernel
theorem d_M_init_253 : decode b_M_init 253 = .ok (.sipush 4200, 3) := by decide +kernel
theorem d_M_init_256 : decode b_M_init 256 = .ok (.newarray .int, 2) := by decide +kernel
theorem d_M_init_258 : decode b_M_init 258 = .ok (.putfield 99, 3) := by decide +kernel
theorem d_M_init_261 : decode b_M_init 261 = .ok (.return_, 1) := by decide +kernel
theorem d_M_item_0 : decode b_M_item 0 = .ok (.iload_n 1, 1) := by decide +kernel
theorem d_M_item_1 : decode b_M_item 1 = .ok (.i2l, 1) := by decide +kernel
theorem d_M_item_2 : decode b_M_item 2 = .ok (.lconst 0, 1) := by decide +kernel
theorem d_M_item_3 : decode b_M_item 3 = .ok (.ldc2_w 106, 3) := by decide +kernel
theorem d_M_item_6 : decode b_M_item 6 = .ok (.invokestatic 108, 3) := by decide +kernel
theorem d_M_item_9 : decode b_M_item 9 = .ok (.ifCond .eq 15, 3) := by decide +kernel
theorem d_M_item_12 : decode b_M_item 12 = .ok (.iload_n 2, 1) := by decide +kernel
theorem d_M_item_13 : decode b_M_item 13 = .ok (.i2l, 1) := by decide +kernel
theorem d_M_item_14 : decode b_M_item 14 = .ok (.lconst 0, 1) := by decide +kernel
theorem d_M_item_15 : decode b_M_item 15 = .ok (.ldc2_w 112, 3) := by decide +kernel
theorem d_M_item_18 : decode b_M_item 18 = .ok (.invokestatic 108, 3) := by decide +kernel
theorem d_M_item_21 : decode b_M_item 21 = .ok (.ifCond .ne 6, 3) := by decide +kernel
theorem d_M_item_24 : decode b_M_item 24 = .ok (.bipush (-12), 2) := by decide +kernel
theorem d_M_item_26 : decode b_M_item 26 = .ok (.ireturn, 1) := by decide +kernel
theorem d_M_item_27 : decode b_M_item 27 = .ok (.aload_n 0, 1) := by decide +kernel
theorem d_M_item_28 : decode b_M_item 28 = .ok (.getfield 102, 3) := by decide +kernel
theorem d_M_item_31 : decode b_M_item 31 = .ok (.bipush 60, 2) := by decide +kernel
theorem d_M_item_33 : decode b_M_item 33 = .ok (.if_icmp .ne 6, 3) := by decide +kernel
theorem d_M_item_36 : decode b_M_item 36 = .ok (.bipush (-14), 2) := by decide +kernel
theorem d_M_item_38 : decode b_M_item 38 = .ok (.ireturn, 1) := by decide +kernel
theorem d_M_item_39 : decode b_M_item 39 = .ok (.aload_n 0, 1) := by decide +kernel
theorem d_M_item_40 : decode b_M_item 40 = .ok (.dup, 1) := by decide +kernel
theorem d_M_item_41 : decode b_M_item 41 = .ok (.getfield 102, 3) := by decide +kernel
theorem d_M_item_44 : decode b_M_item 44 = .ok (.iconst 1, 1) := by decide +kernel
theorem d_M_item_45 : decode b_M_item 45 = .ok (.iadd, 1) := by decide +kernel
theorem d_M_item_46 : decode b_M_item 46 = .ok (.putfield 102, 3) := by decide +kernel
theorem d_M_item_49 : decode b_M_item 49 = .ok (.aload_n 0, 1) := by decide +kernel
theorem d_M_item_50 : decode b_M_item 50 = .ok (.getfield 7, 3) := by decide +kernel
theorem d_M_item_53 : decode b_M_item 53 = .ok (.aload_n 0, 1) := by decide +kernel
theorem d_M_item_54 : decode b_M_item 54 = .ok (.getfield 102, 3) := by decide +kernel
theorem d_M_item_57 : decode b_M_item 57 = .ok (.iload_n 1, 1) := by decide +kernel
theorem d_M_item_58 : decode b_M_item 58 = .ok (.iastore, 1) := by decide +kernel
theorem d_M_item_59 : decode b_M_item 59 = .ok (.aload_n 0, 1) := by decide +kernel
theorem d_M_item_60 : decode b_M_item 60 = .ok (.getfield 13, 3) := by decide +kernel
theorem d_M_item_63 : decode b_M_item 63 = .ok (.aload_n 0, 1) := by decide +kernel
theorem d_M_item_64 : decode b_M_item 64 = .ok (.getfield 102, 3) := by decide +kernel
theorem d_M_item_67 : decode b_M_item 67 = .ok (.iload_n 2, 1) := by decide +kernel
theorem d_M_item_68 : decode b_M_item 68 = .ok (.iastore, 1) := by decide +kernel
theorem d_M_item_69 : decode b_M_item 69 = .ok (.aload_n 0, 1) := by decide +kernel
theorem d_M_item_70 : decode b_M_item 70 = .ok (.getfield 20, 3) := by decide +kernel
theorem d_M_item_73 : decode b_M_item 73 = .ok (.aload_n 0, 1) := by decide +kernel
theorem d_M_item_74 : decode b_M_item 74 = .ok (.getfield 102, 3) := by decide +kernel
theorem d_M_item_77 : decode b_M_item 77 = .ok (.iconst (-1), 1) := by decide +kernel
theorem d_M_item_78 : decode b_M_item 78 = .ok (.iastore, 1) := by decide +kernel
theorem d_M_item_79 : decode b_M_item 79 = .ok (.sipush 488, 3) := by decide +kernel
theorem d_M_item_82 : decode b_M_item 82 = .ok (.aload_n 0, 1) := by decide +kernel
theorem d_M_item_83 : decode b_M_item 83 = .ok (.getfield 102, 3) := by decide +kernel
theorem d_M_item_86 : decode b_M_item 86 = .ok (.iadd, 1) := by decide +kernel
theorem d_M_item_87 : decode b_M_item 87 = .ok (.istore_n 3, 1) := by decide +kernel
theorem d_M_item_88 : decode b_M_item 88 = .ok (.aload_n 0, 1) := by decide +kernel
theorem d_M_item_89 : decode b_M_item 89 = .ok (.getfield 30, 3) := by decide +kernel
theorem d_M_item_92 : decode b_M_item 92 = .ok (.iload_n 3, 1) := by decide +kernel
theorem d_M_item_93 : decode b_M_item 93 = .ok (.iconst 0, 1) := by decide +kernel
theorem d_M_item_94 : decode b_M_item 94 = .ok (.iastore, 1) := by decide +kernel
theorem d_M_item_95 : decode b_M_item 95 = .ok (.aload_n 0, 1) := by decide +kernel
theorem d_M_item_96 : decode b_M_item 96 = .ok (.getfield 42, 3) := by decide +kernel
theorem d_M_item_99 : decode b_M_item 99 = .ok (.iload_n 3, 1) := by decide +kernel
theorem d_M_item_100 : decode b_M_item 100 = .ok (.iconst (-1), 1) := by decide +kernel
theorem d_M_item_101 : decode b_M_item 101 = .ok (.iastore, 1) := by decide +kernel
theorem d_M_item_102 : decode b_M_item 102 = .ok (.aload_n 0, 1) := by decide +kernel
theorem d_M_item_103 : decode b_M_item 103 = .ok (.getfield 45, 3) := by decide +kernel
theorem d_M_item_106 : decode b_M_item 106 = .ok (.iload_n 3, 1) := by decide +kernel
theorem d_M_item_107 : decode b_M_item 107 = .ok (.iconst (-1), 1) := by decide +kernel
theorem d_M_item_108 : decode b_M_item 108 = .ok (.iastore, 1) := by decide +kernel
theorem d_M_item_109 : decode b_M_item 109 = .ok (.aload_n 0, 1) := by decide +kernel
theorem d_M_item_110 : decode b_M_item 110 = .ok (.getfield 102, 3) := by decide +kernel
theorem d_M_item_113 : decode b_M_item 113 = .ok (.ireturn, 1) := by decide +kernel
theorem d_M_isIn_0 : decode b_M_isIn 0 = .ok (.lload_n 0, 1) := by decide +kernel
theorem d_M_isIn_1 : decode b_M_isIn 1 = .ok (.lload_n 2, 1) := by decide +kernel
theorem d_M_isIn_2 : decode b_M_isIn 2 = .ok (.lcmp, 1) := by decide +kernel
theorem d_M_isIn_3 : decode b_M_isIn 3 = .ok (.ifCond .lt 14, 3) := by decide +kernel
theorem d_M_isIn_6 : decode b_M_isIn 6 = .ok (.lload_n 0, 1) := by decide +kernel
theorem d_M_isIn_7 : decode b_M_isIn 7 = .ok (.lload 4, 2) := by decide +kernel
theorem d_M_isIn_9 : decode b_M_isIn 9 = .ok (.lcmp, 1) := by decide +kernel
theorem d_M_isIn_10 : decode b_M_isIn 10 = .ok (.ifCond .gt 7, 3) := by decide +kernel
theorem d_M_isIn_13 : decode b_M_isIn 13 = .ok (.iconst 1, 1) := by decide +kernel
theorem d_M_isIn_14 : decode b_M_isIn 14 = .ok (.goto 4, 3) := by decide +kernel
theorem d_M_isIn_17 : decode b_M_isIn 17 = .ok (.iconst 0, 1) := by decide +kernel
theorem d_M_isIn_18 : decode b_M_isIn 18 = .ok (.ireturn, 1) := by decide +kernel
theorem d_M_consent_0 : decode b_M_consent 0 = .ok (.iload_n 1, 1) := by decide +kernel
theorem d_M_consent_1 : decode b_M_consent 1 = .ok (.i2l, 1) := by decide +kernel
theorem d_M_consent_2 : decode b_M_consent 2 = .ok (.lconst 0, 1) := by decide +kernel
theorem d_M_consent_3 : decode b_M_consent 3 = .ok (.ldc2_w 112, 3) := by decide +kernel
theorem d_M_consent_6 : decode b_M_consent 6 = .ok (.invokestatic 108, 3) := by decide +kernel
theorem d_M_consent_9 : decode b_M_consent 9 = .ok (.ifCond .eq 32, 3) := by decide +kernel
theorem d_M_consent_12 : decode b_M_consent 12 = .ok (.iload_n 2, 1) := by decide +kernel
theorem d_M_consent_13 : decode b_M_consent 13 = .ok (.i2l, 1) := by decide +kernel
theorem d_M_consent_14 : decode b_M_consent 14 = .ok (.lconst 0, 1) := by decide +kernel
theorem d_M_consent_15 : decode b_M_consent 15 = .ok (.ldc2_w 117, 3) := by decide +kernel
theorem d_M_consent_18 : decode b_M_consent 18 = .ok (.invokestatic 108, 3) := by decide +kernel
theorem d_M_consent_21 : decode b_M_consent 21 = .ok (.ifCond .eq 20, 3) := by decide +kernel
theorem d_M_consent_24 : decode b_M_consent 24 = .ok (.iload_n 2, 1) := by decide +kernel
theorem d_M_consent_25 : decode b_M_consent 25 = .ok (.iconst 2, 1) := by decide +kernel
theorem d_M_consent_26 : decode b_M_consent 26 = .ok (.if_icmp .ge 18, 3) := by decide +kernel
theorem d_M_consent_29 : decode b_M_consent 29 = .ok (.iload_n 3, 1) := by decide +kernel
theorem d_M_consent_30 : decode b_M_consent 30 = .ok (.i2l, 1) := by decide +kernel
theorem d_M_consent_31 : decode b_M_consent 31 = .ok (.lconst 0, 1) := by decide +kernel
theorem d_M_consent_32 : decode b_M_consent 32 = .ok (.ldc2_w 112, 3) := by decide +kernel
theorem d_M_consent_35 : decode b_M_consent 35 = .ok (.invokestatic 108, 3) := by decide +kernel
theorem d_M_consent_38 : decode b_M_consent 38 = .ok (.ifCond .ne 6, 3) := by decide +kernel
theorem d_M_consent_41 : decode b_M_consent 41 = .ok (.bipush (-12), 2) := by decide +kernel
theorem d_M_consent_43 : decode b_M_consent 43 = .ok (.ireturn, 1) := by decide +kernel
theorem d_M_consent_44 : decode b_M_consent 44 = .ok (.iload_n 2, 1) := by decide +kernel
theorem d_M_consent_45 : decode b_M_consent 45 = .ok (.iconst 2, 1) := by decide +kernel
theorem d_M_consent_46 : decode b_M_consent 46 = .ok (.if_icmp .ge 11, 3) := by decide +kernel
theorem d_M_consent_49 : decode b_M_consent 49 = .ok (.iload_n 3, 1) := by decide +kernel
theorem d_M_consent_50 : decode b_M_consent 50 = .ok (.iload_n 1, 1) := by decide +kernel
theorem d_M_consent_51 : decode b_M_consent 51 = .ok (.if_icmp .ne 6, 3) := by decide +kernel
theorem d_M_consent_54 : decode b_M_consent 54 = .ok (.bipush (-13), 2) := by decide +kernel
theorem d_M_consent_56 : decode b_M_consent 56 = .ok (.ireturn, 1) := by decide +kernel
theorem d_M_consent_57 : decode b_M_consent 57 = .ok (.aload_n 0, 1) := by decide +kernel
theorem d_M_consent_58 : decode b_M_consent 58 = .ok (.iload_n 1, 1) := by decide +kernel
theorem d_M_consent_59 : decode b_M_consent 59 = .ok (.iload_n 2, 1) := by decide +kernel
theorem d_M_consent_60 : decode b_M_consent 60 = .ok (.iload_n 3, 1) := by decide +kernel
theorem d_M_consent_61 : decode b_M_consent 61 = .ok (.invokevirtual 119, 3) := by decide +kernel
theorem d_M_consent_64 : decode b_M_consent 64 = .ok (.istore 4, 2) := by decide +kernel
theorem d_M_consent_66 : decode b_M_consent 66 = .ok (.iload 4, 2) := by decide +kernel
theorem d_M_consent_68 : decode b_M_consent 68 = .ok (.iconst (-1), 1) := by decide +kernel
theorem d_M_consent_69 : decode b_M_consent 69 = .ok (.if_icmp .ne 15, 3) := by decide +kernel
theorem d_M_consent_72 : decode b_M_consent 72 = .ok (.aload_n 0, 1) := by decide +kernel
theorem d_M_consent_73 : decode b_M_consent 73 = .ok (.getfield 114, 3) := by decide +kernel
theorem d_M_consent_76 : decode b_M_consent 76 = .ok (.bipush 100, 2) := by decide +kernel
theorem d_M_consent_78 : decode b_M_consent 78 = .ok (.if_icmp .ne 6, 3) := by decide +kernel
theorem d_M_consent_81 : decode b_M_consent 81 = .ok (.bipush (-14), 2) := by decide +kernel
theorem d_M_consent_83 : decode b_M_consent 83 = .ok (.ireturn, 1) := by decide +kernel
theorem d_M_consent_84 : decode b_M_consent 84 = .ok (.iload 4, 2) := by decide +kernel
theorem d_M_consent_86 : decode b_M_consent 86 = .ok (.iconst (-1), 1) := by decide +kernel
theorem d_M_consent_87 : decode b_M_consent 87 = .ok (.if_icmp .ne 45, 3) := by decide +kernel
theorem d_M_consent_90 : decode b_M_consent 90 = .ok (.aload_n 0, 1) := by decide +kernel
theorem d_M_consent_91 : decode b_M_consent 91 = .ok (.getfield 57, 3) := by decide +kernel
theorem d_M_consent_94 : decode b_M_consent 94 = .ok (.aload_n 0, 1) := by decide +kernel
theorem d_M_consent_95 : decode b_M_consent 95 = .ok (.getfield 114, 3) := by decide +kernel
theorem d_M_consent_98 : decode b_M_consent 98 = .ok (.iload_n 1, 1) := by decide +kernel
theorem d_M_consent_99 : decode b_M_consent 99 = .ok (.iastore, 1) := by decide +kernel
theorem d_M_consent_100 : decode b_M_consent 100 = .ok (.aload_n 0, 1) := by decide +kernel
theorem d_M_consent_101 : decode b_M_consent 101 = .ok (.getfield 60, 3) := by decide +kernel
theorem d_M_consent_104 : decode b_M_consent 104 = .ok (.aload_n 0, 1) := by decide +kernel
theorem d_M_consent_105 : decode b_M_consent 105 = .ok (.getfield 114, 3) := by decide +kernel
theorem d_M_consent_108 : decode b_M_consent 108 = .ok (.iload_n 2, 1) := by decide +kernel
theorem d_M_consent_109 : decode b_M_consent 109 = .ok (.iastore, 1) := by decide +kernel
theorem d_M_consent_110 : decode b_M_consent 110 = .ok (.aload_n 0, 1) := by decide +kernel
theorem d_M_consent_111 : decode b_M_consent 111 = .ok (.getfield 63, 3) := by decide +kernel
theorem d_M_consent_114 : decode b_M_consent 114 = .ok (.aload_n 0, 1) := by decide +kernel
theorem d_M_consent_115 : decode b_M_consent 115 = .ok (.getfield 114, 3) := by decide +kernel
theorem d_M_consent_118 : decode b_M_consent 118 = .ok (.iload_n 3, 1) := by decide +kernel
theorem d_M_consent_119 : decode b_M_consent 119 = .ok (.iastore, 1) := by decide +kernel
theorem d_M_consent_120 : decode b_M_consent 120 = .ok (.aload_n 0, 1) := by decide +kernel
theorem d_M_consent_121 : decode b_M_consent 121 = .ok (.dup, 1) := by decide +kernel
theorem d_M_consent_122 : decode b_M_consent 122 = .ok (.getfield 114, 3) := by decide +kernel
theorem d_M_consent_125 : decode b_M_consent 125 = .ok (.iconst 1, 1) := by decide +kernel
theorem d_M_consent_126 : decode b_M_consent 126 = .ok (.iadd, 1) := by decide +kernel
theorem d_M_consent_127 : decode b_M_consent 127 = .ok (.putfield 114, 3) := by decide +kernel
theorem d_M_consent_130 : decode b_M_consent 130 = .ok (.iconst 1, 1) := by decide +kernel
theorem d_M_consent_131 : decode b_M_consent 131 = .ok (.ireturn, 1) := by decide +kernel
theorem d_M_consent_132 : decode b_M_consent 132 = .ok (.aload_n 0, 1) := by decide +kernel
theorem d_M_consent_133 : decode b_M_consent 133 = .ok (.dup, 1) := by decide +kernel
theorem d_M_consent_134 : decode b_M_consent 134 = .ok (.getfield 114, 3) := by decide +kernel
theorem d_M_consent_137 : decode b_M_consent 137 = .ok (.iconst 1, 1) := by decide +kernel
theorem d_M_consent_138 : decode b_M_consent 138 = .ok (.isub, 1) := by decide +kernel
theorem d_M_consent_139 : decode b_M_consent 139 = .ok (.putfield 114, 3) := by decide +kernel
theorem d_M_consent_142 : decode b_M_consent 142 = .ok (.aload_n 0, 1) := by decide +kernel
theorem d_M_consent_143 : decode b_M_consent 143 = .ok (.getfield 57, 3) := by decide +kernel
theorem d_M_consent_146 : decode b_M_consent 146 = .ok (.iload 4, 2) := by decide +kernel
theorem d_M_consent_148 : decode b_M_consent 148 = .ok (.aload_n 0, 1) := by decide +kernel
theorem d_M_consent_149 : decode b_M_consent 149 = .ok (.getfield 57, 3) := by decide +kernel
theorem d_M_consent_152 : decode b_M_consent 152 = .ok (.aload_n 0, 1) := by decide +kernel
theorem d_M_consent_153 : decode b_M_consent 153 = .ok (.getfield 114, 3) := by decide +kernel
theorem d_M_consent_156 : decode b_M_consent 156 = .ok (.iaload, 1) := by decide +kernel
theorem d_M_consent_157 : decode b_M_consent 157 = .ok (.iastore, 1) := by decide +kernel
theorem d_M_consent_158 : decode b_M_consent 158 = .ok (.aload_n 0, 1) := by decide +kernel
theorem d_M_consent_159 : decode b_M_consent 159 = .ok (.getfield 60, 3) := by decide +kernel
theorem d_M_consent_162 : decode b_M_consent 162 = .ok (.iload 4, 2) := by decide +kernel
theorem d_M_consent_164 : decode b_M_consent 164 = .ok (.aload_n 0, 1) := by decide +kernel
theorem d_M_consent_165 : decode b_M_consent 165 = .ok (.getfield 60, 3) := by decide +kernel
theorem d_M_consent_168 : decode b_M_consent 168 = .ok (.aload_n 0, 1) := by decide +kernel
theorem d_M_consent_169 : decode b_M_consent 169 = .ok (.getfield 114, 3) := by decide +kernel
theorem d_M_consent_172 : decode b_M_consent 172 = .ok (.iaload, 1) := by decide +kernel
theorem d_M_consent_173 : decode b_M_consent 173 = .ok (.iastore, 1) := by decide +kernel
theorem d_M_consent_174 : decode b_M_consent 174 = .ok (.aload_n 0, 1) := by decide +kernel
theorem d_M_consent_175 : decode b_M_consent 175 = .ok (.getfield 63, 3) := by decide +kernel
theorem d_M_consent_178 : decode b_M_consent 178 = .ok (.iload 4, 2) := by decide +kernel
theorem d_M_consent_180 : decode b_M_consent 180 = .ok (.aload_n 0, 1) := by decide +kernel
theorem d_M_consent_181 : decode b_M_consent 181 = .ok (.getfield 63, 3) := by decide +kernel
theorem d_M_consent_184 : decode b_M_consent 184 = .ok (.aload_n 0, 1) := by decide +kernel
theorem d_M_consent_185 : decode b_M_consent 185 = .ok (.getfield 114, 3) := by decide +kernel
theorem d_M_consent_188 : decode b_M_consent 188 = .ok (.iaload, 1) := by decide +kernel
theorem d_M_consent_189 : decode b_M_consent 189 = .ok (.iastore, 1) := by decide +kernel
theorem d_M_consent_190 : decode b_M_consent 190 = .ok (.iconst 0, 1) := by decide +kernel
theorem d_M_consent_191 : decode b_M_consent 191 = .ok (.ireturn, 1) := by decide +kernel
theorem d_M_findConsent_0 : decode b_M_findConsent 0 = .ok (.iconst (-1), 1) := by decide +kernel
theorem d_M_findConsent_1 : decode b_M_findConsent 1 = .ok (.istore 4, 2) := by decide +kernel
theorem d_M_findConsent_3 : decode b_M_findConsent 3 = .ok (.iconst 0, 1) := by decide +kernel
theorem d_M_findConsent_4 : decode b_M_findConsent 4 = .ok (.istore 5, 2) := by decide +kernel
theorem d_M_findConsent_6 : decode b_M_findConsent 6 = .ok (.iload 5, 2) := by decide +kernel
theorem d_M_findConsent_8 : decode b_M_findConsent 8 = .ok (.aload_n 0, 1) := by decide +kernel
theorem d_M_findConsent_9 : decode b_M_findConsent 9 = .ok (.getfield 114, 3) := by decide +kernel
theorem d_M_findConsent_12 : decode b_M_findConsent 12 = .ok (.if_icmp .ge 68, 3) := by decide +kernel
theorem d_M_findConsent_15 : decode b_M_findConsent 15 = .ok (.aload_n 0, 1) := by decide +kernel
theorem d_M_findConsent_16 : decode b_M_findConsent 16 = .ok (.getfield 57, 3) := by decide +kernel
theorem d_M_findConsent_19 : decode b_M_findConsent 19 = .ok (.iload 5, 2) := by decide +kernel
theorem d_M_findConsent_21 : decode b_M_findConsent 21 = .ok (.iaload, 1) := by decide +kernel
theorem d_M_findConsent_22 : decode b_M_findConsent 22 = .ok (.iload_n 1, 1) := by decide +kernel
theorem d_M_findConsent_23 : decode b_M_findConsent 23 = .ok (.if_icmp .ne 34, 3) := by decide +kernel
theorem d_M_findConsent_26 : decode b_M_findConsent 26 = .ok (.aload_n 0, 1) := by decide +kernel
theorem d_M_findConsent_27 : decode b_M_findConsent 27 = .ok (.getfield 60, 3) := by decide +kernel
theorem d_M_findConsent_30 : decode b_M_findConsent 30 = .ok (.iload 5, 2) := by decide +kernel
theorem d_M_findConsent_32 : decode b_M_findConsent 32 = .ok (.iaload, 1) := by decide +kernel
theorem d_M_findConsent_33 : decode b_M_findConsent 33 = .ok (.iload_n 2, 1) := by decide +kernel
theorem d_M_findConsent_34 : decode b_M_findConsent 34 = .ok (.if_icmp .ne 23, 3) := by decide +kernel
theorem d_M_findConsent_37 : decode b_M_findConsent 37 = .ok (.iload_n 2, 1) := by decide +kernel
theorem d_M_findConsent_38 : decode b_M_findConsent 38 = .ok (.iconst 2, 1) := by decide +kernel
theorem d_M_findConsent_39 : decode b_M_findConsent 39 = .ok (.if_icmp .eq 14, 3) := by decide +kernel
theorem d_M_findConsent_42 : decode b_M_findConsent 42 = .ok (.aload_n 0, 1) := by decide +kernel
theorem d_M_findConsent_43 : decode b_M_findConsent 43 = .ok (.getfield 63, 3) := by decide +kernel
theorem d_M_findConsent_46 : decode b_M_findConsent 46 = .ok (.iload 5, 2) := by decide +kernel
theorem d_M_findConsent_48 : decode b_M_findConsent 48 = .ok (.iaload, 1) := by decide +kernel
theorem d_M_findConsent_49 : decode b_M_findConsent 49 = .ok (.iload_n 3, 1) := by decide +kernel
theorem d_M_findConsent_50 : decode b_M_findConsent 50 = .ok (.if_icmp .ne 7, 3) := by decide +kernel
theorem d_M_findConsent_53 : decode b_M_findConsent 53 = .ok (.iconst 1, 1) := by decide +kernel
theorem d_M_findConsent_54 : decode b_M_findConsent 54 = .ok (.goto 4, 3) := by decide +kernel
theorem d_M_findConsent_57 : decode b_M_findConsent 57 = .ok (.iconst 0, 1) := by decide +kernel
theorem d_M_findConsent_58 : decode b_M_findConsent 58 = .ok (.istore 6, 2) := by decide +kernel
theorem d_M_findConsent_60 : decode b_M_findConsent 60 = .ok (.iload 6, 2) := by decide +kernel
theorem d_M_findConsent_62 : decode b_M_findConsent 62 = .ok (.ifCond .eq 8, 3) := by decide +kernel
theorem d_M_findConsent_65 : decode b_M_findConsent 65 = .ok (.iload 5, 2) := by decide +kernel
theorem d_M_findConsent_67 : decode b_M_findConsent 67 = .ok (.goto 5, 3) := by decide +kernel
theorem d_M_findConsent_70 : decode b_M_findConsent 70 = .ok (.iload 4, 2) := by decide +kernel
theorem d_M_findConsent_72 : decode b_M_findConsent 72 = .ok (.istore 4, 2) := by decide +kernel
theorem d_M_findConsent_74 : decode b_M_findConsent 74 = .ok (.iinc 5 1, 3) := by decide +kernel
theorem d_M_findConsent_77 : decode b_M_findConsent 77 = .ok (.goto (-71), 3) := by decide +kernel
theorem d_M_findConsent_80 : decode b_M_findConsent 80 = .ok (.iload 4, 2) := by decide +kernel
theorem d_M_findConsent_82 : decode b_M_findConsent 82 = .ok (.ireturn, 1) := by decide +kernel
theorem d_M_act_0 : decode b_M_act 0 = .ok (.aload_n 0, 1) := by decide +kernel
theorem d_M_act_1 : decode b_M_act 1 = .ok (.iload_n 2, 1) := by decide +kernel
theorem d_M_act_2 : decode b_M_act 2 = .ok (.invokevirtual 143, 3) := by decide +kernel
theorem d_M_act_5 : decode b_M_act 5 = .ok (.ifCond .eq 29, 3) := by decide +kernel
theorem d_M_act_8 : decode b_M_act 8 = .ok (.iload_n 1, 1) := by decide +kernel
theorem d_M_act_9 : decode b_M_act 9 = .ok (.invokestatic 147, 3) := by decide +kernel
theorem d_M_act_12 : decode b_M_act 12 = .ok (.ifCond .eq 25, 3) := by decide +kernel
theorem d_M_act_15 : decode b_M_act 15 = .ok (.aload_n 0, 1) := by decide +kernel
theorem d_M_act_16 : decode b_M_act 16 = .ok (.getfield 66, 3) := by decide +kernel
theorem d_M_act_19 : decode b_M_act 19 = .ok (.iload_n 1, 1) := by decide +kernel
theorem d_M_act_20 : decode b_M_act 20 = .ok (.baload, 1) := by decide +kernel
theorem d_M_act_21 : decode b_M_act 21 = .ok (.ifCond .eq 16, 3) := by decide +kernel
theorem d_M_act_24 : decode b_M_act 24 = .ok (.iload_n 2, 1) := by decide +kernel
theorem d_M_act_25 : decode b_M_act 25 = .ok (.aload_n 0, 1) := by decide +kernel
theorem d_M_act_26 : decode b_M_act 26 = .ok (.getfield 69, 3) := by decide +kernel
theorem d_M_act_29 : decode b_M_act 29 = .ok (.iload_n 1, 1) := by decide +kernel
theorem d_M_act_30 : decode b_M_act 30 = .ok (.iaload, 1) := by decide +kernel
theorem d_M_act_31 : decode b_M_act 31 = .ok (.if_icmp .le 6, 3) := by decide +kernel
theorem d_M_act_34 : decode b_M_act 34 = .ok (.bipush (-11), 2) := by decide +kernel
theorem d_M_act_36 : decode b_M_act 36 = .ok (.ireturn, 1) := by decide +kernel
theorem d_M_act_37 : decode b_M_act 37 = .ok (.iload_n 3, 1) := by decide +kernel
theorem d_M_act_38 : decode b_M_act 38 = .ok (.ifCond .eq 8, 3) := by decide +kernel
theorem d_M_act_41 : decode b_M_act 41 = .ok (.iload_n 3, 1) := by decide +kernel
theorem d_M_act_42 : decode b_M_act 42 = .ok (.iconst 2, 1) := by decide +kernel
theorem d_M_act_43 : decode b_M_act 43 = .ok (.if_icmp .ne 7, 3) := by decide +kernel
theorem d_M_act_46 : decode b_M_act 46 = .ok (.iconst 1, 1) := by decide +kernel
theorem d_M_act_47 : decode b_M_act 47 = .ok (.goto 4, 3) := by decide +kernel
theorem d_M_act_50 : decode b_M_act 50 = .ok (.iconst 0, 1) := by decide +kernel
theorem d_M_act_51 : decode b_M_act 51 = .ok (.istore 8, 2) := by decide +kernel
theorem d_M_act_53 : decode b_M_act 53 = .ok (.iload_n 1, 1) := by decide +kernel
theorem d_M_act_54 : decode b_M_act 54 = .ok (.invokestatic 147, 3) := by decide +kernel
theorem d_M_act_57 : decode b_M_act 57 = .ok (.ifCond .eq 78, 3) := by decide +kernel
theorem d_M_act_60 : decode b_M_act 60 = .ok (.iload_n 3, 1) := by decide +kernel
theorem d_M_act_61 : decode b_M_act 61 = .ok (.i2l, 1) := by decide +kernel
theorem d_M_act_62 : decode b_M_act 62 = .ok (.lconst 0, 1) := by decide +kernel
theorem d_M_act_63 : decode b_M_act 63 = .ok (.ldc2_w 106, 3) := by decide +kernel
theorem d_M_act_66 : decode b_M_act 66 = .ok (.invokestatic 108, 3) := by decide +kernel
theorem d_M_act_69 : decode b_M_act 69 = .ok (.ifCond .eq 66, 3) := by decide +kernel
theorem d_M_act_72 : decode b_M_act 72 = .ok (.iload 4, 2) := by decide +kernel
theorem d_M_act_74 : decode b_M_act 74 = .ok (.i2l, 1) := by decide +kernel
theorem d_M_act_75 : decode b_M_act 75 = .ok (.iload 8, 2) := by decide +kernel
theorem d_M_act_77 : decode b_M_act 77 = .ok (.ifCond .eq 7, 3) := by decide +kernel
theorem d_M_act_80 : decode b_M_act 80 = .ok (.lconst 0, 1) := by decide +kernel
theorem d_M_act_81 : decode b_M_act 81 = .ok (.goto 6, 3) := by decide +kernel
theorem d_M_act_84 : decode b_M_act 84 = .ok (.ldc2_w 150, 3) := by decide +kernel
theorem d_M_act_87 : decode b_M_act 87 = .ok (.ldc2_w 112, 3) := by decide +kernel
theorem d_M_act_90 : decode b_M_act 90 = .ok (.invokestatic 108, 3) := by decide +kernel
theorem d_M_act_93 : decode b_M_act 93 = .ok (.ifCond .eq 42, 3) := by decide +kernel
theorem d_M_act_96 : decode b_M_act 96 = .ok (.iload 5, 2) := by decide +kernel
theorem d_M_act_98 : decode b_M_act 98 = .ok (.i2l, 1) := by decide +kernel
theorem d_M_act_99 : decode b_M_act 99 = .ok (.ldc2_w 150, 3) := by decide +kernel
theorem d_M_act_102 : decode b_M_act 102 = .ok (.ldc2_w 152, 3) := by decide +kernel
theorem d_M_act_105 : decode b_M_act 105 = .ok (.invokestatic 108, 3) := by decide +kernel
theorem d_M_act_108 : decode b_M_act 108 = .ok (.ifCond .eq 27, 3) := by decide +kernel
theorem d_M_act_111 : decode b_M_act 111 = .ok (.lload 6, 2) := by decide +kernel
theorem d_M_act_113 : decode b_M_act 113 = .ok (.lconst 0, 1) := by decide +kernel
theorem d_M_act_114 : decode b_M_act 114 = .ok (.ldc2_w 154, 3) := by decide +kernel
theorem d_M_act_117 : decode b_M_act 117 = .ok (.invokestatic 108, 3) := by decide +kernel
theorem d_M_act_120 : decode b_M_act 120 = .ok (.ifCond .eq 15, 3) := by decide +kernel
theorem d_M_act_123 : decode b_M_act 123 = .ok (.lload 6, 2) := by decide +kernel
theorem d_M_act_125 : decode b_M_act 125 = .ok (.aload_n 0, 1) := by decide +kernel
theorem d_M_act_126 : decode b_M_act 126 = .ok (.getfield 72, 3) := by decide +kernel
theorem d_M_act_129 : decode b_M_act 129 = .ok (.iload_n 1, 1) := by decide +kernel
theorem d_M_act_130 : decode b_M_act 130 = .ok (.laload, 1) := by decide +kernel
theorem d_M_act_131 : decode b_M_act 131 = .ok (.lcmp, 1) := by decide +kernel
theorem d_M_act_132 : decode b_M_act 132 = .ok (.ifCond .ge 6, 3) := by decide +kernel
theorem d_M_act_135 : decode b_M_act 135 = .ok (.bipush (-12), 2) := by decide +kernel
theorem d_M_act_137 : decode b_M_act 137 = .ok (.ireturn, 1) := by decide +kernel
theorem d_M_act_138 : decode b_M_act 138 = .ok (.aload_n 0, 1) := by decide +kernel
theorem d_M_act_139 : decode b_M_act 139 = .ok (.getfield 66, 3) := by decide +kernel
theorem d_M_act_142 : decode b_M_act 142 = .ok (.iload_n 1, 1) := by decide +kernel
theorem d_M_act_143 : decode b_M_act 143 = .ok (.baload, 1) := by decide +kernel
theorem d_M_act_144 : decode b_M_act 144 = .ok (.ifCond .eq 7, 3) := by decide +kernel
theorem d_M_act_147 : decode b_M_act 147 = .ok (.iload_n 1, 1) := by decide +kernel
theorem d_M_act_148 : decode b_M_act 148 = .ok (.goto 5, 3) := by decide +kernel
theorem d_M_act_151 : decode b_M_act 151 = .ok (.bipush 8, 2) := by decide +kernel
theorem d_M_act_153 : decode b_M_act 153 = .ok (.istore 9, 2) := by decide +kernel
theorem d_M_act_155 : decode b_M_act 155 = .ok (.lload 6, 2) := by decide +kernel
theorem d_M_act_157 : decode b_M_act 157 = .ok (.ldc2_w 156, 3) := by decide +kernel
theorem d_M_act_160 : decode b_M_act 160 = .ok (.ldiv, 1) := by decide +kernel
theorem d_M_act_161 : decode b_M_act 161 = .ok (.lstore 10, 2) := by decide +kernel
theorem d_M_act_163 : decode b_M_act 163 = .ok (.aload_n 0, 1) := by decide +kernel
theorem d_M_act_164 : decode b_M_act 164 = .ok (.iload 9, 2) := by decide +kernel
theorem d_M_act_166 : decode b_M_act 166 = .ok (.iload_n 2, 1) := by decide +kernel
theorem d_M_act_167 : decode b_M_act 167 = .ok (.iload_n 3, 1) := by decide +kernel
theorem d_M_act_168 : decode b_M_act 168 = .ok (.iload_n 1, 1) := by decide +kernel
theorem d_M_act_169 : decode b_M_act 169 = .ok (.lload 10, 2) := by decide +kernel
theorem d_M_act_171 : decode b_M_act 171 = .ok (.invokevirtual 158, 3) := by decide +kernel
theorem d_M_act_174 : decode b_M_act 174 = .ok (.ifCond .ne 6, 3) := by decide +kernel
theorem d_M_act_177 : decode b_M_act 177 = .ok (.bipush (-13), 2) := by decide +kernel
theorem d_M_act_179 : decode b_M_act 179 = .ok (.ireturn, 1) := by decide +kernel
theorem d_M_act_180 : decode b_M_act 180 = .ok (.aload_n 0, 1) := by decide +kernel
theorem d_M_act_181 : decode b_M_act 181 = .ok (.getfield 66, 3) := by decide +kernel
theorem d_M_act_184 : decode b_M_act 184 = .ok (.iload_n 1, 1) := by decide +kernel
theorem d_M_act_185 : decode b_M_act 185 = .ok (.baload, 1) := by decide +kernel
theorem d_M_act_186 : decode b_M_act 186 = .ok (.ifCond .eq 17, 3) := by decide +kernel
theorem d_M_act_189 : decode b_M_act 189 = .ok (.aload_n 0, 1) := by decide +kernel
theorem d_M_act_190 : decode b_M_act 190 = .ok (.getfield 75, 3) := by decide +kernel
theorem d_M_act_193 : decode b_M_act 193 = .ok (.iload_n 1, 1) := by decide +kernel
theorem d_M_act_194 : decode b_M_act 194 = .ok (.iaload, 1) := by decide +kernel
theorem d_M_act_195 : decode b_M_act 195 = .ok (.bipush 30, 2) := by decide +kernel
theorem d_M_act_197 : decode b_M_act 197 = .ok (.if_icmp .ne 6, 3) := by decide +kernel
theorem d_M_act_200 : decode b_M_act 200 = .ok (.bipush (-14), 2) := by decide +kernel
theorem d_M_act_202 : decode b_M_act 202 = .ok (.ireturn, 1) := by decide +kernel
theorem d_M_act_203 : decode b_M_act 203 = .ok (.aload_n 0, 1) := by decide +kernel
theorem d_M_act_204 : decode b_M_act 204 = .ok (.iload 9, 2) := by decide +kernel
theorem d_M_act_206 : decode b_M_act 206 = .ok (.iload_n 2, 1) := by decide +kernel
theorem d_M_act_207 : decode b_M_act 207 = .ok (.iload_n 3, 1) := by decide +kernel
theorem d_M_act_208 : decode b_M_act 208 = .ok (.iload 4, 2) := by decide +kernel
theorem d_M_act_210 : decode b_M_act 210 = .ok (.iload 5, 2) := by decide +kernel
theorem d_M_act_212 : decode b_M_act 212 = .ok (.invokevirtual 162, 3) := by decide +kernel
theorem d_M_act_215 : decode b_M_act 215 = .ok (.istore 12, 2) := by decide +kernel
theorem d_M_act_217 : decode b_M_act 217 = .ok (.iload 12, 2) := by decide +kernel
theorem d_M_act_219 : decode b_M_act 219 = .ok (.ifCond .ge 6, 3) := by decide +kernel
theorem d_M_act_222 : decode b_M_act 222 = .ok (.iload 12, 2) := by decide +kernel
theorem d_M_act_224 : decode b_M_act 224 = .ok (.ireturn, 1) := by decide +kernel
theorem d_M_act_225 : decode b_M_act 225 = .ok (.aload_n 0, 1) := by decide +kernel
theorem d_M_act_226 : decode b_M_act 226 = .ok (.iload 9, 2) := by decide +kernel
theorem d_M_act_228 : decode b_M_act 228 = .ok (.iload_n 2, 1) := by decide +kernel
theorem d_M_act_229 : decode b_M_act 229 = .ok (.iload_n 3, 1) := by decide +kernel
theorem d_M_act_230 : decode b_M_act 230 = .ok (.iload 12, 2) := by decide +kernel
theorem d_M_act_232 : decode b_M_act 232 = .ok (.iload_n 1, 1) := by decide +kernel
theorem d_M_act_233 : decode b_M_act 233 = .ok (.iload 4, 2) := by decide +kernel
theorem d_M_act_235 : decode b_M_act 235 = .ok (.lload 10, 2) := by decide +kernel
theorem d_M_act_237 : decode b_M_act 237 = .ok (.invokevirtual 166, 3) := by decide +kernel
theorem d_M_act_240 : decode b_M_act 240 = .ok (.aload_n 0, 1) := by decide +kernel
theorem d_M_act_241 : decode b_M_act 241 = .ok (.getfield 72, 3) := by decide +kernel
theorem d_M_act_244 : decode b_M_act 244 = .ok (.iload_n 1, 1) := by decide +kernel
theorem d_M_act_245 : decode b_M_act 245 = .ok (.lload 6, 2) := by decide +kernel
theorem d_M_act_247 : decode b_M_act 247 = .ok (.lastore, 1) := by decide +kernel
theorem d_M_act_248 : decode b_M_act 248 = .ok (.aload_n 0, 1) := by decide +kernel
theorem d_M_act_249 : decode b_M_act 249 = .ok (.getfield 66, 3) := by decide +kernel
theorem d_M_act_252 : decode b_M_act 252 = .ok (.iload_n 1, 1) := by decide +kernel
theorem d_M_act_253 : decode b_M_act 253 = .ok (.baload, 1) := by decide +kernel
theorem d_M_act_254 : decode b_M_act 254 = .ok (.ifCond .eq 69, 3) := by decide +kernel
theorem d_M_act_257 : decode b_M_act 257 = .ok (.bipush 30, 2) := by decide +kernel
theorem d_M_act_259 : decode b_M_act 259 = .ok (.iload_n 1, 1) := by decide +kernel
theorem d_M_act_260 : decode b_M_act 260 = .ok (.imul, 1) := by decide +kernel
theorem d_M_act_261 : decode b_M_act 261 = .ok (.aload_n 0, 1) := by decide +kernel
theorem d_M_act_262 : decode b_M_act 262 = .ok (.getfield 75, 3) := by decide +kernel
theorem d_M_act_265 : decode b_M_act 265 = .ok (.iload_n 1, 1) := by decide +kernel
theorem d_M_act_266 : decode b_M_act 266 = .ok (.iaload, 1) := by decide +kernel
theorem d_M_act_267 : decode b_M_act 267 = .ok (.iadd, 1) := by decide +kernel
theorem d_M_act_268 : decode b_M_act 268 = .ok (.istore 13, 2) := by decide +kernel
theorem d_M_act_270 : decode b_M_act 270 = .ok (.aload_n 0, 1) := by decide +kernel
theorem d_M_act_271 : decode b_M_act 271 = .ok (.getfield 78, 3) := by decide +kernel
theorem d_M_act_274 : decode b_M_act 274 = .ok (.iload 13, 2) := by decide +kernel
theorem d_M_act_276 : decode b_M_act 276 = .ok (.iload_n 2, 1) := by decide +kernel
theorem d_M_act_277 : decode b_M_act 277 = .ok (.iastore, 1) := by decide +kernel
theorem d_M_act_278 : decode b_M_act 278 = .ok (.aload_n 0, 1) := by decide +kernel
theorem d_M_act_279 : decode b_M_act 279 = .ok (.getfield 81, 3) := by decide +kernel
theorem d_M_act_282 : decode b_M_act 282 = .ok (.iload 13, 2) := by decide +kernel
theorem d_M_act_284 : decode b_M_act 284 = .ok (.iload_n 3, 1) := by decide +kernel
theorem d_M_act_285 : decode b_M_act 285 = .ok (.iastore, 1) := by decide +kernel
theorem d_M_act_286 : decode b_M_act 286 = .ok (.aload_n 0, 1) := by decide +kernel
theorem d_M_act_287 : decode b_M_act 287 = .ok (.getfield 84, 3) := by decide +kernel
theorem d_M_act_290 : decode b_M_act 290 = .ok (.iload 13, 2) := by decide +kernel
theorem d_M_act_292 : decode b_M_act 292 = .ok (.iload 12, 2) := by decide +kernel
theorem d_M_act_294 : decode b_M_act 294 = .ok (.iastore, 1) := by decide +kernel
theorem d_M_act_295 : decode b_M_act 295 = .ok (.aload_n 0, 1) := by decide +kernel
theorem d_M_act_296 : decode b_M_act 296 = .ok (.getfield 87, 3) := by decide +kernel
theorem d_M_act_299 : decode b_M_act 299 = .ok (.iload 13, 2) := by decide +kernel
theorem d_M_act_301 : decode b_M_act 301 = .ok (.iload 4, 2) := by decide +kernel
theorem d_M_act_303 : decode b_M_act 303 = .ok (.iastore, 1) := by decide +kernel
theorem d_M_act_304 : decode b_M_act 304 = .ok (.aload_n 0, 1) := by decide +kernel
theorem d_M_act_305 : decode b_M_act 305 = .ok (.getfield 90, 3) := by decide +kernel
theorem d_M_act_308 : decode b_M_act 308 = .ok (.iload 13, 2) := by decide +kernel
theorem d_M_act_310 : decode b_M_act 310 = .ok (.lload 10, 2) := by decide +kernel
theorem d_M_act_312 : decode b_M_act 312 = .ok (.lastore, 1) := by decide +kernel
theorem d_M_act_313 : decode b_M_act 313 = .ok (.aload_n 0, 1) := by decide +kernel
theorem d_M_act_314 : decode b_M_act 314 = .ok (.getfield 75, 3) := by decide +kernel
theorem d_M_act_317 : decode b_M_act 317 = .ok (.iload_n 1, 1) := by decide +kernel
theorem d_M_act_318 : decode b_M_act 318 = .ok (.dup2, 1) := by decide +kernel
theorem d_M_act_319 : decode b_M_act 319 = .ok (.iaload, 1) := by decide +kernel
theorem d_M_act_320 : decode b_M_act 320 = .ok (.iconst 1, 1) := by decide +kernel
theorem d_M_act_321 : decode b_M_act 321 = .ok (.iadd, 1) := by decide +kernel
theorem d_M_act_322 : decode b_M_act 322 = .ok (.iastore, 1) := by decide +kernel
theorem d_M_act_323 : decode b_M_act 323 = .ok (.iload 12, 2) := by decide +kernel
theorem d_M_act_325 : decode b_M_act 325 = .ok (.ireturn, 1) := by decide +kernel
theorem d_M_isItem_0 : decode b_M_isItem 0 = .ok (.iload_n 1, 1) := by decide +kernel
theorem d_M_isItem_1 : decode b_M_isItem 1 = .ok (.iconst 1, 1) := by decide +kernel
theorem d_M_isItem_2 : decode b_M_isItem 2 = .ok (.if_icmp .lt 15, 3) := by decide +kernel
theorem d_M_isItem_5 : decode b_M_isItem 5 = .ok (.iload_n 1, 1) := by decide +kernel
theorem d_M_isItem_6 : decode b_M_isItem 6 = .ok (.aload_n 0, 1) := by decide +kernel
theorem d_M_isItem_7 : decode b_M_isItem 7 = .ok (.getfield 102, 3) := by decide +kernel
theorem d_M_isItem_10 : decode b_M_isItem 10 = .ok (.if_icmp .gt 7, 3) := by decide +kernel
theorem d_M_isItem_13 : decode b_M_isItem 13 = .ok (.iconst 1, 1) := by decide +kernel
theorem d_M_isItem_14 : decode b_M_isItem 14 = .ok (.goto 4, 3) := by decide +kernel
theorem d_M_isItem_17 : decode b_M_isItem 17 = .ok (.iconst 0, 1) := by decide +kernel
theorem d_M_isItem_18 : decode b_M_isItem 18 = .ok (.ireturn, 1) := by decide +kernel
theorem d_M_isDevice_0 : decode b_M_isDevice 0 = .ok (.iload_n 0, 1) := by decide +kernel
theorem d_M_isDevice_1 : decode b_M_isDevice 1 = .ok (.ifCond .lt 13, 3) := by decide +kernel
theorem d_M_isDevice_4 : decode b_M_isDevice 4 = .ok (.iload_n 0, 1) := by decide +kernel
theorem d_M_isDevice_5 : decode b_M_isDevice 5 = .ok (.bipush 8, 2) := by decide +kernel
theorem d_M_isDevice_7 : decode b_M_isDevice 7 = .ok (.if_icmp .ge 7, 3) := by decide +kernel
theorem d_M_isDevice_10 : decode b_M_isDevice 10 = .ok (.iconst 1, 1) := by decide +kernel
theorem d_M_isDevice_11 : decode b_M_isDevice 11 = .ok (.goto 4, 3) := by decide +kernel
theorem d_M_isDevice_14 : decode b_M_isDevice 14 = .ok (.iconst 0, 1) := by decide +kernel
theorem d_M_isDevice_15 : decode b_M_isDevice 15 = .ok (.ireturn, 1) := by decide +kernel
theorem d_M_canBe_0 : decode b_M_canBe 0 = .ok (.bipush 61, 2) := by decide +kernel
theorem d_M_canBe_2 : decode b_M_canBe 2 = .ok (.iload_n 1, 1) := by decide +kernel
theorem d_M_canBe_3 : decode b_M_canBe 3 = .ok (.imul, 1) := by decide +kernel
theorem d_M_canBe_4 : decode b_M_canBe 4 = .ok (.iload_n 2, 1) := by decide +kernel
theorem d_M_canBe_5 : decode b_M_canBe 5 = .ok (.iadd, 1) := by decide +kernel
theorem d_M_canBe_6 : decode b_M_canBe 6 = .ok (.istore 7, 2) := by decide +kernel
theorem d_M_canBe_8 : decode b_M_canBe 8 = .ok (.aload_n 0, 1) := by decide +kernel
theorem d_M_canBe_9 : decode b_M_canBe 9 = .ok (.getfield 30, 3) := by decide +kernel
theorem d_M_canBe_12 : decode b_M_canBe 12 = .ok (.iload 7, 2) := by decide +kernel
theorem d_M_canBe_14 : decode b_M_canBe 14 = .ok (.iaload, 1) := by decide +kernel
theorem d_M_canBe_15 : decode b_M_canBe 15 = .ok (.istore 8, 2) := by decide +kernel
theorem d_M_canBe_17 : decode b_M_canBe 17 = .ok (.iload_n 3, 1) := by decide +kernel
theorem d_M_canBe_18 : decode b_M_canBe 18 = .ok (.tableswitch 143 0 4 #[34, 46, 34, 76, 99], 34) := by decide +kernel
theorem d_M_canBe_52 : decode b_M_canBe 52 = .ok (.iload 8, 2) := by decide +kernel
theorem d_M_canBe_54 : decode b_M_canBe 54 = .ok (.iconst 3, 1) := by decide +kernel
theorem d_M_canBe_55 : decode b_M_canBe 55 = .ok (.if_icmp .ge 7, 3) := by decide +kernel
theorem d_M_canBe_58 : decode b_M_canBe 58 = .ok (.iconst 1, 1) := by decide +kernel
theorem d_M_canBe_59 : decode b_M_canBe 59 = .ok (.goto 4, 3) := by decide +kernel
theorem d_M_canBe_62 : decode b_M_canBe 62 = .ok (.iconst 0, 1) := by decide +kernel
theorem d_M_canBe_63 : decode b_M_canBe 63 = .ok (.ireturn, 1) := by decide +kernel
theorem d_M_canBe_64 : decode b_M_canBe 64 = .ok (.iload 8, 2) := by decide +kernel
theorem d_M_canBe_66 : decode b_M_canBe 66 = .ok (.ifCond .eq 22, 3) := by decide +kernel
theorem d_M_canBe_69 : decode b_M_canBe 69 = .ok (.iload 8, 2) := by decide +kernel
theorem d_M_canBe_71 : decode b_M_canBe 71 = .ok (.iconst 1, 1) := by decide +kernel
theorem d_M_canBe_72 : decode b_M_canBe 72 = .ok (.if_icmp .ne 20, 3) := by decide +kernel
theorem d_M_canBe_75 : decode b_M_canBe 75 = .ok (.lload 5, 2) := by decide +kernel
theorem d_M_canBe_77 : decode b_M_canBe 77 = .ok (.aload_n 0, 1) := by decide +kernel
theorem d_M_canBe_78 : decode b_M_canBe 78 = .ok (.getfield 36, 3) := by decide +kernel
theorem d_M_canBe_81 : decode b_M_canBe 81 = .ok (.iload 7, 2) := by decide +kernel
theorem d_M_canBe_83 : decode b_M_canBe 83 = .ok (.laload, 1) := by decide +kernel
theorem d_M_canBe_84 : decode b_M_canBe 84 = .ok (.lcmp, 1) := by decide +kernel
theorem d_M_canBe_85 : decode b_M_canBe 85 = .ok (.ifCond .le 7, 3) := by decide +kernel
theorem d_M_canBe_88 : decode b_M_canBe 88 = .ok (.iconst 1, 1) := by decide +kernel
theorem d_M_canBe_89 : decode b_M_canBe 89 = .ok (.goto 4, 3) := by decide +kernel
theorem d_M_canBe_92 : decode b_M_canBe 92 = .ok (.iconst 0, 1) := by decide +kernel
theorem d_M_canBe_93 : decode b_M_canBe 93 = .ok (.ireturn, 1) := by decide +kernel
theorem d_M_canBe_94 : decode b_M_canBe 94 = .ok (.iload 8, 2) := by decide +kernel
theorem d_M_canBe_96 : decode b_M_canBe 96 = .ok (.bipush 7, 2) := by decide +kernel
theorem d_M_canBe_98 : decode b_M_canBe 98 = .ok (.if_icmp .ge 17, 3) := by decide +kernel
theorem d_M_canBe_101 : decode b_M_canBe 101 = .ok (.aload_n 0, 1) := by decide +kernel
theorem d_M_canBe_102 : decode b_M_canBe 102 = .ok (.getfield 54, 3) := by decide +kernel
theorem d_M_canBe_105 : decode b_M_canBe 105 = .ok (.iload 7, 2) := by decide +kernel
theorem d_M_canBe_107 : decode b_M_canBe 107 = .ok (.baload, 1) := by decide +kernel
theorem d_M_canBe_108 : decode b_M_canBe 108 = .ok (.ifCond .ne 7, 3) := by decide +kernel
theorem d_M_canBe_111 : decode b_M_canBe 111 = .ok (.iconst 1, 1) := by decide +kernel
theorem d_M_canBe_112 : decode b_M_canBe 112 = .ok (.goto 4, 3) := by decide +kernel
theorem d_M_canBe_115 : decode b_M_canBe 115 = .ok (.iconst 0, 1) := by decide +kernel
theorem d_M_canBe_116 : decode b_M_canBe 116 = .ok (.ireturn, 1) := by decide +kernel
theorem d_M_canBe_117 : decode b_M_canBe 117 = .ok (.iload 8, 2) := by decide +kernel
theorem d_M_canBe_119 : decode b_M_canBe 119 = .ok (.iconst 3, 1) := by decide +kernel
theorem d_M_canBe_120 : decode b_M_canBe 120 = .ok (.if_icmp .lt 39, 3) := by decide +kernel
theorem d_M_canBe_123 : decode b_M_canBe 123 = .ok (.iload 8, 2) := by decide +kernel
theorem d_M_canBe_125 : decode b_M_canBe 125 = .ok (.bipush 6, 2) := by decide +kernel
theorem d_M_canBe_127 : decode b_M_canBe 127 = .ok (.if_icmp .gt 32, 3) := by decide +kernel
theorem d_M_canBe_130 : decode b_M_canBe 130 = .ok (.aload_n 0, 1) := by decide +kernel
theorem d_M_canBe_131 : decode b_M_canBe 131 = .ok (.getfield 45, 3) := by decide +kernel
theorem d_M_canBe_134 : decode b_M_canBe 134 = .ok (.iload 7, 2) := by decide +kernel
theorem d_M_canBe_136 : decode b_M_canBe 136 = .ok (.iaload, 1) := by decide +kernel
theorem d_M_canBe_137 : decode b_M_canBe 137 = .ok (.iload 4, 2) := by decide +kernel
theorem d_M_canBe_139 : decode b_M_canBe 139 = .ok (.if_icmp .ne 20, 3) := by decide +kernel
theorem d_M_canBe_142 : decode b_M_canBe 142 = .ok (.aload_n 0, 1) := by decide +kernel
theorem d_M_canBe_143 : decode b_M_canBe 143 = .ok (.getfield 48, 3) := by decide +kernel
theorem d_M_canBe_146 : decode b_M_canBe 146 = .ok (.iload 7, 2) := by decide +kernel
theorem d_M_canBe_148 : decode b_M_canBe 148 = .ok (.laload, 1) := by decide +kernel
theorem d_M_canBe_149 : decode b_M_canBe 149 = .ok (.lload 5, 2) := by decide +kernel
theorem d_M_canBe_151 : decode b_M_canBe 151 = .ok (.lcmp, 1) := by decide +kernel
theorem d_M_canBe_152 : decode b_M_canBe 152 = .ok (.ifCond .ne 7, 3) := by decide +kernel
theorem d_M_canBe_155 : decode b_M_canBe 155 = .ok (.iconst 1, 1) := by decide +kernel
theorem d_M_canBe_156 : decode b_M_canBe 156 = .ok (.goto 4, 3) := by decide +kernel
theorem d_M_canBe_159 : decode b_M_canBe 159 = .ok (.iconst 0, 1) := by decide +kernel
theorem d_M_canBe_160 : decode b_M_canBe 160 = .ok (.ireturn, 1) := by decide +kernel
theorem d_M_canBe_161 : decode b_M_canBe 161 = .ok (.iload 8, 2) := by decide +kernel
theorem d_M_canBe_163 : decode b_M_canBe 163 = .ok (.iconst 2, 1) := by decide +kernel
theorem d_M_canBe_164 : decode b_M_canBe 164 = .ok (.if_icmp .ge 7, 3) := by decide +kernel
theorem d_M_canBe_167 : decode b_M_canBe 167 = .ok (.iconst 1, 1) := by decide +kernel
theorem d_M_canBe_168 : decode b_M_canBe 168 = .ok (.goto 4, 3) := by decide +kernel
theorem d_M_canBe_171 : decode b_M_canBe 171 = .ok (.iconst 0, 1) := by decide +kernel
theorem d_M_canBe_172 : decode b_M_canBe 172 = .ok (.ireturn, 1) := by decide +kernel
theorem d_M_outcome_0 : decode b_M_outcome 0 = .ok (.bipush 61, 2) := by decide +kernel
theorem d_M_outcome_2 : decode b_M_outcome 2 = .ok (.iload_n 1, 1) := by decide +kernel
theorem d_M_outcome_3 : decode b_M_outcome 3 = .ok (.imul, 1) := by decide +kernel
theorem d_M_outcome_4 : decode b_M_outcome 4 = .ok (.iload_n 2, 1) := by decide +kernel
theorem d_M_outcome_5 : decode b_M_outcome 5 = .ok (.iadd, 1) := by decide +kernel
theorem d_M_outcome_6 : decode b_M_outcome 6 = .ok (.istore 6, 2) := by decide +kernel
theorem d_M_outcome_8 : decode b_M_outcome 8 = .ok (.aload_n 0, 1) := by decide +kernel
theorem d_M_outcome_9 : decode b_M_outcome 9 = .ok (.getfield 30, 3) := by decide +kernel
theorem d_M_outcome_12 : decode b_M_outcome 12 = .ok (.iload 6, 2) := by decide +kernel
theorem d_M_outcome_14 : decode b_M_outcome 14 = .ok (.iaload, 1) := by decide +kernel
theorem d_M_outcome_15 : decode b_M_outcome 15 = .ok (.iconst 2, 1) := by decide +kernel
theorem d_M_outcome_16 : decode b_M_outcome 16 = .ok (.if_icmp .ne 7, 3) := by decide +kernel
theorem d_M_outcome_19 : decode b_M_outcome 19 = .ok (.iconst 1, 1) := by decide +kernel
theorem d_M_outcome_20 : decode b_M_outcome 20 = .ok (.goto 4, 3) := by decide +kernel
theorem d_M_outcome_23 : decode b_M_outcome 23 = .ok (.iconst 0, 1) := by decide +kernel
theorem d_M_outcome_24 : decode b_M_outcome 24 = .ok (.istore 7, 2) := by decide +kernel
theorem d_M_outcome_26 : decode b_M_outcome 26 = .ok (.iload_n 3, 1) := by decide +kernel
theorem d_M_outcome_27 : decode b_M_outcome 27 = .ok (.tableswitch 178 0 4 #[33, 97, 114, 172, 175], 33) := by decide +kernel
theorem d_M_outcome_60 : decode b_M_outcome 60 = .ok (.aload_n 0, 1) := by decide +kernel
theorem d_M_outcome_61 : decode b_M_outcome 61 = .ok (.iload_n 2, 1) := by decide +kernel
theorem d_M_outcome_62 : decode b_M_outcome 62 = .ok (.iload 4, 2) := by decide +kernel
theorem d_M_outcome_64 : decode b_M_outcome 64 = .ok (.iload 7, 2) := by decide +kernel
theorem d_M_outcome_66 : decode b_M_outcome 66 = .ok (.invokevirtual 125, 3) := by decide +kernel
theorem d_M_outcome_69 : decode b_M_outcome 69 = .ok (.istore 8, 2) := by decide +kernel
theorem d_M_outcome_71 : decode b_M_outcome 71 = .ok (.iload 8, 2) := by decide +kernel
theorem d_M_outcome_73 : decode b_M_outcome 73 = .ok (.ifCond .ge 6, 3) := by decide +kernel
theorem d_M_outcome_76 : decode b_M_outcome 76 = .ok (.bipush (-21), 2) := by decide +kernel
theorem d_M_outcome_78 : decode b_M_outcome 78 = .ok (.ireturn, 1) := by decide +kernel
theorem d_M_outcome_79 : decode b_M_outcome 79 = .ok (.aload_n 0, 1) := by decide +kernel
theorem d_M_outcome_80 : decode b_M_outcome 80 = .ok (.iload_n 2, 1) := by decide +kernel
theorem d_M_outcome_81 : decode b_M_outcome 81 = .ok (.iload 4, 2) := by decide +kernel
theorem d_M_outcome_83 : decode b_M_outcome 83 = .ok (.iload 5, 2) := by decide +kernel
theorem d_M_outcome_85 : decode b_M_outcome 85 = .ok (.iload 7, 2) := by decide +kernel
theorem d_M_outcome_87 : decode b_M_outcome 87 = .ok (.invokevirtual 129, 3) := by decide +kernel
theorem d_M_outcome_90 : decode b_M_outcome 90 = .ok (.ifCond .ne 6, 3) := by decide +kernel
theorem d_M_outcome_93 : decode b_M_outcome 93 = .ok (.bipush (-22), 2) := by decide +kernel
theorem d_M_outcome_95 : decode b_M_outcome 95 = .ok (.ireturn, 1) := by decide +kernel
theorem d_M_outcome_96 : decode b_M_outcome 96 = .ok (.aload_n 0, 1) := by decide +kernel
theorem d_M_outcome_97 : decode b_M_outcome 97 = .ok (.getfield 7, 3) := by decide +kernel
theorem d_M_outcome_100 : decode b_M_outcome 100 = .ok (.iload_n 2, 1) := by decide +kernel
theorem d_M_outcome_101 : decode b_M_outcome 101 = .ok (.iaload, 1) := by decide +kernel
theorem d_M_outcome_102 : decode b_M_outcome 102 = .ok (.iconst 5, 1) := by decide +kernel
theorem d_M_outcome_103 : decode b_M_outcome 103 = .ok (.if_icmp .ne 18, 3) := by decide +kernel
theorem d_M_outcome_106 : decode b_M_outcome 106 = .ok (.aload_n 0, 1) := by decide +kernel
theorem d_M_outcome_107 : decode b_M_outcome 107 = .ok (.iload_n 2, 1) := by decide +kernel
theorem d_M_outcome_108 : decode b_M_outcome 108 = .ok (.invokevirtual 133, 3) := by decide +kernel
theorem d_M_outcome_111 : decode b_M_outcome 111 = .ok (.lconst 0, 1) := by decide +kernel
theorem d_M_outcome_112 : decode b_M_outcome 112 = .ok (.lcmp, 1) := by decide +kernel
theorem d_M_outcome_113 : decode b_M_outcome 113 = .ok (.ifCond .le 8, 3) := by decide +kernel
theorem d_M_outcome_116 : decode b_M_outcome 116 = .ok (.bipush (-23), 2) := by decide +kernel
theorem d_M_outcome_118 : decode b_M_outcome 118 = .ok (.goto 5, 3) := by decide +kernel
theorem d_M_outcome_121 : decode b_M_outcome 121 = .ok (.iload 8, 2) := by decide +kernel
theorem d_M_outcome_123 : decode b_M_outcome 123 = .ok (.ireturn, 1) := by decide +kernel
theorem d_M_outcome_124 : decode b_M_outcome 124 = .ok (.aload_n 0, 1) := by decide +kernel
theorem d_M_outcome_125 : decode b_M_outcome 125 = .ok (.getfield 30, 3) := by decide +kernel
theorem d_M_outcome_128 : decode b_M_outcome 128 = .ok (.iload 6, 2) := by decide +kernel
theorem d_M_outcome_130 : decode b_M_outcome 130 = .ok (.iaload, 1) := by decide +kernel
theorem d_M_outcome_131 : decode b_M_outcome 131 = .ok (.ifCond .ne 7, 3) := by decide +kernel
theorem d_M_outcome_134 : decode b_M_outcome 134 = .ok (.iconst 5, 1) := by decide +kernel
theorem d_M_outcome_135 : decode b_M_outcome 135 = .ok (.goto 5, 3) := by decide +kernel
theorem d_M_outcome_138 : decode b_M_outcome 138 = .ok (.bipush 6, 2) := by decide +kernel
theorem d_M_outcome_140 : decode b_M_outcome 140 = .ok (.ireturn, 1) := by decide +kernel
theorem d_M_outcome_141 : decode b_M_outcome 141 = .ok (.iload 4, 2) := by decide +kernel
theorem d_M_outcome_143 : decode b_M_outcome 143 = .ok (.aload_n 0, 1) := by decide +kernel
theorem d_M_outcome_144 : decode b_M_outcome 144 = .ok (.getfield 13, 3) := by decide +kernel
theorem d_M_outcome_147 : decode b_M_outcome 147 = .ok (.iload_n 2, 1) := by decide +kernel
theorem d_M_outcome_148 : decode b_M_outcome 148 = .ok (.iaload, 1) := by decide +kernel
theorem d_M_outcome_149 : decode b_M_outcome 149 = .ok (.if_icmp .eq 30, 3) := by decide +kernel
theorem d_M_outcome_152 : decode b_M_outcome 152 = .ok (.aload_n 0, 1) := by decide +kernel
theorem d_M_outcome_153 : decode b_M_outcome 153 = .ok (.getfield 7, 3) := by decide +kernel
theorem d_M_outcome_156 : decode b_M_outcome 156 = .ok (.iload_n 2, 1) := by decide +kernel
theorem d_M_outcome_157 : decode b_M_outcome 157 = .ok (.iaload, 1) := by decide +kernel
theorem d_M_outcome_158 : decode b_M_outcome 158 = .ok (.iconst 2, 1) := by decide +kernel
theorem d_M_outcome_159 : decode b_M_outcome 159 = .ok (.if_icmp .eq 24, 3) := by decide +kernel
theorem d_M_outcome_162 : decode b_M_outcome 162 = .ok (.aload_n 0, 1) := by decide +kernel
theorem d_M_outcome_163 : decode b_M_outcome 163 = .ok (.aload_n 0, 1) := by decide +kernel
theorem d_M_outcome_164 : decode b_M_outcome 164 = .ok (.getfield 13, 3) := by decide +kernel
theorem d_M_outcome_167 : decode b_M_outcome 167 = .ok (.iload_n 2, 1) := by decide +kernel
theorem d_M_outcome_168 : decode b_M_outcome 168 = .ok (.iaload, 1) := by decide +kernel
theorem d_M_outcome_169 : decode b_M_outcome 169 = .ok (.iconst 1, 1) := by decide +kernel
theorem d_M_outcome_170 : decode b_M_outcome 170 = .ok (.iload 4, 2) := by decide +kernel
theorem d_M_outcome_172 : decode b_M_outcome 172 = .ok (.invokevirtual 119, 3) := by decide +kernel
theorem d_M_outcome_175 : decode b_M_outcome 175 = .ok (.iconst (-1), 1) := by decide +kernel
theorem d_M_outcome_176 : decode b_M_outcome 176 = .ok (.if_icmp .eq 7, 3) := by decide +kernel
theorem d_M_outcome_179 : decode b_M_outcome 179 = .ok (.iconst 1, 1) := by decide +kernel
theorem d_M_outcome_180 : decode b_M_outcome 180 = .ok (.goto 4, 3) := by decide +kernel
theorem d_M_outcome_183 : decode b_M_outcome 183 = .ok (.iconst 0, 1) := by decide +kernel
theorem d_M_outcome_184 : decode b_M_outcome 184 = .ok (.istore 9, 2) := by decide +kernel
theorem d_M_outcome_186 : decode b_M_outcome 186 = .ok (.iload 9, 2) := by decide +kernel
theorem d_M_outcome_188 : decode b_M_outcome 188 = .ok (.ifCond .eq 8, 3) := by decide +kernel
theorem d_M_outcome_191 : decode b_M_outcome 191 = .ok (.bipush 7, 2) := by decide +kernel
theorem d_M_outcome_193 : decode b_M_outcome 193 = .ok (.goto 5, 3) := by decide +kernel
theorem d_M_outcome_196 : decode b_M_outcome 196 = .ok (.bipush (-21), 2) := by decide +kernel
theorem d_M_outcome_198 : decode b_M_outcome 198 = .ok (.ireturn, 1) := by decide +kernel
theorem d_M_outcome_199 : decode b_M_outcome 199 = .ok (.bipush 8, 2) := by decide +kernel
theorem d_M_outcome_201 : decode b_M_outcome 201 = .ok (.ireturn, 1) := by decide +kernel
theorem d_M_outcome_202 : decode b_M_outcome 202 = .ok (.bipush 9, 2) := by decide +kernel
theorem d_M_outcome_204 : decode b_M_outcome 204 = .ok (.ireturn, 1) := by decide +kernel
theorem d_M_outcome_205 : decode b_M_outcome 205 = .ok (.aload_n 0, 1) := by decide +kernel
theorem d_M_outcome_206 : decode b_M_outcome 206 = .ok (.getfield 7, 3) := by decide +kernel
theorem d_M_outcome_209 : decode b_M_outcome 209 = .ok (.iload_n 2, 1) := by decide +kernel
theorem d_M_outcome_210 : decode b_M_outcome 210 = .ok (.iaload, 1) := by decide +kernel
theorem d_M_outcome_211 : decode b_M_outcome 211 = .ok (.ifCond .ne 23, 3) := by decide +kernel
theorem d_M_outcome_214 : decode b_M_outcome 214 = .ok (.aload_n 0, 1) := by decide +kernel
theorem d_M_outcome_215 : decode b_M_outcome 215 = .ok (.aload_n 0, 1) := by decide +kernel
theorem d_M_outcome_216 : decode b_M_outcome 216 = .ok (.getfield 13, 3) := by decide +kernel
theorem d_M_outcome_219 : decode b_M_outcome 219 = .ok (.iload_n 2, 1) := by decide +kernel
theorem d_M_outcome_220 : decode b_M_outcome 220 = .ok (.iaload, 1) := by decide +kernel
theorem d_M_outcome_221 : decode b_M_outcome 221 = .ok (.iconst 2, 1) := by decide +kernel
theorem d_M_outcome_222 : decode b_M_outcome 222 = .ok (.iconst 0, 1) := by decide +kernel
theorem d_M_outcome_223 : decode b_M_outcome 223 = .ok (.invokevirtual 119, 3) := by decide +kernel
theorem d_M_outcome_226 : decode b_M_outcome 226 = .ok (.iconst (-1), 1) := by decide +kernel
theorem d_M_outcome_227 : decode b_M_outcome 227 = .ok (.if_icmp .eq 7, 3) := by decide +kernel
theorem d_M_outcome_230 : decode b_M_outcome 230 = .ok (.iconst 4, 1) := by decide +kernel
theorem d_M_outcome_231 : decode b_M_outcome 231 = .ok (.goto 5, 3) := by decide +kernel
theorem d_M_outcome_234 : decode b_M_outcome 234 = .ok (.bipush (-21), 2) := by decide +kernel
theorem d_M_outcome_236 : decode b_M_outcome 236 = .ok (.ireturn, 1) := by decide +kernel
theorem d_M_whoTakes_0 : decode b_M_whoTakes 0 = .ok (.aload_n 0, 1) := by decide +kernel
theorem d_M_whoTakes_1 : decode b_M_whoTakes 1 = .ok (.getfield 7, 3) := by decide +kernel
theorem d_M_whoTakes_4 : decode b_M_whoTakes 4 = .ok (.iload_n 1, 1) := by decide +kernel
theorem d_M_whoTakes_5 : decode b_M_whoTakes 5 = .ok (.iaload, 1) := by decide +kernel
theorem d_M_whoTakes_6 : decode b_M_whoTakes 6 = .ok (.istore 4, 2) := by decide +kernel
theorem d_M_whoTakes_8 : decode b_M_whoTakes 8 = .ok (.aload_n 0, 1) := by decide +kernel
theorem d_M_whoTakes_9 : decode b_M_whoTakes 9 = .ok (.getfield 13, 3) := by decide +kernel
theorem d_M_whoTakes_12 : decode b_M_whoTakes 12 = .ok (.iload_n 1, 1) := by decide +kernel
theorem d_M_whoTakes_13 : decode b_M_whoTakes 13 = .ok (.iaload, 1) := by decide +kernel
theorem d_M_whoTakes_14 : decode b_M_whoTakes 14 = .ok (.istore 5, 2) := by decide +kernel
theorem d_M_whoTakes_16 : decode b_M_whoTakes 16 = .ok (.iload_n 2, 1) := by decide +kernel
theorem d_M_whoTakes_17 : decode b_M_whoTakes 17 = .ok (.iload 5, 2) := by decide +kernel
theorem d_M_whoTakes_19 : decode b_M_whoTakes 19 = .ok (.if_icmp .ne 5, 3) := by decide +kernel
theorem d_M_whoTakes_22 : decode b_M_whoTakes 22 = .ok (.iconst 1, 1) := by decide +kernel
theorem d_M_whoTakes_23 : decode b_M_whoTakes 23 = .ok (.ireturn, 1) := by decide +kernel
theorem d_M_whoTakes_24 : decode b_M_whoTakes 24 = .ok (.iload 4, 2) := by decide +kernel
theorem d_M_whoTakes_26 : decode b_M_whoTakes 26 = .ok (.iconst 2, 1) := by decide +kernel
theorem d_M_whoTakes_27 : decode b_M_whoTakes 27 = .ok (.if_icmp .eq 17, 3) := by decide +kernel
theorem d_M_whoTakes_30 : decode b_M_whoTakes 30 = .ok (.aload_n 0, 1) := by decide +kernel
theorem d_M_whoTakes_31 : decode b_M_whoTakes 31 = .ok (.iload 5, 2) := by decide +kernel
theorem d_M_whoTakes_33 : decode b_M_whoTakes 33 = .ok (.iconst 1, 1) := by decide +kernel
theorem d_M_whoTakes_34 : decode b_M_whoTakes 34 = .ok (.iload_n 2, 1) := by decide +kernel
theorem d_M_whoTakes_35 : decode b_M_whoTakes 35 = .ok (.invokevirtual 119, 3) := by decide +kernel
theorem d_M_whoTakes_38 : decode b_M_whoTakes 38 = .ok (.iconst (-1), 1) := by decide +kernel
theorem d_M_whoTakes_39 : decode b_M_whoTakes 39 = .ok (.if_icmp .eq 5, 3) := by decide +kernel
theorem d_M_whoTakes_42 : decode b_M_whoTakes 42 = .ok (.iconst 2, 1) := by decide +kernel
theorem d_M_whoTakes_43 : decode b_M_whoTakes 43 = .ok (.ireturn, 1) := by decide +kernel
theorem d_M_whoTakes_44 : decode b_M_whoTakes 44 = .ok (.iload 4, 2) := by decide +kernel
theorem d_M_whoTakes_46 : decode b_M_whoTakes 46 = .ok (.iconst 2, 1) := by decide +kernel
theorem d_M_whoTakes_47 : decode b_M_whoTakes 47 = .ok (.if_icmp .ge 23, 3) := by decide +kernel
theorem d_M_whoTakes_50 : decode b_M_whoTakes 50 = .ok (.iload_n 3, 1) := by decide +kernel
theorem d_M_whoTakes_51 : decode b_M_whoTakes 51 = .ok (.ifCond .ne 19, 3) := by decide +kernel
theorem d_M_whoTakes_54 : decode b_M_whoTakes 54 = .ok (.aload_n 0, 1) := by decide +kernel
theorem d_M_whoTakes_55 : decode b_M_whoTakes 55 = .ok (.iload 5, 2) := by decide +kernel
theorem d_M_whoTakes_57 : decode b_M_whoTakes 57 = .ok (.iconst 0, 1) := by decide +kernel
theorem d_M_whoTakes_58 : decode b_M_whoTakes 58 = .ok (.iload_n 2, 1) := by decide +kernel
theorem d_M_whoTakes_59 : decode b_M_whoTakes 59 = .ok (.invokevirtual 119, 3) := by decide +kernel
theorem d_M_whoTakes_62 : decode b_M_whoTakes 62 = .ok (.iconst (-1), 1) := by decide +kernel
theorem d_M_whoTakes_63 : decode b_M_whoTakes 63 = .ok (.if_icmp .eq 7, 3) := by decide +kernel
theorem d_M_whoTakes_66 : decode b_M_whoTakes 66 = .ok (.iconst 3, 1) := by decide +kernel
theorem d_M_whoTakes_67 : decode b_M_whoTakes 67 = .ok (.goto 5, 3) := by decide +kernel
theorem d_M_whoTakes_70 : decode b_M_whoTakes 70 = .ok (.bipush (-21), 2) := by decide +kernel
theorem d_M_whoTakes_72 : decode b_M_whoTakes 72 = .ok (.ireturn, 1) := by decide +kernel
theorem d_M_isProven_0 : decode b_M_isProven 0 = .ok (.iload_n 3, 1) := by decide +kernel
theorem d_M_isProven_1 : decode b_M_isProven 1 = .ok (.ifCond .lt 12, 3) := by decide +kernel
theorem d_M_isProven_4 : decode b_M_isProven 4 = .ok (.iload_n 3, 1) := by decide +kernel
theorem d_M_isProven_5 : decode b_M_isProven 5 = .ok (.iconst 4, 1) := by decide +kernel
theorem d_M_isProven_6 : decode b_M_isProven 6 = .ok (.idiv, 1) := by decide +kernel
theorem d_M_isProven_7 : decode b_M_isProven 7 = .ok (.iload_n 2, 1) := by decide +kernel
theorem d_M_isProven_8 : decode b_M_isProven 8 = .ok (.if_icmp .eq 5, 3) := by decide +kernel
theorem d_M_isProven_11 : decode b_M_isProven 11 = .ok (.iconst 0, 1) := by decide +kernel
theorem d_M_isProven_12 : decode b_M_isProven 12 = .ok (.ireturn, 1) := by decide +kernel
theorem d_M_isProven_13 : decode b_M_isProven 13 = .ok (.aload_n 0, 1) := by decide +kernel
theorem d_M_isProven_14 : decode b_M_isProven 14 = .ok (.getfield 7, 3) := by decide +kernel
theorem d_M_isProven_17 : decode b_M_isProven 17 = .ok (.iload_n 1, 1) := by decide +kernel
theorem d_M_isProven_18 : decode b_M_isProven 18 = .ok (.iaload, 1) := by decide +kernel
theorem d_M_isProven_19 : decode b_M_isProven 19 = .ok (.istore 5, 2) := by decide +kernel
theorem d_M_isProven_21 : decode b_M_isProven 21 = .ok (.iload_n 3, 1) := by decide +kernel
theorem d_M_isProven_22 : decode b_M_isProven 22 = .ok (.ifCond .ge 7, 3) := by decide +kernel
theorem d_M_isProven_25 : decode b_M_isProven 25 = .ok (.iconst (-1), 1) := by decide +kernel
theorem d_M_isProven_26 : decode b_M_isProven 26 = .ok (.goto 6, 3) := by decide +kernel
theorem d_M_isProven_29 : decode b_M_isProven 29 = .ok (.iload_n 3, 1) := by decide +kernel
theorem d_M_isProven_30 : decode b_M_isProven 30 = .ok (.iconst 4, 1) := by decide +kernel
theorem d_M_isProven_31 : decode b_M_isProven 31 = .ok (.irem, 1) := by decide +kernel
theorem d_M_isProven_32 : decode b_M_isProven 32 = .ok (.istore 6, 2) := by decide +kernel
theorem d_M_isProven_34 : decode b_M_isProven 34 = .ok (.iload 5, 2) := by decide +kernel
theorem d_M_isProven_36 : decode b_M_isProven 36 = .ok (.iconst 1, 1) := by decide +kernel
theorem d_M_isProven_37 : decode b_M_isProven 37 = .ok (.if_icmp .eq 14, 3) := by decide +kernel
theorem d_M_isProven_40 : decode b_M_isProven 40 = .ok (.iload 5, 2) := by decide +kernel
theorem d_M_isProven_42 : decode b_M_isProven 42 = .ok (.iconst 4, 1) := by decide +kernel
theorem d_M_isProven_43 : decode b_M_isProven 43 = .ok (.if_icmp .eq 8, 3) := by decide +kernel
theorem d_M_isProven_46 : decode b_M_isProven 46 = .ok (.iload 4, 2) := by decide +kernel
theorem d_M_isProven_48 : decode b_M_isProven 48 = .ok (.ifCond .eq 7, 3) := by decide +kernel
theorem d_M_isProven_51 : decode b_M_isProven 51 = .ok (.iconst 1, 1) := by decide +kernel
theorem d_M_isProven_52 : decode b_M_isProven 52 = .ok (.goto 4, 3) := by decide +kernel
theorem d_M_isProven_55 : decode b_M_isProven 55 = .ok (.iconst 0, 1) := by decide +kernel
theorem d_M_isProven_56 : decode b_M_isProven 56 = .ok (.istore 7, 2) := by decide +kernel
theorem d_M_isProven_58 : decode b_M_isProven 58 = .ok (.iload 7, 2) := by decide +kernel
theorem d_M_isProven_60 : decode b_M_isProven 60 = .ok (.ifCond .eq 9, 3) := by decide +kernel
theorem d_M_isProven_63 : decode b_M_isProven 63 = .ok (.iload_n 3, 1) := by decide +kernel
theorem d_M_isProven_64 : decode b_M_isProven 64 = .ok (.ifCond .ge 5, 3) := by decide +kernel
theorem d_M_isProven_67 : decode b_M_isProven 67 = .ok (.iconst 0, 1) := by decide +kernel
theorem d_M_isProven_68 : decode b_M_isProven 68 = .ok (.ireturn, 1) := by decide +kernel
theorem d_M_isProven_69 : decode b_M_isProven 69 = .ok (.iload 5, 2) := by decide +kernel
theorem d_M_isProven_71 : decode b_M_isProven 71 = .ok (.iconst 2, 1) := by decide +kernel
theorem d_M_isProven_72 : decode b_M_isProven 72 = .ok (.if_icmp .ne 21, 3) := by decide +kernel
theorem d_M_isProven_75 : decode b_M_isProven 75 = .ok (.iload 6, 2) := by decide +kernel
theorem d_M_isProven_77 : decode b_M_isProven 77 = .ok (.iconst 1, 1) := by decide +kernel
theorem d_M_isProven_78 : decode b_M_isProven 78 = .ok (.if_icmp .eq 9, 3) := by decide +kernel
theorem d_M_isProven_81 : decode b_M_isProven 81 = .ok (.iload 6, 2) := by decide +kernel
theorem d_M_isProven_83 : decode b_M_isProven 83 = .ok (.iconst 2, 1) := by decide +kernel
theorem d_M_isProven_84 : decode b_M_isProven 84 = .ok (.if_icmp .ne 7, 3) := by decide +kernel
theorem d_M_isProven_87 : decode b_M_isProven 87 = .ok (.iconst 1, 1) := by decide +kernel
theorem d_M_isProven_88 : decode b_M_isProven 88 = .ok (.goto 4, 3) := by decide +kernel
theorem d_M_isProven_91 : decode b_M_isProven 91 = .ok (.iconst 0, 1) := by decide +kernel
theorem d_M_isProven_92 : decode b_M_isProven 92 = .ok (.ireturn, 1) := by decide +kernel
theorem d_M_isProven_93 : decode b_M_isProven 93 = .ok (.iload 5, 2) := by decide +kernel
theorem d_M_isProven_95 : decode b_M_isProven 95 = .ok (.iconst 3, 1) := by decide +kernel
theorem d_M_isProven_96 : decode b_M_isProven 96 = .ok (.if_icmp .ne 9, 3) := by decide +kernel
theorem d_M_isProven_99 : decode b_M_isProven 99 = .ok (.iload 6, 2) := by decide +kernel
theorem d_M_isProven_101 : decode b_M_isProven 101 = .ok (.iconst 2, 1) := by decide +kernel
theorem d_M_isProven_102 : decode b_M_isProven 102 = .ok (.if_icmp .ne 7, 3) := by decide +kernel
theorem d_M_isProven_105 : decode b_M_isProven 105 = .ok (.iconst 1, 1) := by decide +kernel
theorem d_M_isProven_106 : decode b_M_isProven 106 = .ok (.goto 4, 3) := by decide +kernel
theorem d_M_isProven_109 : decode b_M_isProven 109 = .ok (.iconst 0, 1) := by decide +kernel
theorem d_M_isProven_110 : decode b_M_isProven 110 = .ok (.ireturn, 1) := by decide +kernel
theorem d_M_due_0 : decode b_M_due 0 = .ok (.ldc2_w 123, 3) := by decide +kernel
theorem d_M_due_3 : decode b_M_due 3 = .ok (.iconst 1, 1) := by decide +kernel
theorem d_M_due_4 : decode b_M_due 4 = .ok (.iload_n 1, 1) := by decide +kernel
theorem d_M_due_5 : decode b_M_due 5 = .ok (.bipush 7, 2) := by decide +kernel
theorem d_M_due_7 : decode b_M_due 7 = .ok (.irem, 1) := by decide +kernel
theorem d_M_due_8 : decode b_M_due 8 = .ok (.iadd, 1) := by decide +kernel
theorem d_M_due_9 : decode b_M_due 9 = .ok (.i2l, 1) := by decide +kernel
theorem d_M_due_10 : decode b_M_due 10 = .ok (.lmul, 1) := by decide +kernel
theorem d_M_due_11 : decode b_M_due 11 = .ok (.aload_n 0, 1) := by decide +kernel
theorem d_M_due_12 : decode b_M_due 12 = .ok (.getfield 16, 3) := by decide +kernel
theorem d_M_due_15 : decode b_M_due 15 = .ok (.iload_n 1, 1) := by decide +kernel
theorem d_M_due_16 : decode b_M_due 16 = .ok (.laload, 1) := by decide +kernel
theorem d_M_due_17 : decode b_M_due 17 = .ok (.lsub, 1) := by decide +kernel
theorem d_M_due_18 : decode b_M_due 18 = .ok (.lreturn, 1) := by decide +kernel
theorem d_M_make_0 : decode b_M_make 0 = .ok (.bipush 61, 2) := by decide +kernel
theorem d_M_make_2 : decode b_M_make 2 = .ok (.iload_n 1, 1) := by decide +kernel
theorem d_M_make_3 : decode b_M_make 3 = .ok (.imul, 1) := by decide +kernel
theorem d_M_make_4 : decode b_M_make 4 = .ok (.iload_n 2, 1) := by decide +kernel
theorem d_M_make_5 : decode b_M_make 5 = .ok (.iadd, 1) := by decide +kernel
theorem d_M_make_6 : decode b_M_make 6 = .ok (.istore 9, 2) := by decide +kernel
theorem d_M_make_8 : decode b_M_make 8 = .ok (.iload_n 3, 1) := by decide +kernel
theorem d_M_make_9 : decode b_M_make 9 = .ok (.tableswitch 191 0 4 #[35, 54, 115, 127, 138], 35) := by decide +kernel
theorem d_M_make_44 : decode b_M_make 44 = .ok (.aload_n 0, 1) := by decide +kernel
theorem d_M_make_45 : decode b_M_make 45 = .ok (.iload 9, 2) := by decide +kernel
theorem d_M_make_47 : decode b_M_make 47 = .ok (.iconst 2, 1) := by decide +kernel
theorem d_M_make_48 : decode b_M_make 48 = .ok (.iload 4, 2) := by decide +kernel
theorem d_M_make_50 : decode b_M_make 50 = .ok (.iadd, 1) := by decide +kernel
theorem d_M_make_51 : decode b_M_make 51 = .ok (.iload 5, 2) := by decide +kernel
theorem d_M_make_53 : decode b_M_make 53 = .ok (.iload 6, 2) := by decide +kernel
theorem d_M_make_55 : decode b_M_make 55 = .ok (.lload 7, 2) := by decide +kernel
theorem d_M_make_57 : decode b_M_make 57 = .ok (.invokevirtual 137, 3) := by decide +kernel
theorem d_M_make_60 : decode b_M_make 60 = .ok (.goto 153, 3) := by decide +kernel
theorem d_M_make_63 : decode b_M_make 63 = .ok (.aload_n 0, 1) := by decide +kernel
theorem d_M_make_64 : decode b_M_make 64 = .ok (.getfield 30, 3) := by decide +kernel
theorem d_M_make_67 : decode b_M_make 67 = .ok (.iload 9, 2) := by decide +kernel
theorem d_M_make_69 : decode b_M_make 69 = .ok (.dup2, 1) := by decide +kernel
theorem d_M_make_70 : decode b_M_make 70 = .ok (.iaload, 1) := by decide +kernel
theorem d_M_make_71 : decode b_M_make 71 = .ok (.iconst 1, 1) := by decide +kernel
theorem d_M_make_72 : decode b_M_make 72 = .ok (.iadd, 1) := by decide +kernel
theorem d_M_make_73 : decode b_M_make 73 = .ok (.iastore, 1) := by decide +kernel
theorem d_M_make_74 : decode b_M_make 74 = .ok (.aload_n 0, 1) := by decide +kernel
theorem d_M_make_75 : decode b_M_make 75 = .ok (.getfield 33, 3) := by decide +kernel
theorem d_M_make_78 : decode b_M_make 78 = .ok (.iload 9, 2) := by decide +kernel
theorem d_M_make_80 : decode b_M_make 80 = .ok (.dup2, 1) := by decide +kernel
theorem d_M_make_81 : decode b_M_make 81 = .ok (.iaload, 1) := by decide +kernel
theorem d_M_make_82 : decode b_M_make 82 = .ok (.iconst 1, 1) := by decide +kernel
theorem d_M_make_83 : decode b_M_make 83 = .ok (.iadd, 1) := by decide +kernel
theorem d_M_make_84 : decode b_M_make 84 = .ok (.iastore, 1) := by decide +kernel
theorem d_M_make_85 : decode b_M_make 85 = .ok (.aload_n 0, 1) := by decide +kernel
theorem d_M_make_86 : decode b_M_make 86 = .ok (.getfield 30, 3) := by decide +kernel
theorem d_M_make_89 : decode b_M_make 89 = .ok (.iload 9, 2) := by decide +kernel
theorem d_M_make_91 : decode b_M_make 91 = .ok (.iaload, 1) := by decide +kernel
theorem d_M_make_92 : decode b_M_make 92 = .ok (.iconst 2, 1) := by decide +kernel
theorem d_M_make_93 : decode b_M_make 93 = .ok (.if_icmp .ne 19, 3) := by decide +kernel
theorem d_M_make_96 : decode b_M_make 96 = .ok (.aload_n 0, 1) := by decide +kernel
theorem d_M_make_97 : decode b_M_make 97 = .ok (.getfield 39, 3) := by decide +kernel
theorem d_M_make_100 : decode b_M_make 100 = .ok (.iload 9, 2) := by decide +kernel
theorem d_M_make_102 : decode b_M_make 102 = .ok (.lload 7, 2) := by decide +kernel
theorem d_M_make_104 : decode b_M_make 104 = .ok (.ldc2_w 141, 3) := by decide +kernel
theorem d_M_make_107 : decode b_M_make 107 = .ok (.ladd, 1) := by decide +kernel
theorem d_M_make_108 : decode b_M_make 108 = .ok (.lastore, 1) := by decide +kernel
theorem d_M_make_109 : decode b_M_make 109 = .ok (.goto 104, 3) := by decide +kernel
theorem d_M_make_112 : decode b_M_make 112 = .ok (.aload_n 0, 1) := by decide +kernel
theorem d_M_make_113 : decode b_M_make 113 = .ok (.getfield 36, 3) := by decide +kernel
theorem d_M_make_116 : decode b_M_make 116 = .ok (.iload 9, 2) := by decide +kernel
theorem d_M_make_118 : decode b_M_make 118 = .ok (.lload 7, 2) := by decide +kernel
theorem d_M_make_120 : decode b_M_make 120 = .ok (.lastore, 1) := by decide +kernel
theorem d_M_make_121 : decode b_M_make 121 = .ok (.goto 92, 3) := by decide +kernel
theorem d_M_make_124 : decode b_M_make 124 = .ok (.aload_n 0, 1) := by decide +kernel
theorem d_M_make_125 : decode b_M_make 125 = .ok (.getfield 30, 3) := by decide +kernel
theorem d_M_make_128 : decode b_M_make 128 = .ok (.iload 9, 2) := by decide +kernel
theorem d_M_make_130 : decode b_M_make 130 = .ok (.bipush 7, 2) := by decide +kernel
theorem d_M_make_132 : decode b_M_make 132 = .ok (.iastore, 1) := by decide +kernel
theorem d_M_make_133 : decode b_M_make 133 = .ok (.goto 80, 3) := by decide +kernel
theorem d_M_make_136 : decode b_M_make 136 = .ok (.aload_n 0, 1) := by decide +kernel
theorem d_M_make_137 : decode b_M_make 137 = .ok (.getfield 54, 3) := by decide +kernel
theorem d_M_make_140 : decode b_M_make 140 = .ok (.iload 9, 2) := by decide +kernel
theorem d_M_make_142 : decode b_M_make 142 = .ok (.iconst 1, 1) := by decide +kernel
theorem d_M_make_143 : decode b_M_make 143 = .ok (.bastore, 1) := by decide +kernel
theorem d_M_make_144 : decode b_M_make 144 = .ok (.goto 69, 3) := by decide +kernel
theorem d_M_make_147 : decode b_M_make 147 = .ok (.aload_n 0, 1) := by decide +kernel
theorem d_M_make_148 : decode b_M_make 148 = .ok (.getfield 30, 3) := by decide +kernel
theorem d_M_make_151 : decode b_M_make 151 = .ok (.iload 9, 2) := by decide +kernel
theorem d_M_make_153 : decode b_M_make 153 = .ok (.aload_n 0, 1) := by decide +kernel
theorem d_M_make_154 : decode b_M_make 154 = .ok (.getfield 51, 3) := by decide +kernel
theorem d_M_make_157 : decode b_M_make 157 = .ok (.iload 9, 2) := by decide +kernel
theorem d_M_make_159 : decode b_M_make 159 = .ok (.iaload, 1) := by decide +kernel
theorem d_M_make_160 : decode b_M_make 160 = .ok (.iastore, 1) := by decide +kernel
theorem d_M_make_161 : decode b_M_make 161 = .ok (.aload_n 0, 1) := by decide +kernel
theorem d_M_make_162 : decode b_M_make 162 = .ok (.getfield 42, 3) := by decide +kernel
theorem d_M_make_165 : decode b_M_make 165 = .ok (.iload 9, 2) := by decide +kernel
theorem d_M_make_167 : decode b_M_make 167 = .ok (.iconst (-1), 1) := by decide +kernel
theorem d_M_make_168 : decode b_M_make 168 = .ok (.iastore, 1) := by decide +kernel
theorem d_M_make_169 : decode b_M_make 169 = .ok (.aload_n 0, 1) := by decide +kernel
theorem d_M_make_170 : decode b_M_make 170 = .ok (.getfield 45, 3) := by decide +kernel
theorem d_M_make_173 : decode b_M_make 173 = .ok (.iload 9, 2) := by decide +kernel
theorem d_M_make_175 : decode b_M_make 175 = .ok (.iconst (-1), 1) := by decide +kernel
theorem d_M_make_176 : decode b_M_make 176 = .ok (.iastore, 1) := by decide +kernel
theorem d_M_make_177 : decode b_M_make 177 = .ok (.iload_n 1, 1) := by decide +kernel
theorem d_M_make_178 : decode b_M_make 178 = .ok (.bipush 8, 2) := by decide +kernel
theorem d_M_make_180 : decode b_M_make 180 = .ok (.if_icmp .ne 33, 3) := by decide +kernel
theorem d_M_make_183 : decode b_M_make 183 = .ok (.aload_n 0, 1) := by decide +kernel
theorem d_M_make_184 : decode b_M_make 184 = .ok (.getfield 23, 3) := by decide +kernel
theorem d_M_make_187 : decode b_M_make 187 = .ok (.iload_n 2, 1) := by decide +kernel
theorem d_M_make_188 : decode b_M_make 188 = .ok (.iconst 0, 1) := by decide +kernel
theorem d_M_make_189 : decode b_M_make 189 = .ok (.bastore, 1) := by decide +kernel
theorem d_M_make_190 : decode b_M_make 190 = .ok (.aload_n 0, 1) := by decide +kernel
theorem d_M_make_191 : decode b_M_make 191 = .ok (.getfield 27, 3) := by decide +kernel
theorem d_M_make_194 : decode b_M_make 194 = .ok (.iload_n 2, 1) := by decide +kernel
theorem d_M_make_195 : decode b_M_make 195 = .ok (.iconst 0, 1) := by decide +kernel
theorem d_M_make_196 : decode b_M_make 196 = .ok (.bastore, 1) := by decide +kernel
theorem d_M_make_197 : decode b_M_make 197 = .ok (.goto 16, 3) := by decide +kernel
theorem d_M_make_200 : decode b_M_make 200 = .ok (.aload_n 0, 1) := by decide +kernel
theorem d_M_make_201 : decode b_M_make 201 = .ok (.iload 9, 2) := by decide +kernel
theorem d_M_make_203 : decode b_M_make 203 = .ok (.bipush 6, 2) := by decide +kernel
theorem d_M_make_205 : decode b_M_make 205 = .ok (.iload 5, 2) := by decide +kernel
theorem d_M_make_207 : decode b_M_make 207 = .ok (.iconst (-1), 1) := by decide +kernel
theorem d_M_make_208 : decode b_M_make 208 = .ok (.lload 7, 2) := by decide +kernel
theorem d_M_make_210 : decode b_M_make 210 = .ok (.invokevirtual 137, 3) := by decide +kernel
theorem d_M_make_213 : decode b_M_make 213 = .ok (.iload_n 1, 1) := by decide +kernel
theorem d_M_make_214 : decode b_M_make 214 = .ok (.bipush 8, 2) := by decide +kernel
theorem d_M_make_216 : decode b_M_make 216 = .ok (.if_icmp .ne 11, 3) := by decide +kernel
theorem d_M_make_219 : decode b_M_make 219 = .ok (.aload_n 0, 1) := by decide +kernel
theorem d_M_make_220 : decode b_M_make 220 = .ok (.getfield 20, 3) := by decide +kernel
theorem d_M_make_223 : decode b_M_make 223 = .ok (.iload_n 2, 1) := by decide +kernel
theorem d_M_make_224 : decode b_M_make 224 = .ok (.iload 5, 2) := by decide +kernel
theorem d_M_make_226 : decode b_M_make 226 = .ok (.iastore, 1) := by decide +kernel
theorem d_M_make_227 : decode b_M_make 227 = .ok (.return_, 1) := by decide +kernel
theorem d_M_hand_0 : decode b_M_hand 0 = .ok (.aload_n 0, 1) := by decide +kernel
theorem d_M_hand_1 : decode b_M_hand 1 = .ok (.getfield 51, 3) := by decide +kernel
theorem d_M_hand_4 : decode b_M_hand 4 = .ok (.iload_n 1, 1) := by decide +kernel
theorem d_M_hand_5 : decode b_M_hand 5 = .ok (.aload_n 0, 1) := by decide +kernel
theorem d_M_hand_6 : decode b_M_hand 6 = .ok (.getfield 30, 3) := by decide +kernel
theorem d_M_hand_9 : decode b_M_hand 9 = .ok (.iload_n 1, 1) := by decide +kernel
theorem d_M_hand_10 : decode b_M_hand 10 = .ok (.iaload, 1) := by decide +kernel
theorem d_M_hand_11 : decode b_M_hand 11 = .ok (.iastore, 1) := by decide +kernel
theorem d_M_hand_12 : decode b_M_hand 12 = .ok (.aload_n 0, 1) := by decide +kernel
theorem d_M_hand_13 : decode b_M_hand 13 = .ok (.getfield 30, 3) := by decide +kernel
theorem d_M_hand_16 : decode b_M_hand 16 = .ok (.iload_n 1, 1) := by decide +kernel
theorem d_M_hand_17 : decode b_M_hand 17 = .ok (.iload_n 2, 1) := by decide +kernel
theorem d_M_hand_18 : decode b_M_hand 18 = .ok (.iastore, 1) := by decide +kernel
theorem d_M_hand_19 : decode b_M_hand 19 = .ok (.aload_n 0, 1) := by decide +kernel
theorem d_M_hand_20 : decode b_M_hand 20 = .ok (.getfield 42, 3) := by decide +kernel
theorem d_M_hand_23 : decode b_M_hand 23 = .ok (.iload_n 1, 1) := by decide +kernel
theorem d_M_hand_24 : decode b_M_hand 24 = .ok (.iload 4, 2) := by decide +kernel
theorem d_M_hand_26 : decode b_M_hand 26 = .ok (.iastore, 1) := by decide +kernel
theorem d_M_hand_27 : decode b_M_hand 27 = .ok (.aload_n 0, 1) := by decide +kernel
theorem d_M_hand_28 : decode b_M_hand 28 = .ok (.getfield 45, 3) := by decide +kernel
theorem d_M_hand_31 : decode b_M_hand 31 = .ok (.iload_n 1, 1) := by decide +kernel
theorem d_M_hand_32 : decode b_M_hand 32 = .ok (.iload_n 3, 1) := by decide +kernel
theorem d_M_hand_33 : decode b_M_hand 33 = .ok (.iastore, 1) := by decide +kernel
theorem d_M_hand_34 : decode b_M_hand 34 = .ok (.aload_n 0, 1) := by decide +kernel
theorem d_M_hand_35 : decode b_M_hand 35 = .ok (.getfield 48, 3) := by decide +kernel
theorem d_M_hand_38 : decode b_M_hand 38 = .ok (.iload_n 1, 1) := by decide +kernel
theorem d_M_hand_39 : decode b_M_hand 39 = .ok (.lload 5, 2) := by decide +kernel
theorem d_M_hand_41 : decode b_M_hand 41 = .ok (.lastore, 1) := by decide +kernel
theorem d_M_hand_42 : decode b_M_hand 42 = .ok (.return_, 1) := by decide +kernel
theorem d_M_cut_0 : decode b_M_cut 0 = .ok (.iload_n 1, 1) := by decide +kernel
theorem d_M_cut_1 : decode b_M_cut 1 = .ok (.invokestatic 147, 3) := by decide +kernel
theorem d_M_cut_4 : decode b_M_cut 4 = .ok (.ifCond .eq 13, 3) := by decide +kernel
theorem d_M_cut_7 : decode b_M_cut 7 = .ok (.aload_n 0, 1) := by decide +kernel
theorem d_M_cut_8 : decode b_M_cut 8 = .ok (.getfield 66, 3) := by decide +kernel
theorem d_M_cut_11 : decode b_M_cut 11 = .ok (.iload_n 1, 1) := by decide +kernel
theorem d_M_cut_12 : decode b_M_cut 12 = .ok (.baload, 1) := by decide +kernel
theorem d_M_cut_13 : decode b_M_cut 13 = .ok (.iload_n 2, 1) := by decide +kernel
theorem d_M_cut_14 : decode b_M_cut 14 = .ok (.if_icmp .ne 5, 3) := by decide +kernel
theorem d_M_cut_17 : decode b_M_cut 17 = .ok (.iconst 0, 1) := by decide +kernel
theorem d_M_cut_18 : decode b_M_cut 18 = .ok (.ireturn, 1) := by decide +kernel
theorem d_M_cut_19 : decode b_M_cut 19 = .ok (.aload_n 0, 1) := by decide +kernel
theorem d_M_cut_20 : decode b_M_cut 20 = .ok (.getfield 66, 3) := by decide +kernel
theorem d_M_cut_23 : decode b_M_cut 23 = .ok (.iload_n 1, 1) := by decide +kernel
theorem d_M_cut_24 : decode b_M_cut 24 = .ok (.iload_n 2, 1) := by decide +kernel
theorem d_M_cut_25 : decode b_M_cut 25 = .ok (.bastore, 1) := by decide +kernel
theorem d_M_cut_26 : decode b_M_cut 26 = .ok (.aload_n 0, 1) := by decide +kernel
theorem d_M_cut_27 : decode b_M_cut 27 = .ok (.getfield 75, 3) := by decide +kernel
theorem d_M_cut_30 : decode b_M_cut 30 = .ok (.iload_n 1, 1) := by decide +kernel
theorem d_M_cut_31 : decode b_M_cut 31 = .ok (.iconst 0, 1) := by decide +kernel
theorem d_M_cut_32 : decode b_M_cut 32 = .ok (.iastore, 1) := by decide +kernel
theorem d_M_cut_33 : decode b_M_cut 33 = .ok (.aload_n 0, 1) := by decide +kernel
theorem d_M_cut_34 : decode b_M_cut 34 = .ok (.getfield 69, 3) := by decide +kernel
theorem d_M_cut_37 : decode b_M_cut 37 = .ok (.iload_n 1, 1) := by decide +kernel
theorem d_M_cut_38 : decode b_M_cut 38 = .ok (.aload_n 0, 1) := by decide +kernel
theorem d_M_cut_39 : decode b_M_cut 39 = .ok (.getfield 102, 3) := by decide +kernel
theorem d_M_cut_42 : decode b_M_cut 42 = .ok (.iastore, 1) := by decide +kernel
theorem d_M_cut_43 : decode b_M_cut 43 = .ok (.iconst 0, 1) := by decide +kernel
theorem d_M_cut_44 : decode b_M_cut 44 = .ok (.istore_n 3, 1) := by decide +kernel
theorem d_M_cut_45 : decode b_M_cut 45 = .ok (.iload_n 3, 1) := by decide +kernel
theorem d_M_cut_46 : decode b_M_cut 46 = .ok (.bipush 61, 2) := by decide +kernel
theorem d_M_cut_48 : decode b_M_cut 48 = .ok (.if_icmp .ge 154, 3) := by decide +kernel
theorem d_M_cut_51 : decode b_M_cut 51 = .ok (.iload_n 2, 1) := by decide +kernel
theorem d_M_cut_52 : decode b_M_cut 52 = .ok (.ifCond .eq 150, 3) := by decide +kernel
theorem d_M_cut_55 : decode b_M_cut 55 = .ok (.bipush 61, 2) := by decide +kernel
theorem d_M_cut_57 : decode b_M_cut 57 = .ok (.iload_n 1, 1) := by decide +kernel
theorem d_M_cut_58 : decode b_M_cut 58 = .ok (.imul, 1) := by decide +kernel
theorem d_M_cut_59 : decode b_M_cut 59 = .ok (.iload_n 3, 1) := by decide +kernel
theorem d_M_cut_60 : decode b_M_cut 60 = .ok (.iadd, 1) := by decide +kernel
theorem d_M_cut_61 : decode b_M_cut 61 = .ok (.istore 4, 2) := by decide +kernel
theorem d_M_cut_63 : decode b_M_cut 63 = .ok (.sipush 488, 3) := by decide +kernel
theorem d_M_cut_66 : decode b_M_cut 66 = .ok (.iload_n 3, 1) := by decide +kernel
theorem d_M_cut_67 : decode b_M_cut 67 = .ok (.iadd, 1) := by decide +kernel
theorem d_M_cut_68 : decode b_M_cut 68 = .ok (.istore 5, 2) := by decide +kernel
theorem d_M_cut_70 : decode b_M_cut 70 = .ok (.aload_n 0, 1) := by decide +kernel
theorem d_M_cut_71 : decode b_M_cut 71 = .ok (.getfield 30, 3) := by decide +kernel
theorem d_M_cut_74 : decode b_M_cut 74 = .ok (.iload 4, 2) := by decide +kernel
theorem d_M_cut_76 : decode b_M_cut 76 = .ok (.aload_n 0, 1) := by decide +kernel
theorem d_M_cut_77 : decode b_M_cut 77 = .ok (.getfield 30, 3) := by decide +kernel
theorem d_M_cut_80 : decode b_M_cut 80 = .ok (.iload 5, 2) := by decide +kernel
theorem d_M_cut_82 : decode b_M_cut 82 = .ok (.iaload, 1) := by decide +kernel
theorem d_M_cut_83 : decode b_M_cut 83 = .ok (.iastore, 1) := by decide +kernel
theorem d_M_cut_84 : decode b_M_cut 84 = .ok (.aload_n 0, 1) := by decide +kernel
theorem d_M_cut_85 : decode b_M_cut 85 = .ok (.getfield 33, 3) := by decide +kernel
theorem d_M_cut_88 : decode b_M_cut 88 = .ok (.iload 4, 2) := by decide +kernel
theorem d_M_cut_90 : decode b_M_cut 90 = .ok (.aload_n 0, 1) := by decide +kernel
theorem d_M_cut_91 : decode b_M_cut 91 = .ok (.getfield 33, 3) := by decide +kernel
theorem d_M_cut_94 : decode b_M_cut 94 = .ok (.iload 5, 2) := by decide +kernel
theorem d_M_cut_96 : decode b_M_cut 96 = .ok (.iaload, 1) := by decide +kernel
theorem d_M_cut_97 : decode b_M_cut 97 = .ok (.iastore, 1) := by decide +kernel
theorem d_M_cut_98 : decode b_M_cut 98 = .ok (.aload_n 0, 1) := by decide +kernel
theorem d_M_cut_99 : decode b_M_cut 99 = .ok (.getfield 36, 3) := by decide +kernel
theorem d_M_cut_102 : decode b_M_cut 102 = .ok (.iload 4, 2) := by decide +kernel
theorem d_M_cut_104 : decode b_M_cut 104 = .ok (.aload_n 0, 1) := by decide +kernel
theorem d_M_cut_105 : decode b_M_cut 105 = .ok (.getfield 36, 3) := by decide +kernel
theorem d_M_cut_108 : decode b_M_cut 108 = .ok (.iload 5, 2) := by decide +kernel
theorem d_M_cut_110 : decode b_M_cut 110 = .ok (.laload, 1) := by decide +kernel
theorem d_M_cut_111 : decode b_M_cut 111 = .ok (.lastore, 1) := by decide +kernel
theorem d_M_cut_112 : decode b_M_cut 112 = .ok (.aload_n 0, 1) := by decide +kernel
theorem d_M_cut_113 : decode b_M_cut 113 = .ok (.getfield 39, 3) := by decide +kernel
theorem d_M_cut_116 : decode b_M_cut 116 = .ok (.iload 4, 2) := by decide +kernel
theorem d_M_cut_118 : decode b_M_cut 118 = .ok (.aload_n 0, 1) := by decide +kernel
theorem d_M_cut_119 : decode b_M_cut 119 = .ok (.getfield 39, 3) := by decide +kernel
theorem d_M_cut_122 : decode b_M_cut 122 = .ok (.iload 5, 2) := by decide +kernel
theorem d_M_cut_124 : decode b_M_cut 124 = .ok (.laload, 1) := by decide +kernel
theorem d_M_cut_125 : decode b_M_cut 125 = .ok (.lastore, 1) := by decide +kernel
theorem d_M_cut_126 : decode b_M_cut 126 = .ok (.aload_n 0, 1) := by decide +kernel
theorem d_M_cut_127 : decode b_M_cut 127 = .ok (.getfield 42, 3) := by decide +kernel
theorem d_M_cut_130 : decode b_M_cut 130 = .ok (.iload 4, 2) := by decide +kernel
theorem d_M_cut_132 : decode b_M_cut 132 = .ok (.aload_n 0, 1) := by decide +kernel
theorem d_M_cut_133 : decode b_M_cut 133 = .ok (.getfield 42, 3) := by decide +kernel
theorem d_M_cut_136 : decode b_M_cut 136 = .ok (.iload 5, 2) := by decide +kernel
theorem d_M_cut_138 : decode b_M_cut 138 = .ok (.iaload, 1) := by decide +kernel
theorem d_M_cut_139 : decode b_M_cut 139 = .ok (.iastore, 1) := by decide +kernel
theorem d_M_cut_140 : decode b_M_cut 140 = .ok (.aload_n 0, 1) := by decide +kernel
theorem d_M_cut_141 : decode b_M_cut 141 = .ok (.getfield 45, 3) := by decide +kernel
theorem d_M_cut_144 : decode b_M_cut 144 = .ok (.iload 4, 2) := by decide +kernel
theorem d_M_cut_146 : decode b_M_cut 146 = .ok (.aload_n 0, 1) := by decide +kernel
theorem d_M_cut_147 : decode b_M_cut 147 = .ok (.getfield 45, 3) := by decide +kernel
theorem d_M_cut_150 : decode b_M_cut 150 = .ok (.iload 5, 2) := by decide +kernel
theorem d_M_cut_152 : decode b_M_cut 152 = .ok (.iaload, 1) := by decide +kernel
theorem d_M_cut_153 : decode b_M_cut 153 = .ok (.iastore, 1) := by decide +kernel
theorem d_M_cut_154 : decode b_M_cut 154 = .ok (.aload_n 0, 1) := by decide +kernel
theorem d_M_cut_155 : decode b_M_cut 155 = .ok (.getfield 48, 3) := by decide +kernel
theorem d_M_cut_158 : decode b_M_cut 158 = .ok (.iload 4, 2) := by decide +kernel
theorem d_M_cut_160 : decode b_M_cut 160 = .ok (.aload_n 0, 1) := by decide +kernel
theorem d_M_cut_161 : decode b_M_cut 161 = .ok (.getfield 48, 3) := by decide +kernel
theorem d_M_cut_164 : decode b_M_cut 164 = .ok (.iload 5, 2) := by decide +kernel
theorem d_M_cut_166 : decode b_M_cut 166 = .ok (.laload, 1) := by decide +kernel
theorem d_M_cut_167 : decode b_M_cut 167 = .ok (.lastore, 1) := by decide +kernel
theorem d_M_cut_168 : decode b_M_cut 168 = .ok (.aload_n 0, 1) := by decide +kernel
theorem d_M_cut_169 : decode b_M_cut 169 = .ok (.getfield 51, 3) := by decide +kernel
theorem d_M_cut_172 : decode b_M_cut 172 = .ok (.iload 4, 2) := by decide +kernel
theorem d_M_cut_174 : decode b_M_cut 174 = .ok (.aload_n 0, 1) := by decide +kernel
theorem d_M_cut_175 : decode b_M_cut 175 = .ok (.getfield 51, 3) := by decide +kernel
theorem d_M_cut_178 : decode b_M_cut 178 = .ok (.iload 5, 2) := by decide +kernel
theorem d_M_cut_180 : decode b_M_cut 180 = .ok (.iaload, 1) := by decide +kernel
theorem d_M_cut_181 : decode b_M_cut 181 = .ok (.iastore, 1) := by decide +kernel
theorem d_M_cut_182 : decode b_M_cut 182 = .ok (.aload_n 0, 1) := by decide +kernel
theorem d_M_cut_183 : decode b_M_cut 183 = .ok (.getfield 54, 3) := by decide +kernel
theorem d_M_cut_186 : decode b_M_cut 186 = .ok (.iload 4, 2) := by decide +kernel
theorem d_M_cut_188 : decode b_M_cut 188 = .ok (.aload_n 0, 1) := by decide +kernel
theorem d_M_cut_189 : decode b_M_cut 189 = .ok (.getfield 54, 3) := by decide +kernel
theorem d_M_cut_192 : decode b_M_cut 192 = .ok (.iload 5, 2) := by decide +kernel
theorem d_M_cut_194 : decode b_M_cut 194 = .ok (.baload, 1) := by decide +kernel
theorem d_M_cut_195 : decode b_M_cut 195 = .ok (.bastore, 1) := by decide +kernel
theorem d_M_cut_196 : decode b_M_cut 196 = .ok (.iinc 3 1, 3) := by decide +kernel
theorem d_M_cut_199 : decode b_M_cut 199 = .ok (.goto (-154), 3) := by decide +kernel
theorem d_M_cut_202 : decode b_M_cut 202 = .ok (.iconst 1, 1) := by decide +kernel
theorem d_M_cut_203 : decode b_M_cut 203 = .ok (.ireturn, 1) := by decide +kernel
theorem d_M_join_0 : decode b_M_join 0 = .ok (.iload_n 1, 1) := by decide +kernel
theorem d_M_join_1 : decode b_M_join 1 = .ok (.invokestatic 147, 3) := by decide +kernel
theorem d_M_join_4 : decode b_M_join 4 = .ok (.ifCond .ne 6, 3) := by decide +kernel
theorem d_M_join_7 : decode b_M_join 7 = .ok (.bipush (-12), 2) := by decide +kernel
theorem d_M_join_9 : decode b_M_join 9 = .ok (.ireturn, 1) := by decide +kernel
theorem d_M_join_10 : decode b_M_join 10 = .ok (.aload_n 0, 1) := by decide +kernel
theorem d_M_join_11 : decode b_M_join 11 = .ok (.getfield 66, 3) := by decide +kernel
theorem d_M_join_14 : decode b_M_join 14 = .ok (.iload_n 1, 1) := by decide +kernel
theorem d_M_join_15 : decode b_M_join 15 = .ok (.baload, 1) := by decide +kernel
theorem d_M_join_16 : decode b_M_join 16 = .ok (.ifCond .ne 6, 3) := by decide +kernel
theorem d_M_join_19 : decode b_M_join 19 = .ok (.bipush (-13), 2) := by decide +kernel
theorem d_M_join_21 : decode b_M_join 21 = .ok (.ireturn, 1) := by decide +kernel
theorem d_M_join_22 : decode b_M_join 22 = .ok (.aload_n 0, 1) := by decide +kernel
theorem d_M_join_23 : decode b_M_join 23 = .ok (.getfield 170, 3) := by decide +kernel
theorem d_M_join_26 : decode b_M_join 26 = .ok (.istore_n 2, 1) := by decide +kernel
theorem d_M_join_27 : decode b_M_join 27 = .ok (.iconst 0, 1) := by decide +kernel
theorem d_M_join_28 : decode b_M_join 28 = .ok (.istore_n 3, 1) := by decide +kernel
theorem d_M_join_29 : decode b_M_join 29 = .ok (.iload_n 3, 1) := by decide +kernel
theorem d_M_join_30 : decode b_M_join 30 = .ok (.aload_n 0, 1) := by decide +kernel
theorem d_M_join_31 : decode b_M_join 31 = .ok (.getfield 75, 3) := by decide +kernel
theorem d_M_join_34 : decode b_M_join 34 = .ok (.iload_n 1, 1) := by decide +kernel
theorem d_M_join_35 : decode b_M_join 35 = .ok (.iaload, 1) := by decide +kernel
theorem d_M_join_36 : decode b_M_join 36 = .ok (.if_icmp .ge 139, 3) := by decide +kernel
theorem d_M_join_39 : decode b_M_join 39 = .ok (.bipush 30, 2) := by decide +kernel
theorem d_M_join_41 : decode b_M_join 41 = .ok (.iload_n 1, 1) := by decide +kernel
theorem d_M_join_42 : decode b_M_join 42 = .ok (.imul, 1) := by decide +kernel
theorem d_M_join_43 : decode b_M_join 43 = .ok (.iload_n 3, 1) := by decide +kernel
theorem d_M_join_44 : decode b_M_join 44 = .ok (.iadd, 1) := by decide +kernel
theorem d_M_join_45 : decode b_M_join 45 = .ok (.istore 4, 2) := by decide +kernel
theorem d_M_join_47 : decode b_M_join 47 = .ok (.aload_n 0, 1) := by decide +kernel
theorem d_M_join_48 : decode b_M_join 48 = .ok (.getfield 78, 3) := by decide +kernel
theorem d_M_join_51 : decode b_M_join 51 = .ok (.iload 4, 2) := by decide +kernel
theorem d_M_join_53 : decode b_M_join 53 = .ok (.iaload, 1) := by decide +kernel
theorem d_M_join_54 : decode b_M_join 54 = .ok (.istore 5, 2) := by decide +kernel
theorem d_M_join_56 : decode b_M_join 56 = .ok (.aload_n 0, 1) := by decide +kernel
theorem d_M_join_57 : decode b_M_join 57 = .ok (.bipush 8, 2) := by decide +kernel
theorem d_M_join_59 : decode b_M_join 59 = .ok (.iload 5, 2) := by decide +kernel
theorem d_M_join_61 : decode b_M_join 61 = .ok (.aload_n 0, 1) := by decide +kernel
theorem d_M_join_62 : decode b_M_join 62 = .ok (.getfield 81, 3) := by decide +kernel
theorem d_M_join_65 : decode b_M_join 65 = .ok (.iload 4, 2) := by decide +kernel
theorem d_M_join_67 : decode b_M_join 67 = .ok (.iaload, 1) := by decide +kernel
theorem d_M_join_68 : decode b_M_join 68 = .ok (.iload_n 1, 1) := by decide +kernel
theorem d_M_join_69 : decode b_M_join 69 = .ok (.aload_n 0, 1) := by decide +kernel
theorem d_M_join_70 : decode b_M_join 70 = .ok (.getfield 90, 3) := by decide +kernel
theorem d_M_join_73 : decode b_M_join 73 = .ok (.iload 4, 2) := by decide +kernel
theorem d_M_join_75 : decode b_M_join 75 = .ok (.laload, 1) := by decide +kernel
theorem d_M_join_76 : decode b_M_join 76 = .ok (.invokevirtual 158, 3) := by decide +kernel
theorem d_M_join_79 : decode b_M_join 79 = .ok (.ifCond .eq 43, 3) := by decide +kernel
theorem d_M_join_82 : decode b_M_join 82 = .ok (.aload_n 0, 1) := by decide +kernel
theorem d_M_join_83 : decode b_M_join 83 = .ok (.bipush 8, 2) := by decide +kernel
theorem d_M_join_85 : decode b_M_join 85 = .ok (.iload 5, 2) := by decide +kernel
theorem d_M_join_87 : decode b_M_join 87 = .ok (.aload_n 0, 1) := by decide +kernel
theorem d_M_join_88 : decode b_M_join 88 = .ok (.getfield 81, 3) := by decide +kernel
theorem d_M_join_91 : decode b_M_join 91 = .ok (.iload 4, 2) := by decide +kernel
theorem d_M_join_93 : decode b_M_join 93 = .ok (.iaload, 1) := by decide +kernel
theorem d_M_join_94 : decode b_M_join 94 = .ok (.aload_n 0, 1) := by decide +kernel
theorem d_M_join_95 : decode b_M_join 95 = .ok (.getfield 84, 3) := by decide +kernel
theorem d_M_join_98 : decode b_M_join 98 = .ok (.iload 4, 2) := by decide +kernel
theorem d_M_join_100 : decode b_M_join 100 = .ok (.iaload, 1) := by decide +kernel
theorem d_M_join_101 : decode b_M_join 101 = .ok (.iload_n 1, 1) := by decide +kernel
theorem d_M_join_102 : decode b_M_join 102 = .ok (.aload_n 0, 1) := by decide +kernel
theorem d_M_join_103 : decode b_M_join 103 = .ok (.getfield 87, 3) := by decide +kernel
theorem d_M_join_106 : decode b_M_join 106 = .ok (.iload 4, 2) := by decide +kernel
theorem d_M_join_108 : decode b_M_join 108 = .ok (.iaload, 1) := by decide +kernel
theorem d_M_join_109 : decode b_M_join 109 = .ok (.aload_n 0, 1) := by decide +kernel
theorem d_M_join_110 : decode b_M_join 110 = .ok (.getfield 90, 3) := by decide +kernel
theorem d_M_join_113 : decode b_M_join 113 = .ok (.iload 4, 2) := by decide +kernel
theorem d_M_join_115 : decode b_M_join 115 = .ok (.laload, 1) := by decide +kernel
theorem d_M_join_116 : decode b_M_join 116 = .ok (.invokevirtual 166, 3) := by decide +kernel
theorem d_M_join_119 : decode b_M_join 119 = .ok (.goto 50, 3) := by decide +kernel
theorem d_M_join_122 : decode b_M_join 122 = .ok (.aload_n 0, 1) := by decide +kernel
theorem d_M_join_123 : decode b_M_join 123 = .ok (.getfield 93, 3) := by decide +kernel
theorem d_M_join_126 : decode b_M_join 126 = .ok (.aload_n 0, 1) := by decide +kernel
theorem d_M_join_127 : decode b_M_join 127 = .ok (.getfield 170, 3) := by decide +kernel
theorem d_M_join_130 : decode b_M_join 130 = .ok (.iload 5, 2) := by decide +kernel
theorem d_M_join_132 : decode b_M_join 132 = .ok (.iastore, 1) := by decide +kernel
theorem d_M_join_133 : decode b_M_join 133 = .ok (.aload_n 0, 1) := by decide +kernel
theorem d_M_join_134 : decode b_M_join 134 = .ok (.getfield 96, 3) := by decide +kernel
theorem d_M_join_137 : decode b_M_join 137 = .ok (.aload_n 0, 1) := by decide +kernel
theorem d_M_join_138 : decode b_M_join 138 = .ok (.getfield 170, 3) := by decide +kernel
theorem d_M_join_141 : decode b_M_join 141 = .ok (.aload_n 0, 1) := by decide +kernel
theorem d_M_join_142 : decode b_M_join 142 = .ok (.getfield 20, 3) := by decide +kernel
theorem d_M_join_145 : decode b_M_join 145 = .ok (.iload 5, 2) := by decide +kernel
theorem d_M_join_147 : decode b_M_join 147 = .ok (.iaload, 1) := by decide +kernel
theorem d_M_join_148 : decode b_M_join 148 = .ok (.iastore, 1) := by decide +kernel
theorem d_M_join_149 : decode b_M_join 149 = .ok (.aload_n 0, 1) := by decide +kernel
theorem d_M_join_150 : decode b_M_join 150 = .ok (.getfield 99, 3) := by decide +kernel
theorem d_M_join_153 : decode b_M_join 153 = .ok (.aload_n 0, 1) := by decide +kernel
theorem d_M_join_154 : decode b_M_join 154 = .ok (.getfield 170, 3) := by decide +kernel
theorem d_M_join_157 : decode b_M_join 157 = .ok (.iload_n 1, 1) := by decide +kernel
theorem d_M_join_158 : decode b_M_join 158 = .ok (.iastore, 1) := by decide +kernel
theorem d_M_join_159 : decode b_M_join 159 = .ok (.aload_n 0, 1) := by decide +kernel
theorem d_M_join_160 : decode b_M_join 160 = .ok (.dup, 1) := by decide +kernel
theorem d_M_join_161 : decode b_M_join 161 = .ok (.getfield 170, 3) := by decide +kernel
theorem d_M_join_164 : decode b_M_join 164 = .ok (.iconst 1, 1) := by decide +kernel
theorem d_M_join_165 : decode b_M_join 165 = .ok (.iadd, 1) := by decide +kernel
theorem d_M_join_166 : decode b_M_join 166 = .ok (.putfield 170, 3) := by decide +kernel
theorem d_M_join_169 : decode b_M_join 169 = .ok (.iinc 3 1, 3) := by decide +kernel
theorem d_M_join_172 : decode b_M_join 172 = .ok (.goto (-143), 3) := by decide +kernel
theorem d_M_join_175 : decode b_M_join 175 = .ok (.aload_n 0, 1) := by decide +kernel
theorem d_M_join_176 : decode b_M_join 176 = .ok (.getfield 75, 3) := by decide +kernel
theorem d_M_join_179 : decode b_M_join 179 = .ok (.iload_n 1, 1) := by decide +kernel
theorem d_M_join_180 : decode b_M_join 180 = .ok (.iaload, 1) := by decide +kernel
theorem d_M_join_181 : decode b_M_join 181 = .ok (.istore_n 3, 1) := by decide +kernel
theorem d_M_join_182 : decode b_M_join 182 = .ok (.aload_n 0, 1) := by decide +kernel
theorem d_M_join_183 : decode b_M_join 183 = .ok (.getfield 75, 3) := by decide +kernel
theorem d_M_join_186 : decode b_M_join 186 = .ok (.iload_n 1, 1) := by decide +kernel
theorem d_M_join_187 : decode b_M_join 187 = .ok (.iconst 0, 1) := by decide +kernel
theorem d_M_join_188 : decode b_M_join 188 = .ok (.iastore, 1) := by decide +kernel
theorem d_M_join_189 : decode b_M_join 189 = .ok (.aload_n 0, 1) := by decide +kernel
theorem d_M_join_190 : decode b_M_join 190 = .ok (.getfield 66, 3) := by decide +kernel
theorem d_M_join_193 : decode b_M_join 193 = .ok (.iload_n 1, 1) := by decide +kernel
theorem d_M_join_194 : decode b_M_join 194 = .ok (.iconst 0, 1) := by decide +kernel
theorem d_M_join_195 : decode b_M_join 195 = .ok (.bastore, 1) := by decide +kernel
theorem d_M_join_196 : decode b_M_join 196 = .ok (.aload_n 0, 1) := by decide +kernel
theorem d_M_join_197 : decode b_M_join 197 = .ok (.getfield 170, 3) := by decide +kernel
theorem d_M_join_200 : decode b_M_join 200 = .ok (.iload_n 2, 1) := by decide +kernel
theorem d_M_join_201 : decode b_M_join 201 = .ok (.if_icmp .ne 7, 3) := by decide +kernel
theorem d_M_join_204 : decode b_M_join 204 = .ok (.iload_n 3, 1) := by decide +kernel
theorem d_M_join_205 : decode b_M_join 205 = .ok (.goto 6, 3) := by decide +kernel
theorem d_M_join_208 : decode b_M_join 208 = .ok (.iconst (-1), 1) := by decide +kernel
theorem d_M_join_209 : decode b_M_join 209 = .ok (.iload_n 2, 1) := by decide +kernel
theorem d_M_join_210 : decode b_M_join 210 = .ok (.isub, 1) := by decide +kernel
theorem d_M_join_211 : decode b_M_join 211 = .ok (.ireturn, 1) := by decide +kernel
theorem d_M_clash_0 : decode b_M_clash 0 = .ok (.iload_n 2, 1) := by decide +kernel
theorem d_M_clash_1 : decode b_M_clash 1 = .ok (.i2l, 1) := by decide +kernel
theorem d_M_clash_2 : decode b_M_clash 2 = .ok (.lconst 0, 1) := by decide +kernel
theorem d_M_clash_3 : decode b_M_clash 3 = .ok (.ldc2_w 117, 3) := by decide +kernel
theorem d_M_clash_6 : decode b_M_clash 6 = .ok (.invokestatic 108, 3) := by decide +kernel
theorem d_M_clash_9 : decode b_M_clash 9 = .ok (.ifCond .ne 6, 3) := by decide +kernel
theorem d_M_clash_12 : decode b_M_clash 12 = .ok (.bipush (-12), 2) := by decide +kernel
theorem d_M_clash_14 : decode b_M_clash 14 = .ok (.ireturn, 1) := by decide +kernel
theorem d_M_clash_15 : decode b_M_clash 15 = .ok (.iload_n 1, 1) := by decide +kernel
theorem d_M_clash_16 : decode b_M_clash 16 = .ok (.ifCond .lt 11, 3) := by decide +kernel
theorem d_M_clash_19 : decode b_M_clash 19 = .ok (.iload_n 1, 1) := by decide +kernel
theorem d_M_clash_20 : decode b_M_clash 20 = .ok (.aload_n 0, 1) := by decide +kernel
theorem d_M_clash_21 : decode b_M_clash 21 = .ok (.getfield 170, 3) := by decide +kernel
theorem d_M_clash_24 : decode b_M_clash 24 = .ok (.if_icmp .lt 5, 3) := by decide +kernel
theorem d_M_clash_27 : decode b_M_clash 27 = .ok (.iconst (-1), 1) := by decide +kernel
theorem d_M_clash_28 : decode b_M_clash 28 = .ok (.ireturn, 1) := by decide +kernel
theorem d_M_clash_29 : decode b_M_clash 29 = .ok (.iload_n 2, 1) := by decide +kernel
theorem d_M_clash_30 : decode b_M_clash 30 = .ok (.ifCond .ne 12, 3) := by decide +kernel
theorem d_M_clash_33 : decode b_M_clash 33 = .ok (.aload_n 0, 1) := by decide +kernel
theorem d_M_clash_34 : decode b_M_clash 34 = .ok (.getfield 93, 3) := by decide +kernel
theorem d_M_clash_37 : decode b_M_clash 37 = .ok (.iload_n 1, 1) := by decide +kernel
theorem d_M_clash_38 : decode b_M_clash 38 = .ok (.iaload, 1) := by decide +kernel
theorem d_M_clash_39 : decode b_M_clash 39 = .ok (.goto 23, 3) := by decide +kernel
theorem d_M_clash_42 : decode b_M_clash 42 = .ok (.iload_n 2, 1) := by decide +kernel
theorem d_M_clash_43 : decode b_M_clash 43 = .ok (.iconst 1, 1) := by decide +kernel
theorem d_M_clash_44 : decode b_M_clash 44 = .ok (.if_icmp .ne 12, 3) := by decide +kernel
theorem d_M_clash_47 : decode b_M_clash 47 = .ok (.aload_n 0, 1) := by decide +kernel
theorem d_M_clash_48 : decode b_M_clash 48 = .ok (.getfield 96, 3) := by decide +kernel
theorem d_M_clash_51 : decode b_M_clash 51 = .ok (.iload_n 1, 1) := by decide +kernel
theorem d_M_clash_52 : decode b_M_clash 52 = .ok (.iaload, 1) := by decide +kernel
theorem d_M_clash_53 : decode b_M_clash 53 = .ok (.goto 9, 3) := by decide +kernel
theorem d_M_clash_56 : decode b_M_clash 56 = .ok (.aload_n 0, 1) := by decide +kernel
theorem d_M_clash_57 : decode b_M_clash 57 = .ok (.getfield 99, 3) := by decide +kernel
theorem d_M_clash_60 : decode b_M_clash 60 = .ok (.iload_n 1, 1) := by decide +kernel
theorem d_M_clash_61 : decode b_M_clash 61 = .ok (.iaload, 1) := by decide +kernel
theorem d_M_clash_62 : decode b_M_clash 62 = .ok (.ireturn, 1) := by decide +kernel
theorem d_M_tries_0 : decode b_M_tries 0 = .ok (.aload_n 0, 1) := by decide +kernel
theorem d_M_tries_1 : decode b_M_tries 1 = .ok (.iload_n 1, 1) := by decide +kernel
theorem d_M_tries_2 : decode b_M_tries 2 = .ok (.invokevirtual 143, 3) := by decide +kernel
theorem d_M_tries_5 : decode b_M_tries 5 = .ok (.ifCond .eq 16, 3) := by decide +kernel
theorem d_M_tries_8 : decode b_M_tries 8 = .ok (.aload_n 0, 1) := by decide +kernel
theorem d_M_tries_9 : decode b_M_tries 9 = .ok (.getfield 33, 3) := by decide +kernel
theorem d_M_tries_12 : decode b_M_tries 12 = .ok (.sipush 488, 3) := by decide +kernel
theorem d_M_tries_15 : decode b_M_tries 15 = .ok (.iload_n 1, 1) := by decide +kernel
theorem d_M_tries_16 : decode b_M_tries 16 = .ok (.iadd, 1) := by decide +kernel
theorem d_M_tries_17 : decode b_M_tries 17 = .ok (.iaload, 1) := by decide +kernel
theorem d_M_tries_18 : decode b_M_tries 18 = .ok (.goto 5, 3) := by decide +kernel
theorem d_M_tries_21 : decode b_M_tries 21 = .ok (.bipush (-11), 2) := by decide +kernel
theorem d_M_tries_23 : decode b_M_tries 23 = .ok (.ireturn, 1) := by decide +kernel
theorem d_M_tick_0 : decode b_M_tick 0 = .ok (.lload_n 1, 1) := by decide +kernel
theorem d_M_tick_1 : decode b_M_tick 1 = .ok (.aload_n 0, 1) := by decide +kernel
theorem d_M_tick_2 : decode b_M_tick 2 = .ok (.getfield 173, 3) := by decide +kernel
theorem d_M_tick_5 : decode b_M_tick 5 = .ok (.ldc2_w 177, 3) := by decide +kernel
theorem d_M_tick_8 : decode b_M_tick 8 = .ok (.invokestatic 108, 3) := by decide +kernel
theorem d_M_tick_11 : decode b_M_tick 11 = .ok (.ifCond .ne 6, 3) := by decide +kernel
theorem d_M_tick_14 : decode b_M_tick 14 = .ok (.bipush (-12), 2) := by decide +kernel
theorem d_M_tick_16 : decode b_M_tick 16 = .ok (.ireturn, 1) := by decide +kernel
theorem d_M_tick_17 : decode b_M_tick 17 = .ok (.aload_n 0, 1) := by decide +kernel
theorem d_M_tick_18 : decode b_M_tick 18 = .ok (.lload_n 1, 1) := by decide +kernel
theorem d_M_tick_19 : decode b_M_tick 19 = .ok (.putfield 173, 3) := by decide +kernel
theorem d_M_tick_22 : decode b_M_tick 22 = .ok (.iconst 0, 1) := by decide +kernel
theorem d_M_tick_23 : decode b_M_tick 23 = .ok (.istore_n 3, 1) := by decide +kernel
theorem d_M_tick_24 : decode b_M_tick 24 = .ok (.iconst 1, 1) := by decide +kernel
theorem d_M_tick_25 : decode b_M_tick 25 = .ok (.istore 4, 2) := by decide +kernel
theorem d_M_tick_27 : decode b_M_tick 27 = .ok (.iload 4, 2) := by decide +kernel
theorem d_M_tick_29 : decode b_M_tick 29 = .ok (.aload_n 0, 1) := by decide +kernel
theorem d_M_tick_30 : decode b_M_tick 30 = .ok (.getfield 102, 3) := by decide +kernel
theorem d_M_tick_33 : decode b_M_tick 33 = .ok (.if_icmp .gt 60, 3) := by decide +kernel
theorem d_M_tick_36 : decode b_M_tick 36 = .ok (.sipush 488, 3) := by decide +kernel
theorem d_M_tick_39 : decode b_M_tick 39 = .ok (.iload 4, 2) := by decide +kernel
theorem d_M_tick_41 : decode b_M_tick 41 = .ok (.iadd, 1) := by decide +kernel
theorem d_M_tick_42 : decode b_M_tick 42 = .ok (.istore 5, 2) := by decide +kernel
theorem d_M_tick_44 : decode b_M_tick 44 = .ok (.aload_n 0, 1) := by decide +kernel
theorem d_M_tick_45 : decode b_M_tick 45 = .ok (.getfield 30, 3) := by decide +kernel
theorem d_M_tick_48 : decode b_M_tick 48 = .ok (.iload 5, 2) := by decide +kernel
theorem d_M_tick_50 : decode b_M_tick 50 = .ok (.iaload, 1) := by decide +kernel
theorem d_M_tick_51 : decode b_M_tick 51 = .ok (.iconst 2, 1) := by decide +kernel
theorem d_M_tick_52 : decode b_M_tick 52 = .ok (.if_icmp .ne 35, 3) := by decide +kernel
theorem d_M_tick_55 : decode b_M_tick 55 = .ok (.aload_n 0, 1) := by decide +kernel
theorem d_M_tick_56 : decode b_M_tick 56 = .ok (.getfield 39, 3) := by decide +kernel
theorem d_M_tick_59 : decode b_M_tick 59 = .ok (.iload 5, 2) := by decide +kernel
theorem d_M_tick_61 : decode b_M_tick 61 = .ok (.laload, 1) := by decide +kernel
theorem d_M_tick_62 : decode b_M_tick 62 = .ok (.lload_n 1, 1) := by decide +kernel
theorem d_M_tick_63 : decode b_M_tick 63 = .ok (.lcmp, 1) := by decide +kernel
theorem d_M_tick_64 : decode b_M_tick 64 = .ok (.ifCond .ge 23, 3) := by decide +kernel
theorem d_M_tick_67 : decode b_M_tick 67 = .ok (.aload_n 0, 1) := by decide +kernel
theorem d_M_tick_68 : decode b_M_tick 68 = .ok (.getfield 30, 3) := by decide +kernel
theorem d_M_tick_71 : decode b_M_tick 71 = .ok (.iload 5, 2) := by decide +kernel
theorem d_M_tick_73 : decode b_M_tick 73 = .ok (.bipush 8, 2) := by decide +kernel
theorem d_M_tick_75 : decode b_M_tick 75 = .ok (.iastore, 1) := by decide +kernel
theorem d_M_tick_76 : decode b_M_tick 76 = .ok (.aload_n 0, 1) := by decide +kernel
theorem d_M_tick_77 : decode b_M_tick 77 = .ok (.getfield 20, 3) := by decide +kernel
theorem d_M_tick_80 : decode b_M_tick 80 = .ok (.iload 4, 2) := by decide +kernel
theorem d_M_tick_82 : decode b_M_tick 82 = .ok (.iconst (-1), 1) := by decide +kernel
theorem d_M_tick_83 : decode b_M_tick 83 = .ok (.iastore, 1) := by decide +kernel
theorem d_M_tick_84 : decode b_M_tick 84 = .ok (.iinc 3 1, 3) := by decide +kernel
theorem d_M_tick_87 : decode b_M_tick 87 = .ok (.iinc 4 1, 3) := by decide +kernel
theorem d_M_tick_90 : decode b_M_tick 90 = .ok (.goto (-63), 3) := by decide +kernel
theorem d_M_tick_93 : decode b_M_tick 93 = .ok (.iload_n 3, 1) := by decide +kernel
theorem d_M_tick_94 : decode b_M_tick 94 = .ok (.ireturn, 1) := by decide +kernel
theorem d_M_slip_0 : decode b_M_slip 0 = .ok (.aload_n 0, 1) := by decide +kernel
theorem d_M_slip_1 : decode b_M_slip 1 = .ok (.iload_n 1, 1) := by decide +kernel
theorem d_M_slip_2 : decode b_M_slip 2 = .ok (.invokevirtual 143, 3) := by decide +kernel
theorem d_M_slip_5 : decode b_M_slip 5 = .ok (.ifCond .ne 6, 3) := by decide +kernel
theorem d_M_slip_8 : decode b_M_slip 8 = .ok (.bipush (-11), 2) := by decide +kernel
theorem d_M_slip_10 : decode b_M_slip 10 = .ok (.ireturn, 1) := by decide +kernel
theorem d_M_slip_11 : decode b_M_slip 11 = .ok (.iload_n 2, 1) := by decide +kernel
theorem d_M_slip_12 : decode b_M_slip 12 = .ok (.i2l, 1) := by decide +kernel
theorem d_M_slip_13 : decode b_M_slip 13 = .ok (.ldc2_w 150, 3) := by decide +kernel
theorem d_M_slip_16 : decode b_M_slip 16 = .ok (.ldc2_w 112, 3) := by decide +kernel
theorem d_M_slip_19 : decode b_M_slip 19 = .ok (.invokestatic 108, 3) := by decide +kernel
theorem d_M_slip_22 : decode b_M_slip 22 = .ok (.ifCond .ne 6, 3) := by decide +kernel
theorem d_M_slip_25 : decode b_M_slip 25 = .ok (.bipush (-12), 2) := by decide +kernel
theorem d_M_slip_27 : decode b_M_slip 27 = .ok (.ireturn, 1) := by decide +kernel
theorem d_M_slip_28 : decode b_M_slip 28 = .ok (.sipush 488, 3) := by decide +kernel
theorem d_M_slip_31 : decode b_M_slip 31 = .ok (.iload_n 1, 1) := by decide +kernel
theorem d_M_slip_32 : decode b_M_slip 32 = .ok (.iadd, 1) := by decide +kernel
theorem d_M_slip_33 : decode b_M_slip 33 = .ok (.istore_n 3, 1) := by decide +kernel
theorem d_M_slip_34 : decode b_M_slip 34 = .ok (.aload_n 0, 1) := by decide +kernel
theorem d_M_slip_35 : decode b_M_slip 35 = .ok (.getfield 7, 3) := by decide +kernel
theorem d_M_slip_38 : decode b_M_slip 38 = .ok (.iload_n 1, 1) := by decide +kernel
theorem d_M_slip_39 : decode b_M_slip 39 = .ok (.iaload, 1) := by decide +kernel
theorem d_M_slip_40 : decode b_M_slip 40 = .ok (.iconst 4, 1) := by decide +kernel
theorem d_M_slip_41 : decode b_M_slip 41 = .ok (.if_icmp .ne 28, 3) := by decide +kernel
theorem d_M_slip_44 : decode b_M_slip 44 = .ok (.aload_n 0, 1) := by decide +kernel
theorem d_M_slip_45 : decode b_M_slip 45 = .ok (.getfield 30, 3) := by decide +kernel
theorem d_M_slip_48 : decode b_M_slip 48 = .ok (.iload_n 3, 1) := by decide +kernel
theorem d_M_slip_49 : decode b_M_slip 49 = .ok (.iaload, 1) := by decide +kernel
theorem d_M_slip_50 : decode b_M_slip 50 = .ok (.iconst 3, 1) := by decide +kernel
theorem d_M_slip_51 : decode b_M_slip 51 = .ok (.if_icmp .lt 18, 3) := by decide +kernel
theorem d_M_slip_54 : decode b_M_slip 54 = .ok (.aload_n 0, 1) := by decide +kernel
theorem d_M_slip_55 : decode b_M_slip 55 = .ok (.getfield 30, 3) := by decide +kernel
theorem d_M_slip_58 : decode b_M_slip 58 = .ok (.iload_n 3, 1) := by decide +kernel
theorem d_M_slip_59 : decode b_M_slip 59 = .ok (.iaload, 1) := by decide +kernel
theorem d_M_slip_60 : decode b_M_slip 60 = .ok (.bipush 6, 2) := by decide +kernel
theorem d_M_slip_62 : decode b_M_slip 62 = .ok (.if_icmp .gt 7, 3) := by decide +kernel
theorem d_M_slip_65 : decode b_M_slip 65 = .ok (.iconst 1, 1) := by decide +kernel
theorem d_M_slip_66 : decode b_M_slip 66 = .ok (.goto 4, 3) := by decide +kernel
theorem d_M_slip_69 : decode b_M_slip 69 = .ok (.iconst 0, 1) := by decide +kernel
theorem d_M_slip_70 : decode b_M_slip 70 = .ok (.istore 4, 2) := by decide +kernel
theorem d_M_slip_72 : decode b_M_slip 72 = .ok (.iload 4, 2) := by decide +kernel
theorem d_M_slip_74 : decode b_M_slip 74 = .ok (.ifCond .eq 30, 3) := by decide +kernel
theorem d_M_slip_77 : decode b_M_slip 77 = .ok (.aload_n 0, 1) := by decide +kernel
theorem d_M_slip_78 : decode b_M_slip 78 = .ok (.getfield 23, 3) := by decide +kernel
theorem d_M_slip_81 : decode b_M_slip 81 = .ok (.iload_n 1, 1) := by decide +kernel
theorem d_M_slip_82 : decode b_M_slip 82 = .ok (.baload, 1) := by decide +kernel
theorem d_M_slip_83 : decode b_M_slip 83 = .ok (.iload_n 2, 1) := by decide +kernel
theorem d_M_slip_84 : decode b_M_slip 84 = .ok (.ifCond .lt 7, 3) := by decide +kernel
theorem d_M_slip_87 : decode b_M_slip 87 = .ok (.iconst 1, 1) := by decide +kernel
theorem d_M_slip_88 : decode b_M_slip 88 = .ok (.goto 4, 3) := by decide +kernel
theorem d_M_slip_91 : decode b_M_slip 91 = .ok (.iconst 0, 1) := by decide +kernel
theorem d_M_slip_92 : decode b_M_slip 92 = .ok (.if_icmp .eq 12, 3) := by decide +kernel
theorem d_M_slip_95 : decode b_M_slip 95 = .ok (.aload_n 0, 1) := by decide +kernel
theorem d_M_slip_96 : decode b_M_slip 96 = .ok (.getfield 27, 3) := by decide +kernel
theorem d_M_slip_99 : decode b_M_slip 99 = .ok (.iload_n 1, 1) := by decide +kernel
theorem d_M_slip_100 : decode b_M_slip 100 = .ok (.baload, 1) := by decide +kernel
theorem d_M_slip_101 : decode b_M_slip 101 = .ok (.ifCond .eq 6, 3) := by decide +kernel
theorem d_M_slip_104 : decode b_M_slip 104 = .ok (.bipush (-13), 2) := by decide +kernel
theorem d_M_slip_106 : decode b_M_slip 106 = .ok (.ireturn, 1) := by decide +kernel
theorem d_M_slip_107 : decode b_M_slip 107 = .ok (.iload_n 2, 1) := by decide +kernel
theorem d_M_slip_108 : decode b_M_slip 108 = .ok (.ifCond .ge 12, 3) := by decide +kernel
theorem d_M_slip_111 : decode b_M_slip 111 = .ok (.aload_n 0, 1) := by decide +kernel
theorem d_M_slip_112 : decode b_M_slip 112 = .ok (.getfield 27, 3) := by decide +kernel
theorem d_M_slip_115 : decode b_M_slip 115 = .ok (.iload_n 1, 1) := by decide +kernel
theorem d_M_slip_116 : decode b_M_slip 116 = .ok (.iconst 1, 1) := by decide +kernel
theorem d_M_slip_117 : decode b_M_slip 117 = .ok (.bastore, 1) := by decide +kernel
theorem d_M_slip_118 : decode b_M_slip 118 = .ok (.iconst 2, 1) := by decide +kernel
theorem d_M_slip_119 : decode b_M_slip 119 = .ok (.ireturn, 1) := by decide +kernel
theorem d_M_slip_120 : decode b_M_slip 120 = .ok (.aload_n 0, 1) := by decide +kernel
theorem d_M_slip_121 : decode b_M_slip 121 = .ok (.getfield 42, 3) := by decide +kernel
theorem d_M_slip_124 : decode b_M_slip 124 = .ok (.iload_n 3, 1) := by decide +kernel
theorem d_M_slip_125 : decode b_M_slip 125 = .ok (.iaload, 1) := by decide +kernel
theorem d_M_slip_126 : decode b_M_slip 126 = .ok (.iload_n 2, 1) := by decide +kernel
theorem d_M_slip_127 : decode b_M_slip 127 = .ok (.if_icmp .eq 6, 3) := by decide +kernel
theorem d_M_slip_130 : decode b_M_slip 130 = .ok (.bipush (-21), 2) := by decide +kernel
theorem d_M_slip_132 : decode b_M_slip 132 = .ok (.ireturn, 1) := by decide +kernel
theorem d_M_slip_133 : decode b_M_slip 133 = .ok (.aload_n 0, 1) := by decide +kernel
theorem d_M_slip_134 : decode b_M_slip 134 = .ok (.getfield 23, 3) := by decide +kernel
theorem d_M_slip_137 : decode b_M_slip 137 = .ok (.iload_n 1, 1) := by decide +kernel
theorem d_M_slip_138 : decode b_M_slip 138 = .ok (.iconst 1, 1) := by decide +kernel
theorem d_M_slip_139 : decode b_M_slip 139 = .ok (.bastore, 1) := by decide +kernel
theorem d_M_slip_140 : decode b_M_slip 140 = .ok (.iconst 1, 1) := by decide +kernel
theorem d_M_slip_141 : decode b_M_slip 141 = .ok (.ireturn, 1) := by decide +kernel
theorem d_M_cash_0 : decode b_M_cash 0 = .ok (.aload_n 0, 1) := by decide +kernel
theorem d_M_cash_1 : decode b_M_cash 1 = .ok (.iload_n 1, 1) := by decide +kernel
theorem d_M_cash_2 : decode b_M_cash 2 = .ok (.invokevirtual 143, 3) := by decide +kernel
theorem d_M_cash_5 : decode b_M_cash 5 = .ok (.ifCond .ne 6, 3) := by decide +kernel
theorem d_M_cash_8 : decode b_M_cash 8 = .ok (.bipush (-11), 2) := by decide +kernel
theorem d_M_cash_10 : decode b_M_cash 10 = .ok (.ireturn, 1) := by decide +kernel
theorem d_M_cash_11 : decode b_M_cash 11 = .ok (.lload_n 2, 1) := by decide +kernel
theorem d_M_cash_12 : decode b_M_cash 12 = .ok (.lconst 1, 1) := by decide +kernel
theorem d_M_cash_13 : decode b_M_cash 13 = .ok (.ldc2_w 177, 3) := by decide +kernel
theorem d_M_cash_16 : decode b_M_cash 16 = .ok (.invokestatic 108, 3) := by decide +kernel
theorem d_M_cash_19 : decode b_M_cash 19 = .ok (.ifCond .ne 6, 3) := by decide +kernel
theorem d_M_cash_22 : decode b_M_cash 22 = .ok (.bipush (-12), 2) := by decide +kernel
theorem d_M_cash_24 : decode b_M_cash 24 = .ok (.ireturn, 1) := by decide +kernel
theorem d_M_cash_25 : decode b_M_cash 25 = .ok (.aload_n 0, 1) := by decide +kernel
theorem d_M_cash_26 : decode b_M_cash 26 = .ok (.getfield 7, 3) := by decide +kernel
theorem d_M_cash_29 : decode b_M_cash 29 = .ok (.iload_n 1, 1) := by decide +kernel
theorem d_M_cash_30 : decode b_M_cash 30 = .ok (.iaload, 1) := by decide +kernel
theorem d_M_cash_31 : decode b_M_cash 31 = .ok (.iconst 5, 1) := by decide +kernel
theorem d_M_cash_32 : decode b_M_cash 32 = .ok (.if_icmp .ne 27, 3) := by decide +kernel
theorem d_M_cash_35 : decode b_M_cash 35 = .ok (.aload_n 0, 1) := by decide +kernel
theorem d_M_cash_36 : decode b_M_cash 36 = .ok (.getfield 30, 3) := by decide +kernel
theorem d_M_cash_39 : decode b_M_cash 39 = .ok (.sipush 488, 3) := by decide +kernel
theorem d_M_cash_42 : decode b_M_cash 42 = .ok (.iload_n 1, 1) := by decide +kernel
theorem d_M_cash_43 : decode b_M_cash 43 = .ok (.iadd, 1) := by decide +kernel
theorem d_M_cash_44 : decode b_M_cash 44 = .ok (.iaload, 1) := by decide +kernel
theorem d_M_cash_45 : decode b_M_cash 45 = .ok (.iconst 2, 1) := by decide +kernel
theorem d_M_cash_46 : decode b_M_cash 46 = .ok (.if_icmp .gt 13, 3) := by decide +kernel
theorem d_M_cash_49 : decode b_M_cash 49 = .ok (.lload_n 2, 1) := by decide +kernel
theorem d_M_cash_50 : decode b_M_cash 50 = .ok (.aload_n 0, 1) := by decide +kernel
theorem d_M_cash_51 : decode b_M_cash 51 = .ok (.iload_n 1, 1) := by decide +kernel
theorem d_M_cash_52 : decode b_M_cash 52 = .ok (.invokevirtual 133, 3) := by decide +kernel
theorem d_M_cash_55 : decode b_M_cash 55 = .ok (.lcmp, 1) := by decide +kernel
theorem d_M_cash_56 : decode b_M_cash 56 = .ok (.ifCond .le 6, 3) := by decide +kernel
theorem d_M_cash_59 : decode b_M_cash 59 = .ok (.bipush (-13), 2) := by decide +kernel
theorem d_M_cash_61 : decode b_M_cash 61 = .ok (.ireturn, 1) := by decide +kernel
theorem d_M_cash_62 : decode b_M_cash 62 = .ok (.aload_n 0, 1) := by decide +kernel
theorem d_M_cash_63 : decode b_M_cash 63 = .ok (.getfield 16, 3) := by decide +kernel
theorem d_M_cash_66 : decode b_M_cash 66 = .ok (.iload_n 1, 1) := by decide +kernel
theorem d_M_cash_67 : decode b_M_cash 67 = .ok (.dup2, 1) := by decide +kernel
theorem d_M_cash_68 : decode b_M_cash 68 = .ok (.laload, 1) := by decide +kernel
theorem d_M_cash_69 : decode b_M_cash 69 = .ok (.lload_n 2, 1) := by decide +kernel
theorem d_M_cash_70 : decode b_M_cash 70 = .ok (.ladd, 1) := by decide +kernel
theorem d_M_cash_71 : decode b_M_cash 71 = .ok (.lastore, 1) := by decide +kernel
theorem d_M_cash_72 : decode b_M_cash 72 = .ok (.aload_n 0, 1) := by decide +kernel
theorem d_M_cash_73 : decode b_M_cash 73 = .ok (.iload_n 1, 1) := by decide +kernel
theorem d_M_cash_74 : decode b_M_cash 74 = .ok (.invokevirtual 133, 3) := by decide +kernel
theorem d_M_cash_77 : decode b_M_cash 77 = .ok (.l2i, 1) := by decide +kernel
theorem d_M_cash_78 : decode b_M_cash 78 = .ok (.ireturn, 1) := by decide +kernel
theorem d_M_state_0 : decode b_M_state 0 = .ok (.aload_n 0, 1) := by decide +kernel
theorem d_M_state_1 : decode b_M_state 1 = .ok (.iload_n 1, 1) := by decide +kernel
theorem d_M_state_2 : decode b_M_state 2 = .ok (.invokevirtual 143, 3) := by decide +kernel
theorem d_M_state_5 : decode b_M_state 5 = .ok (.ifCond .eq 36, 3) := by decide +kernel
theorem d_M_state_8 : decode b_M_state 8 = .ok (.aload_n 0, 1) := by decide +kernel
theorem d_M_state_9 : decode b_M_state 9 = .ok (.getfield 30, 3) := by decide +kernel
theorem d_M_state_12 : decode b_M_state 12 = .ok (.sipush 488, 3) := by decide +kernel
theorem d_M_state_15 : decode b_M_state 15 = .ok (.iload_n 1, 1) := by decide +kernel
theorem d_M_state_16 : decode b_M_state 16 = .ok (.iadd, 1) := by decide +kernel
theorem d_M_state_17 : decode b_M_state 17 = .ok (.iaload, 1) := by decide +kernel
theorem d_M_state_18 : decode b_M_state 18 = .ok (.aload_n 0, 1) := by decide +kernel
theorem d_M_state_19 : decode b_M_state 19 = .ok (.getfield 54, 3) := by decide +kernel
theorem d_M_state_22 : decode b_M_state 22 = .ok (.sipush 488, 3) := by decide +kernel
theorem d_M_state_25 : decode b_M_state 25 = .ok (.iload_n 1, 1) := by decide +kernel
theorem d_M_state_26 : decode b_M_state 26 = .ok (.iadd, 1) := by decide +kernel
theorem d_M_state_27 : decode b_M_state 27 = .ok (.baload, 1) := by decide +kernel
theorem d_M_state_28 : decode b_M_state 28 = .ok (.ifCond .eq 8, 3) := by decide +kernel
theorem d_M_state_31 : decode b_M_state 31 = .ok (.bipush 10, 2) := by decide +kernel
theorem d_M_state_33 : decode b_M_state 33 = .ok (.goto 4, 3) := by decide +kernel
theorem d_M_state_36 : decode b_M_state 36 = .ok (.iconst 0, 1) := by decide +kernel
theorem d_M_state_37 : decode b_M_state 37 = .ok (.iadd, 1) := by decide +kernel
theorem d_M_state_38 : decode b_M_state 38 = .ok (.goto 5, 3) := by decide +kernel
theorem d_M_state_41 : decode b_M_state 41 = .ok (.bipush (-11), 2) := by decide +kernel
theorem d_M_state_43 : decode b_M_state 43 = .ok (.ireturn, 1) := by decide +kernel
end
section
/-! A VIEW of the heap: what is known of it, as a function from addresses to contents. Contracts speak of views; no frame is cut. -/
abbrev zVw : Type := Nat → Option va_E
def zu (M : zVw) (a : Nat) (e : va_E) : zVw := fun q => if q = a then some e else M q
theorem zu_s (M : zVw) (a : Nat) (e : va_E) : zu M a e a = some e := if_pos rfl
theorem zu_n {M : zVw} {a b : Nat} {e : va_E} (h : b ≠ a) : zu M a e b = M b := if_neg h
theorem zu_u (M : zVw) (a : Nat) (e1 e2 : va_E) : zu (zu M a e1) a e2 = zu M a e2 := by
  funext q
  unfold zu
  by_cases h : q = a
  · rw [if_pos h, if_pos h]
  · rw [if_neg h, if_neg h, if_neg h]
def zhv (D : va_G) (cl : List vw_C) (M : zVw) (H : Heap) : Prop := ∀ (a : Nat) (e : va_E), M a = some e → va_at D cl (a, e) H
def zhd (z : Nat) (M : zVw) : Prop := ∀ (q : Nat) (e : va_E), M q = some e → z ≤ q
def zws (M : zVw) : Nat → va_W
  | 0 => []
  | n + 1 => zws M n ++ (match M n with | some e => [(n, e)] | none => [])
theorem zws_lt (M : zVw) : ∀ (n k : Nat) (q : Nat × va_E), (zws M n)[k]? = some q → q.1 < n ∧ M q.1 = some q.2
  | 0, k, q, h => by simp [zws] at h
  | n + 1, k, q, h => by
    unfold zws at h
    by_cases hl : k < (zws M n).length
    · rw [List.getElem?_append_left hl] at h
      obtain ⟨h1, h2⟩ := zws_lt M n k q h
      exact ⟨by omega, h2⟩
    · rw [List.getElem?_append_right (by omega)] at h
      cases hM : M n with
      | none => rw [hM] at h; simp at h
      | some e =>
        rw [hM] at h
        have hz : k - (zws M n).length < 1 := (List.getElem?_eq_some_iff.mp h).1
        rw [show k - (zws M n).length = 0 by omega] at h
        cases h
        exact ⟨by show n < n + 1; omega, hM⟩
theorem zws_in (M : zVw) : ∀ (n a : Nat) (e : va_E), a < n → M a = some e → ∃ k : Nat, (zws M n)[k]? = some (a, e)
  | 0, a, e, h, _ => absurd h (by omega)
  | n + 1, a, e, h, hM => by
    by_cases ha : a < n
    · obtain ⟨k, hk⟩ := zws_in M n a e ha hM
      refine ⟨k, ?_⟩
      unfold zws
      rw [List.getElem?_append_left (List.getElem?_eq_some_iff.mp hk).1]
      exact hk
    · have e1 : a = n := by omega
      subst e1
      refine ⟨(zws M a).length, ?_⟩
      show (zws M a ++ (match M a with | some e => [(a, e)] | none => []))[(zws M a).length]? = _
      rw [List.getElem?_append_right (Nat.le_refl _), hM, Nat.sub_self]
      rfl
theorem zws_nd (M : zVw) : ∀ (n i j : Nat) (p q : Nat × va_E), (zws M n)[i]? = some p → (zws M n)[j]? = some q → p.1 = q.1 → i = j
  | 0, i, j, p, q, h, _, _ => by simp [zws] at h
  | n + 1, i, j, p, q, hi, hj, hpq => by
    have key : ∀ (k : Nat) (x : Nat × va_E), (zws M (n + 1))[k]? = some x → ((zws M n)[k]? = some x ∧ x.1 < n) ∨ (k = (zws M n).length ∧ x.1 = n) := by
      intro k x h
      unfold zws at h
      by_cases hl : k < (zws M n).length
      · rw [List.getElem?_append_left hl] at h
        exact Or.inl ⟨h, (zws_lt M n k x h).1⟩
      · rw [List.getElem?_append_right (by omega)] at h
        cases hM : M n with
        | none => rw [hM] at h; simp at h
        | some e =>
          rw [hM] at h
          have hz : k - (zws M n).length < 1 := (List.getElem?_eq_some_iff.mp h).1
          have hk : k = (zws M n).length := by omega
          rw [show k - (zws M n).length = 0 by omega] at h
          cases h
          exact Or.inr ⟨hk, rfl⟩
    rcases key i p hi with ⟨a1, a2⟩ | ⟨a1, a2⟩ <;> rcases key j q hj with ⟨b1, b2⟩ | ⟨b1, b2⟩
    · exact zws_nd M n i j p q a1 b1 hpq
    · omega
    · omega
    · omega
/-- a view as one of the kit's lists of cells, so that the kit's rows serve views -/
theorem zv_ws {D : va_G} {cl : List vw_C} {M : zVw} {H : Heap} {z : Nat} (h : zhv D cl M H) (hd : zhd z M) :
    ∃ ws : va_W, va_P D cl ws H ∧ va_D (fun q => z ≤ q) ws ∧ (∀ (a : Nat) (e : va_E), M a = some e → ∃ k : Nat, ws[k]? = some (a, e)) ∧
      (∀ (k a : Nat) (e0 e : va_E) (H1 : Heap), ws[k]? = some (a, e0) → va_P D cl (ws.set k (a, e)) H1 → zhv D cl (zu M a e) H1) ∧
      (∀ (q : Nat) (e : va_E) (H1 : Heap), va_P D cl (ws ++ [(q, e)]) H1 → zhv D cl (zu M q e) H1) ∧
      (∀ (q : Nat) (e : va_E), va_D (fun q => z ≤ q) (ws ++ [(q, e)]) → M q = none ∧ z ≤ q) ∧ (∀ (k : Nat) (q : Nat × va_E), ws[k]? = some q → M q.1 = some q.2) := by
  have hin : ∀ (a : Nat) (e : va_E), M a = some e → ∃ k : Nat, (zws M H.size)[k]? = some (a, e) := fun a e hM => zws_in M H.size a e (h a e hM).lt hM
  refine ⟨zws M H.size, fun k q hk => h q.1 q.2 (zws_lt M _ k q hk).2, ⟨zws_nd M H.size, fun k q hk => hd q.1 q.2 (zws_lt M _ k q hk).2⟩, hin, ?_, ?_, ?_, fun k q hk => (zws_lt M _ k q hk).2⟩
  · intro k a e0 e H1 hk hP b e2 hb
    have hl := (List.getElem?_eq_some_iff.mp hk).1
    by_cases hba : b = a
    · subst hba
      rw [zu_s] at hb
      cases hb
      exact hP k (b, e) (by rw [List.getElem?_set_self hl])
    · rw [zu_n hba] at hb
      obtain ⟨j, hj⟩ := hin b e2 hb
      have hjk : k ≠ j := fun q => by subst q; rw [hk] at hj; cases hj; exact hba rfl
      exact hP j (b, e2) (by rw [List.getElem?_set_ne hjk]; exact hj)
  · intro q e H1 hP b e2 hb
    by_cases hbq : b = q
    · subst hbq
      rw [zu_s] at hb
      cases hb
      exact hP (zws M H.size).length (b, e) (by rw [List.getElem?_append_right (Nat.le_refl _), Nat.sub_self]; rfl)
    · rw [zu_n hbq] at hb
      obtain ⟨j, hj⟩ := hin b e2 hb
      exact hP j (b, e2) (by rw [List.getElem?_append_left (List.getElem?_eq_some_iff.mp hj).1]; exact hj)
  · intro q e hD
    have hlast : (zws M H.size ++ [(q, e)])[(zws M H.size).length]? = some (q, e) := by rw [List.getElem?_append_right (Nat.le_refl _), Nat.sub_self]; rfl
    refine ⟨?_, hD.2 _ _ hlast⟩
    cases hM : M q with
    | none => rfl
    | some e2 =>
      obtain ⟨j, hj⟩ := hin q e2 hM
      have hjl := (List.getElem?_eq_some_iff.mp hj).1
      have := hD.1 j _ (q, e2) (q, e) (by rw [List.getElem?_append_left hjl]; exact hj) hlast rfl
      omega
theorem zhd_u {z a : Nat} {M : zVw} {e : va_E} (h : zhd z M) (ha : z ≤ a) : zhd z (zu M a e) := by
  intro q e2 hq
  by_cases hqa : q = a
  · subst hqa; exact ha
  · rw [zu_n hqa] at hq
    exact h q e2 hq
end
section
/-! THE JUDGEMENT over views (zJ), and a program that walks straight code and branches (zseg): what it leaves is pure. Written by wip/whole/genseg.py. -/
abbrev zK : Type := Nat → List (Nat × Value) → List Value → zVw → Nat → Nat → Prop
def zJ (p : Program) (l : Launch) (e : Env) (R : Room) (s : State) (m : MethodId) (args : Array Value) (below : List Frame) (meth : Method) (c : Code) (Q : State → Prop) (nL z : Nat) (D : va_G) : zK := fun pc loc st M k n =>
  ∀ (H : Heap) (locs : List Loc) (ls : Array Slot), zhv D kc M H → zhd z M → va_S (fun q => z ≤ q) s.heap H locs → lv_has ls nL loc → W p l e R s m args below meth c H locs k n Q (F0 m pc ls st)
/-- words that are moved one by one -/
def zNk : Cond → Bool
  | .methodLinkNest .. => true
  | .castable .. => true
  | .declares _ => true
  | _ => false
theorem zNk_warm {w : Cond} {s U : State} (hk : zNk w = true) (hW : s.WarmedH U.vm) (h : va_Nw w s) : va_Nw w U := by
  cases w <;> first | exact va_Nw.warmM hW h | exact va_Nw.warmC hW h | exact va_Nw.warmD hW h | cases hk
theorem zNk_on {w : Cond} (hk : zNk w = true) : w.onTables = true := by
  cases w <;> first | rfl | cases hk
theorem tx_k : ∀ w ∈ tx, zNk w = true := by
  have h : tx.all zNk = true := by decide +kernel
  exact fun w hw => List.all_eq_true.mp h w hw
/-- what the start gives of things that nobody writes: the empty array of ArrayList (its address: dA 100), the mirror of Object[] (dA 101), the words of tx -/
def zX (dA : Nat → ClassId) (z : Nat) (U : State) : Prop := va_Z "java/util/ArrayList" "DEFAULTCAPACITY_EMPTY_ELEMENTDATA" "[Ljava/lang/Object;" (.ref (dA 100)) (fun q => z ≤ q) U U.heap ∧ va_T (.object "java/lang/Object") (dA 100) 0 (fun _ => .null) (fun q => z ≤ q) U U.heap ∧ va_Mi "[Ljava/lang/Object;" (dA 101) U ∧ (∀ w ∈ tx, va_Nw w U) ∧ va_AO "DoorActs$Device" U ∧ va_AO "java/lang/Object" U
theorem zX_to {dA : Nat → ClassId} {z : Nat} {s t : State} {H : Heap} {locs : List Loc} (h : zX dA z s) (hW : s.WarmedH t.vm) (hS : va_S (fun q => z ≤ q) s.heap H locs) (ht : t.heap = H) : zX dA z t := by
  subst ht
  exact ⟨(h.1.kept (fun a h1 h2 => hS.2.1 a h1 h2)).moved hW.alike, (h.2.1.kept (fun a h1 h2 => hS.2.1 a h1 h2)).moved hW.alike, h.2.2.1.moved hW.alike, fun w hw => zNk_warm (tx_k w hw) hW (h.2.2.2.1 w hw), h.2.2.2.2.1.moved hW.alike, h.2.2.2.2.2.moved hW.alike⟩
theorem zX_same {dA : Nat → ClassId} {z : Nat} {s t : State} (h : zX dA z s) (hvm : s.vm = t.vm) (ht : t.heap = s.heap) : zX dA z t := by
  have ha : s.vm.Alike t.vm := by rw [hvm]; exact Vm.Alike.refl _
  refine ⟨?_, ?_, h.2.2.1.moved ha, fun w hw => va_Nw.same (zNk_on (tx_k w hw)) hvm (h.2.2.2.1 w hw), h.2.2.2.2.1.moved ha, h.2.2.2.2.2.moved ha⟩
  · rw [ht]; exact h.1.moved ha
  · rw [ht]; exact h.2.1.moved ha
def zC (p : Program) (s : State) (m : MethodId) (args : Array Value) (meth : Method) (c : Code) (own : String) (cc : ByteArray) (nL z : Nat) (D : va_G) (dA : Nat → ClassId) (ini : Bool) : Prop :=
  p.tables.exec = Jvm.exec ∧ c.code = cc ∧ c.maxLocals = nL ∧ s.vm.findClass own = some m.cls ∧ (∀ w ∈ tb, w.before args s = true) ∧ meth.locks = false ∧ va_K D kc (kt dA) s ∧ z ≤ s.heap.size ∧ (ini = true → meth.name = "<init>") ∧ zX dA z s
/-- locals -/
def zlg : List (Nat × Value) → Nat → Option Value
  | [], _ => none
  | (j, v) :: l, i => bif j == i then some v else zlg l i
def zw (v : Value) : Bool := v.category == 2
def zlr : List (Nat × Value) → Nat → List (Nat × Value)
  | [], _ => []
  | (j, v) :: l, i => bif j == i || (j + 1 == i && zw v) then zlr l i else (j, v) :: zlr l i
theorem zlg_at {ls : Array Slot} {nL : Nat} : ∀ {loc : List (Nat × Value)} {i : Nat} {v : Value}, lv_has ls nL loc → zlg loc i = some v → ls[i]? = some (.val v)
  | [], i, v, _, h => by simp [zlg] at h
  | (j, w) :: loc, i, v, hl, h => by
    unfold zlg at h
    cases hj : (j == i) with
    | true =>
      rw [hj] at h
      have e1 : j = i := by simpa using hj
      cases h
      subst e1
      exact hl.2.2 (j, w) List.mem_cons_self
    | false =>
      rw [hj] at h
      exact zlg_at (loc := loc) ⟨hl.1, hl.2.1, fun q hq => hl.2.2 q (List.mem_cons_of_mem _ hq)⟩ h
theorem zlr_eq : ∀ (loc : List (Nat × Value)) (i : Nat), loc.filter (fun q => !(q.1 == i) && !(q.1 + 1 == i && q.2.category == 2)) = zlr loc i
  | [], i => rfl
  | (j, v) :: l, i => by
    unfold zlr
    rw [← zlr_eq l i]
    unfold zw
    cases h1 : (j == i) <;> cases h2 : (j + 1 == i) <;> cases h3 : (v.category == 2) <;> simp [List.filter_cons, h1, h2, h3]
def zl2 : List (Nat × Value) → Nat → List (Nat × Value)
  | [], _ => []
  | (j, v) :: l, i => bif j == i || (j == i + 1 || (j + 1 == i && zw v)) then zl2 l i else (j, v) :: zl2 l i
theorem zl2_eq : ∀ (loc : List (Nat × Value)) (i : Nat), loc.filter (fun q => !(q.1 == i) && (!(q.1 == i + 1) && !(q.1 + 1 == i && q.2.category == 2))) = zl2 loc i
  | [], i => rfl
  | (j, v) :: l, i => by
    unfold zl2
    rw [← zl2_eq l i]
    unfold zw
    cases h1 : (j == i) <;> cases h4 : (j == i + 1) <;> cases h2 : (j + 1 == i) <;> cases h3 : (v.category == 2) <;> simp [List.filter_cons, h1, h2, h3, h4]
/-- options -/
def zvo : Option Value → Value
  | some v => v
  | none => .null
def zso : Option Value → Bool
  | some _ => true
  | none => false
def zsI : Option Value → Bool
  | some (.int _) => true
  | _ => false
def zsL : Option Value → Bool
  | some (.long _) => true
  | _ => false
def zsA : Option Value → Bool
  | some (.ref _) => true
  | some .null => true
  | _ => false
def zin : Option Value → Int32
  | some (.int x) => x
  | _ => 0
theorem zsI_sp {o : Option Value} (h : zsI o = true) : ∃ x, o = some (.int x) := by
  rcases o with _ | v
  · cases h
  · cases v <;> first | exact ⟨_, rfl⟩ | cases h
theorem zsL_sp {o : Option Value} (h : zsL o = true) : ∃ x, o = some (.long x) := by
  rcases o with _ | v
  · cases h
  · cases v <;> first | exact ⟨_, rfl⟩ | cases h
theorem zsA_sp {o : Option Value} (h : zsA o = true) : (∃ x, o = some (.ref x)) ∨ o = some .null := by
  rcases o with _ | v
  · cases h
  · cases v <;> first | exact Or.inl ⟨_, rfl⟩ | exact Or.inr rfl | cases h
/-- fields: which class and slot and kind (0 int, 1 long, 2 boolean, 3 a reference; 10 more: final) -/
def zrd : Option (Nat × Nat × Nat) → Option va_E → Option Value
  | some (ci, f, _), some (.inr (c, fs)) => bif c == ci then fs[f]? else none
  | _, _ => none
def zwr : Option (Nat × Nat × Nat) → Option va_E → Value → va_E
  | some (_, f, _), some (.inr (c, fs)), v => .inr (c, fs.set f v)
  | _, _, v => .inr (0, [v])
def zkv (ini : Bool) : Nat → Value → Prop
  | 0, .int _ => True
  | 1, .long _ => True
  | 2, .int x => x = 0 ∨ x = 1
  | 3, .ref _ => True
  | 3, .null => True
  | 10, .int _ => ini = true
  | 11, .long _ => ini = true
  | 12, .int x => ini = true ∧ (x = 0 ∨ x = 1)
  | 13, .ref _ => ini = true
  | 13, .null => ini = true
  | _, _ => False
def zkf (ini : Bool) : Option (Nat × Nat × Nat) → Value → Prop
  | some (_, _, kd), v => zkv ini kd v
  | _, _ => False
/-- arrays -/
def zai : Option va_E → ClassId → Int32 → Prop
  | some (.inl (c, n, .inl _)), cA, i => c = cA ∧ vp_in i n
  | _, _, _ => False
def zaf : Option va_E → Nat → Int32
  | some (.inl (_, _, .inl f)), j => f j
  | _, _ => 0
def zaw : Option va_E → Nat → Int32 → va_E
  | some (.inl (c, n, .inl f)), j, x => .inl (c, n, .inl (upd f j x))
  | _, _, x => .inr (0, [.int x])
def zaL : Option va_E → ClassId → Int32 → Prop
  | some (.inl (c, n, .inr (.inl _))), cA, i => c = cA ∧ vp_in i n
  | _, _, _ => False
def zLf : Option va_E → Nat → Int64
  | some (.inl (_, _, .inr (.inl f))), j => f j
  | _, _ => 0
def zLw : Option va_E → Nat → Int64 → va_E
  | some (.inl (c, n, .inr (.inl f))), j, x => .inl (c, n, .inr (.inl (vp_updL f j x)))
  | _, _, x => .inr (0, [.long x])
def zal (dA : Nat → ClassId) : Option va_E → Prop
  | some (.inl (c, _)) => ∃ (t : Nat) (ty : FieldType), (kt dA)[t]? = some (c, ty)
  | _ => False
def zan : Option va_E → Nat
  | some (.inl (_, n, _)) => n
  | _ => 0
def zaq (dA : Nat → ClassId) : Option va_E → Int32 → Prop
  | some (.inl (c, n, .inr (.inr (.inr (.inr _))))), i => (∃ (t : Nat) (C : String), (kt dA)[t]? = some (c, .object C)) ∧ vp_in i n
  | _, _ => False
def zag : Option va_E → Nat → Option Nat
  | some (.inl (_, _, .inr (.inr (.inr (.inr f))))), j => f j
  | _, _ => none
/-- the answer of a method: 1 int, 2 boolean, 3 a reference, 4 long -/
def zri : Nat → Int32 → Prop
  | 1, _ => True
  | 2, x => x = 0 ∨ x = 1
  | _, _ => False
def zt (pc : Nat) (off : Int) : Nat := ((pc : Int) + off).toNat
def zo (pc : Nat) (off : Int) : Prop := 0 ≤ (pc : Int) + off
theorem zt_ok {pc : Nat} {off : Int} (h : zo pc off) : (pc : Int) + off = ((zt pc off : Nat) : Int) := by
  unfold zo at h; unfold zt; omega
def zswk (lo hi : Int) (offs : Array Int) : Prop := hi - lo + 1 = offs.toList.length
def zswl (K : Nat → Prop) (pc : Nat) (x : Int) : Int → List Int → Prop
  | _, [] => True
  | v, o :: os => (x = v → zo pc o ∧ K (zt pc o)) ∧ zswl K pc x (v + 1) os
theorem zswl_mono {K K' : Nat → Prop} {pc : Nat} {x : Int} (h : ∀ t, K t → K' t) : ∀ {os : List Int} {v : Int}, zswl K pc x v os → zswl K' pc x v os
  | [], _, _ => trivial
  | _ :: _, _, hh => ⟨fun e => ⟨(hh.1 e).1, h _ (hh.1 e).2⟩, zswl_mono h hh.2⟩
theorem zswl_at {K : Nat → Prop} {pc : Nat} {x : Int} : ∀ {os : List Int} {v : Int}, zswl K pc x v os → v ≤ x → x < v + os.length → ∃ o, os[(x - v).toNat]? = some o ∧ zo pc o ∧ K (zt pc o)
  | [], v, _, h1, h2 => absurd h2 (by simp; omega)
  | o :: os, v, hh, h1, h2 => by
    by_cases e : x = v
    · subst e
      exact ⟨o, by rw [Int.sub_self]; rfl, hh.1 rfl⟩
    · obtain ⟨o2, q1, q2⟩ := zswl_at (v := v + 1) hh.2 (by omega) (by rw [List.length_cons] at h2; omega)
      refine ⟨o2, ?_, q2⟩
      rw [show (x - v).toNat = (x - (v + 1)).toNat + 1 by omega, List.getElem?_cons_succ]
      exact q1
def zf4 (k : Fin 4) : Nat := k.val
def zst5 (fl : Nat → Option (Nat × Nat × Nat)) (lc : Nat → Option Int32) (ll : Nat → Option Int64) (dA : Nat → ClassId) (rt : Nat) (ini : Bool) (nL : Nat) (Jk K : zK) (post : Option Value → zVw → Nat → Nat → Prop) (i : Instr) (len : Nat) : zK := fun pc loc st M k n =>
  match i with
  | .areturn => match st with
    | [.ref v] => rt = 3 ∧ post (some (.ref v)) M k n
    | [.null] => rt = 3 ∧ post (some .null) M k n
    | _ => False
  | .return_ => match st with
    | [] => rt = 0 ∧ post none M k n
    | _ => False
  | _ => Jk pc loc st M k n
def zst4 (fl : Nat → Option (Nat × Nat × Nat)) (lc : Nat → Option Int32) (ll : Nat → Option Int64) (dA : Nat → ClassId) (rt : Nat) (ini : Bool) (nL : Nat) (Jk K : zK) (post : Option Value → zVw → Nat → Nat → Prop) (i : Instr) (len : Nat) : zK := fun pc loc st M k n =>
  match i with
  | .tableswitch d lo hi offs => match st with
    | .int x :: r => zswk lo hi offs ∧ (x.toInt < lo ∨ hi < x.toInt → zo pc d ∧ K (zt pc d) loc r M k n) ∧ zswl (fun t => K t loc r M k n) pc x.toInt lo offs.toList
    | _ => False
  | .iinc x v => zsI (zlg loc x) = true ∧ x < nL ∧ K (pc + len) ((x, .int (zin (zlg loc x) + Int32.ofInt v)) :: zlr loc x) st M k n
  | .getfield x => match st with
    | .ref a :: r => zso (zrd (fl x) (M a)) = true ∧ K (pc + len) loc (zvo (zrd (fl x) (M a)) :: r) M k n
    | _ => False
  | .putfield x => match st with
    | v :: .ref a :: r => zso (zrd (fl x) (M a)) = true ∧ zkf ini (fl x) v ∧ K (pc + len) loc r (zu M a (zwr (fl x) (M a) v)) k n
    | _ => False
  | .iaload => match st with
    | .int i :: .ref a :: r => zai (M a) (dA 0) i ∧ K (pc + len) loc (.int (zaf (M a) i.toNatClampNeg) :: r) M k n
    | _ => False
  | .iastore => match st with
    | .int x :: .int i :: .ref a :: r => zai (M a) (dA 0) i ∧ K (pc + len) loc r (zu M a (zaw (M a) i.toNatClampNeg x)) k n
    | _ => False
  | .laload => match st with
    | .int i :: .ref a :: r => zaL (M a) (dA 3) i ∧ K (pc + len) loc (.long (zLf (M a) i.toNatClampNeg) :: r) M k n
    | _ => False
  | .lastore => match st with
    | .long x :: .int i :: .ref a :: r => zaL (M a) (dA 3) i ∧ K (pc + len) loc r (zu M a (zLw (M a) i.toNatClampNeg x)) k n
    | _ => False
  | .baload => match st with
    | .int i :: .ref a :: r => zai (M a) (dA 4) i ∧ K (pc + len) loc (.int (zaf (M a) i.toNatClampNeg) :: r) M k n
    | _ => False
  | .bastore => match st with
    | .int x :: .int i :: .ref a :: r => zai (M a) (dA 4) i ∧ (x = 0 ∨ x = 1) ∧ K (pc + len) loc r (zu M a (zaw (M a) i.toNatClampNeg x)) k n
    | _ => False
  | .arraylength => match st with
    | .ref a :: r => zal dA (M a) ∧ K (pc + len) loc (.int (Int32.ofNat (zan (M a))) :: r) M k n
    | _ => False
  | .aaload => match st with
    | .int i :: .ref a :: r => zaq dA (M a) i ∧ K (pc + len) loc (va_rf (zag (M a) i.toNatClampNeg) :: r) M k n
    | _ => False
  | .ireturn => match st with
    | [.int v] => zri rt v ∧ post (some (.int v)) M k n
    | _ => False
  | .lreturn => match st with
    | [.long v] => rt = 4 ∧ post (some (.long v)) M k n
    | _ => False
  | _ => zst5 fl lc ll dA rt ini nL Jk K post i len pc loc st M k n
def zst3 (fl : Nat → Option (Nat × Nat × Nat)) (lc : Nat → Option Int32) (ll : Nat → Option Int64) (dA : Nat → ClassId) (rt : Nat) (ini : Bool) (nL : Nat) (Jk K : zK) (post : Option Value → zVw → Nat → Nat → Prop) (i : Instr) (len : Nat) : zK := fun pc loc st M k n =>
  match i with
  | .ifCond .ne off => match st with
    | .int x :: r => zo pc off ∧ (¬ x = 0 → K (zt pc off) loc r M k n) ∧ (x = 0 → K (pc + len) loc r M k n)
    | _ => False
  | .ifCond .lt off => match st with
    | .int x :: r => zo pc off ∧ (x < 0 → K (zt pc off) loc r M k n) ∧ (¬ x < 0 → K (pc + len) loc r M k n)
    | _ => False
  | .ifCond .ge off => match st with
    | .int x :: r => zo pc off ∧ (0 ≤ x → K (zt pc off) loc r M k n) ∧ (¬ 0 ≤ x → K (pc + len) loc r M k n)
    | _ => False
  | .ifCond .gt off => match st with
    | .int x :: r => zo pc off ∧ (0 < x → K (zt pc off) loc r M k n) ∧ (¬ 0 < x → K (pc + len) loc r M k n)
    | _ => False
  | .ifCond .le off => match st with
    | .int x :: r => zo pc off ∧ (x ≤ 0 → K (zt pc off) loc r M k n) ∧ (¬ x ≤ 0 → K (pc + len) loc r M k n)
    | _ => False
  | .if_icmp .eq off => match st with
    | .int y :: .int x :: r => zo pc off ∧ (x = y → K (zt pc off) loc r M k n) ∧ (¬ x = y → K (pc + len) loc r M k n)
    | _ => False
  | .if_icmp .ne off => match st with
    | .int y :: .int x :: r => zo pc off ∧ (¬ x = y → K (zt pc off) loc r M k n) ∧ (x = y → K (pc + len) loc r M k n)
    | _ => False
  | .if_icmp .lt off => match st with
    | .int y :: .int x :: r => zo pc off ∧ (x < y → K (zt pc off) loc r M k n) ∧ (¬ x < y → K (pc + len) loc r M k n)
    | _ => False
  | .if_icmp .ge off => match st with
    | .int y :: .int x :: r => zo pc off ∧ (y ≤ x → K (zt pc off) loc r M k n) ∧ (¬ y ≤ x → K (pc + len) loc r M k n)
    | _ => False
  | .if_icmp .gt off => match st with
    | .int y :: .int x :: r => zo pc off ∧ (y < x → K (zt pc off) loc r M k n) ∧ (¬ y < x → K (pc + len) loc r M k n)
    | _ => False
  | .if_icmp .le off => match st with
    | .int y :: .int x :: r => zo pc off ∧ (x ≤ y → K (zt pc off) loc r M k n) ∧ (¬ x ≤ y → K (pc + len) loc r M k n)
    | _ => False
  | .ifnull off => match st with
    | .ref _ :: r => K (pc + len) loc r M k n
    | .null :: r => zo pc off ∧ K (zt pc off) loc r M k n
    | _ => False
  | .ifnonnull off => match st with
    | .ref _ :: r => zo pc off ∧ K (zt pc off) loc r M k n
    | .null :: r => K (pc + len) loc r M k n
    | _ => False
  | .goto off => zo pc off ∧ K (zt pc off) loc st M k n
  | _ => zst4 fl lc ll dA rt ini nL Jk K post i len pc loc st M k n
def zst2 (fl : Nat → Option (Nat × Nat × Nat)) (lc : Nat → Option Int32) (ll : Nat → Option Int64) (dA : Nat → ClassId) (rt : Nat) (ini : Bool) (nL : Nat) (Jk K : zK) (post : Option Value → zVw → Nat → Nat → Prop) (i : Instr) (len : Nat) : zK := fun pc loc st M k n =>
  match i with
  | .lsub => match st with
    | .long y :: .long x :: r => K (pc + len) loc (.long (x - y) :: r) M k n
    | _ => False
  | .lmul => match st with
    | .long y :: .long x :: r => K (pc + len) loc (.long (x * y) :: r) M k n
    | _ => False
  | .land => match st with
    | .long y :: .long x :: r => K (pc + len) loc (.long (x &&& y) :: r) M k n
    | _ => False
  | .lor => match st with
    | .long y :: .long x :: r => K (pc + len) loc (.long (x ||| y) :: r) M k n
    | _ => False
  | .ldiv => match st with
    | .long y :: .long x :: r => ¬ y = 0 ∧ K (pc + len) loc (.long (x / y) :: r) M k n
    | _ => False
  | .lcmp => match st with
    | .long y :: .long x :: r => K (pc + len) loc (.int (lg_cmp x y) :: r) M k n
    | _ => False
  | .i2l => match st with
    | .int x :: r => K (pc + len) loc (.long x.toInt64 :: r) M k n
    | _ => False
  | .l2i => match st with
    | .long x :: r => K (pc + len) loc (.int x.toInt32 :: r) M k n
    | _ => False
  | .lshl => match st with
    | .int y :: .long x :: r => K (pc + len) loc (.long (x <<< (y.toInt64 &&& 63)) :: r) M k n
    | _ => False
  | .dup => match st with
    | .int x :: r => K (pc + len) loc (.int x :: .int x :: r) M k n
    | .ref x :: r => K (pc + len) loc (.ref x :: .ref x :: r) M k n
    | _ => False
  | .pop => match st with
    | .int _ :: r => K (pc + len) loc r M k n
    | .ref _ :: r => K (pc + len) loc r M k n
    | .null :: r => K (pc + len) loc r M k n
    | _ => False
  | .dup_x1 => match st with
    | .int x :: .ref y :: r => K (pc + len) loc (.int x :: .ref y :: .int x :: r) M k n
    | .ref x :: .ref y :: r => K (pc + len) loc (.ref x :: .ref y :: .ref x :: r) M k n
    | _ => False
  | .dup2 => match st with
    | .int x :: .ref y :: r => K (pc + len) loc (.int x :: .ref y :: .int x :: .ref y :: r) M k n
    | _ => False
  | .ifCond .eq off => match st with
    | .int x :: r => zo pc off ∧ (x = 0 → K (zt pc off) loc r M k n) ∧ (¬ x = 0 → K (pc + len) loc r M k n)
    | _ => False
  | _ => zst3 fl lc ll dA rt ini nL Jk K post i len pc loc st M k n
def zst1 (fl : Nat → Option (Nat × Nat × Nat)) (lc : Nat → Option Int32) (ll : Nat → Option Int64) (dA : Nat → ClassId) (rt : Nat) (ini : Bool) (nL : Nat) (Jk K : zK) (post : Option Value → zVw → Nat → Nat → Prop) (i : Instr) (len : Nat) : zK := fun pc loc st M k n =>
  match i with
  | .astore_n x => match st with
    | .ref v :: r => (zf4 x) < nL ∧ K (pc + len) (((zf4 x), .ref v) :: zlr loc (zf4 x)) r M k n
    | .null :: r => (zf4 x) < nL ∧ K (pc + len) (((zf4 x), .null) :: zlr loc (zf4 x)) r M k n
    | _ => False
  | .istore x => match st with
    | .int v :: r => x < nL ∧ K (pc + len) ((x, .int v) :: zlr loc x) r M k n
    | _ => False
  | .astore x => match st with
    | .ref v :: r => x < nL ∧ K (pc + len) ((x, .ref v) :: zlr loc x) r M k n
    | .null :: r => x < nL ∧ K (pc + len) ((x, .null) :: zlr loc x) r M k n
    | _ => False
  | .lstore_n x => match st with
    | .long v :: r => (zf4 x) + 1 < nL ∧ K (pc + len) (((zf4 x), .long v) :: zl2 loc (zf4 x)) r M k n
    | _ => False
  | .lstore x => match st with
    | .long v :: r => x + 1 < nL ∧ K (pc + len) ((x, .long v) :: zl2 loc x) r M k n
    | _ => False
  | .iadd => match st with
    | .int y :: .int x :: r => K (pc + len) loc (.int (x + y) :: r) M k n
    | _ => False
  | .isub => match st with
    | .int y :: .int x :: r => K (pc + len) loc (.int (x - y) :: r) M k n
    | _ => False
  | .ishr => match st with
    | .int y :: .int x :: r => K (pc + len) loc (.int (x >>> (y &&& 31)) :: r) M k n
    | _ => False
  | .imul => match st with
    | .int y :: .int x :: r => K (pc + len) loc (.int (x * y) :: r) M k n
    | _ => False
  | .iand => match st with
    | .int y :: .int x :: r => K (pc + len) loc (.int (x &&& y) :: r) M k n
    | _ => False
  | .idiv => match st with
    | .int y :: .int x :: r => ¬ y = 0 ∧ K (pc + len) loc (.int (x / y) :: r) M k n
    | _ => False
  | .irem => match st with
    | .int y :: .int x :: r => ¬ y = 0 ∧ K (pc + len) loc (.int (x - x / y * y) :: r) M k n
    | _ => False
  | .ineg => match st with
    | .int x :: r => K (pc + len) loc (.int (-x) :: r) M k n
    | _ => False
  | .ladd => match st with
    | .long y :: .long x :: r => K (pc + len) loc (.long (x + y) :: r) M k n
    | _ => False
  | _ => zst2 fl lc ll dA rt ini nL Jk K post i len pc loc st M k n
def zst0 (fl : Nat → Option (Nat × Nat × Nat)) (lc : Nat → Option Int32) (ll : Nat → Option Int64) (dA : Nat → ClassId) (rt : Nat) (ini : Bool) (nL : Nat) (Jk K : zK) (post : Option Value → zVw → Nat → Nat → Prop) (i : Instr) (len : Nat) : zK := fun pc loc st M k n =>
  match i with
  | .aconst_null => K (pc + len) loc (.null :: st) M k n
  | .iconst v => K (pc + len) loc (.int (Int32.ofInt v) :: st) M k n
  | .bipush v => K (pc + len) loc (.int (Int8.ofInt v).toInt32 :: st) M k n
  | .sipush v => K (pc + len) loc (.int (Int16.ofInt v).toInt32 :: st) M k n
  | .lconst v => K (pc + len) loc (.long (Int64.ofNat (v : Nat)) :: st) M k n
  | .ldc x => (lc x).isSome = true ∧ K (pc + len) loc (.int ((lc x).getD 0) :: st) M k n
  | .ldc2_w x => (ll x).isSome = true ∧ K (pc + len) loc (.long ((ll x).getD 0) :: st) M k n
  | .iload_n x => zsI (zlg loc (zf4 x)) = true ∧ K (pc + len) loc (zvo (zlg loc (zf4 x)) :: st) M k n
  | .iload x => zsI (zlg loc x) = true ∧ K (pc + len) loc (zvo (zlg loc x) :: st) M k n
  | .lload_n x => zsL (zlg loc (zf4 x)) = true ∧ K (pc + len) loc (zvo (zlg loc (zf4 x)) :: st) M k n
  | .lload x => zsL (zlg loc x) = true ∧ K (pc + len) loc (zvo (zlg loc x) :: st) M k n
  | .aload_n x => zsA (zlg loc (zf4 x)) = true ∧ K (pc + len) loc (zvo (zlg loc (zf4 x)) :: st) M k n
  | .aload x => zsA (zlg loc x) = true ∧ K (pc + len) loc (zvo (zlg loc x) :: st) M k n
  | .istore_n x => match st with
    | .int v :: r => (zf4 x) < nL ∧ K (pc + len) (((zf4 x), .int v) :: zlr loc (zf4 x)) r M k n
    | _ => False
  | _ => zst1 fl lc ll dA rt ini nL Jk K post i len pc loc st M k n
def zlb (i : Instr) (len : Nat) : Bool := match i with
  | .aconst_null => len == 1
  | .iconst _ => len == 1
  | .bipush _ => len == 2
  | .sipush _ => len == 3
  | .lconst _ => len == 1
  | .ldc _ => len == 2
  | .ldc2_w _ => len == 3
  | .iload_n _ => len == 1
  | .iload _ => len == 2
  | .lload_n _ => len == 1
  | .lload _ => len == 2
  | .aload_n _ => len == 1
  | .aload _ => len == 2
  | .istore_n _ => len == 1
  | .astore_n _ => len == 1
  | .istore _ => len == 2
  | .astore _ => len == 2
  | .lstore_n _ => len == 1
  | .lstore _ => len == 2
  | .iadd => len == 1
  | .isub => len == 1
  | .ishr => len == 1
  | .imul => len == 1
  | .iand => len == 1
  | .idiv => len == 1
  | .irem => len == 1
  | .ineg => len == 1
  | .ladd => len == 1
  | .lsub => len == 1
  | .lmul => len == 1
  | .land => len == 1
  | .lor => len == 1
  | .ldiv => len == 1
  | .lcmp => len == 1
  | .i2l => len == 1
  | .l2i => len == 1
  | .lshl => len == 1
  | .dup => len == 1
  | .pop => len == 1
  | .dup_x1 => len == 1
  | .dup2 => len == 1
  | .ifCond .eq _ => len == 3
  | .ifCond .ne _ => len == 3
  | .ifCond .lt _ => len == 3
  | .ifCond .ge _ => len == 3
  | .ifCond .gt _ => len == 3
  | .ifCond .le _ => len == 3
  | .if_icmp .eq _ => len == 3
  | .if_icmp .ne _ => len == 3
  | .if_icmp .lt _ => len == 3
  | .if_icmp .ge _ => len == 3
  | .if_icmp .gt _ => len == 3
  | .if_icmp .le _ => len == 3
  | .ifnull _ => len == 3
  | .ifnonnull _ => len == 3
  | .goto _ => len == 3
  | .tableswitch _ _ _ _ => true
  | .iinc _ _ => len == 3
  | .getfield _ => len == 3
  | .putfield _ => len == 3
  | .iaload => len == 1
  | .iastore => len == 1
  | .laload => len == 1
  | .lastore => len == 1
  | .baload => len == 1
  | .bastore => len == 1
  | .arraylength => len == 1
  | .aaload => len == 1
  | .ireturn => len == 1
  | .lreturn => len == 1
  | .areturn => len == 1
  | .return_ => len == 1
  | _ => false
section ZS
variable {p : Program} {l : Launch} {e : Env} {R : Room} {s : State} {m : MethodId} {args : Array Value} {below : List Frame} {meth : Method} {c : Code} {Q : State → Prop} {own : String} {cc : ByteArray} {nL z : Nat} {D : va_G} {dA : Nat → ClassId} {ini : Bool} {fl : Nat → Option (Nat × Nat × Nat)} {lc : Nat → Option Int32} {ll : Nat → Option Int64} {rt : Nat} {K : zK} {post : Option Value → zVw → Nat → Nat → Prop} {pc k n : Nat} {loc : List (Nat × Value)} {M : zVw} {r : List Value}
theorem zJ_iinc {x : Nat} {v : Int} {w : Int32} {st : List Value} (C : zC p s m args meth c own cc nL z D dA ini) (hd : decode cc pc = .ok (.iinc x v, 3)) (hw : zlg loc x = some (.int w)) (hx : x < nL) (h : (zJ p l e R s m args below meth c Q nL z D) (pc + 3) ((x, .int (w + Int32.ofInt v)) :: zlr loc x) st M k n) : (zJ p l e R s m args below meth c Q nL z D) pc loc st M k n := by
  intro H locs ls hv hz hS hl
  have hmem : ∀ {loc : List (Nat × Value)}, zlg loc x = some (.int w) → ∃ j : Nat, loc[j]? = some (x, Value.int w) := by
    intro loc
    induction loc with
    | nil => intro h; simp [zlg] at h
    | cons q loc ih =>
      obtain ⟨j, u⟩ := q
      intro h
      unfold zlg at h
      cases hj : (j == x) with
      | true =>
        rw [hj] at h
        have e1 : j = x := by simpa using hj
        cases h
        subst e1
        exact ⟨0, rfl⟩
      | false =>
        rw [hj] at h
        obtain ⟨j2, h2⟩ := ih h
        exact ⟨j2 + 1, by rw [List.getElem?_cons_succ]; exact h2⟩
  obtain ⟨j, hj⟩ := hmem hw
  exact lv_iinc C.1 C.2.1 hd hl hj rfl hx (congrArg (List.cons _) (zlr_eq _ _)) (fun ls' hl' => h H locs ls' hv hz hS hl')
theorem zJ_tsw {d lo hi : Int} {offs : Array Int} {len : Nat} {x : Int32} (C : zC p s m args meth c own cc nL z D dA ini) (hd : decode cc pc = .ok (.tableswitch d lo hi offs, len)) (hk : zswk lo hi offs) (h0 : x.toInt < lo ∨ hi < x.toInt → zo pc d ∧ (zJ p l e R s m args below meth c Q nL z D) (zt pc d) loc r M k n) (h1 : zswl (fun t => (zJ p l e R s m args below meth c Q nL z D) t loc r M k n) pc x.toInt lo offs.toList) : (zJ p l e R s m args below meth c Q nL z D) pc loc (.int x :: r) M k n := by
  intro H locs ls hv hz hS hl
  by_cases hc : x.toInt < lo ∨ hi < x.toInt
  · exact lv_tableOut C.1 C.2.1 hd hc (zt_ok (h0 hc).1) ((h0 hc).2 H locs ls hv hz hS hl)
  · have a1 : ¬ x.toInt < lo := fun q => hc (Or.inl q)
    have a2 : ¬ hi < x.toInt := fun q => hc (Or.inr q)
    unfold zswk at hk
    obtain ⟨o, q1, q2, q3⟩ := zswl_at h1 (by omega) (by omega)
    rw [Array.getElem?_toList] at q1
    exact lv_tableIn C.1 C.2.1 hd a1 a2 q1 (zt_ok q2) (q3 H locs ls hv hz hS hl)
/-- the fields of a class's pool: what the table says of an index is so by the words -/
def zfl (own : String) (fl : Nat → Option (Nat × Nat × Nat)) : Prop := ∀ (x ci f kd : Nat), fl x = some (ci, f, kd) → ∃ (r : vw_C) (ref : String) (ty0 : Nat → FieldType), kc[ci]? = some r ∧ f < r.2.2 ∧ Cond.fieldLink own x ref (r.2.1 f).2.1 (r.2.1 f).2.2.1 ∈ tb ∧ (ref = (r.2.1 f).1 ∨ Cond.sameField ref (r.2.1 f).1 (r.2.1 f).2.1 (r.2.1 f).2.2.1 ∈ tb) ∧ (∀ w ∈ u_ws r.1 r.2.1 r.2.2, w ∈ tb) ∧ (∀ j, j < r.2.2 → parseFieldDescriptor (r.2.1 j).2.2.1 = some (ty0 j)) ∧ (∀ a, a < r.2.2 → ∀ b, b < r.2.2 → a ≠ b → (r.2.1 a).2.1 ≠ (r.2.1 b).2.1) ∧
  ((kd = 0 ∧ ty0 f = .int ∧ (r.2.1 f).2.2.2 = false) ∨ (kd = 1 ∧ ty0 f = .long ∧ (r.2.1 f).2.2.2 = false) ∨ (kd = 2 ∧ ty0 f = .boolean ∧ (r.2.1 f).2.2.2 = false) ∨ (kd = 3 ∧ ((∃ C, ty0 f = .object C) ∨ ∃ t, ty0 f = .array t) ∧ (r.2.1 f).2.2.2 = false) ∨
   (kd = 10 ∧ ty0 f = .int ∧ (r.2.1 f).2.2.2 = true ∧ (r.2.1 f).1 = own) ∨ (kd = 11 ∧ ty0 f = .long ∧ (r.2.1 f).2.2.2 = true ∧ (r.2.1 f).1 = own) ∨ (kd = 12 ∧ ty0 f = .boolean ∧ (r.2.1 f).2.2.2 = true ∧ (r.2.1 f).1 = own) ∨ (kd = 13 ∧ ((∃ C, ty0 f = .object C) ∨ ∃ t, ty0 f = .array t) ∧ (r.2.1 f).2.2.2 = true ∧ (r.2.1 f).1 = own) ∨ kd = 20)
def zlk (own : String) (fl : Nat → Option (Nat × Nat × Nat)) (lc : Nat → Option Int32) (ll : Nat → Option Int64) : Prop := zfl own fl ∧ (∀ x v, lc x = some v → Cond.constant own x v ∈ tb) ∧ ∀ x v, ll x = some v → Cond.constantLong own x v ∈ tb
theorem zrd_sp {o : Option (Nat × Nat × Nat)} {q : Option va_E} (h : zso (zrd o q) = true) : ∃ (ci f kd : Nat) (fs : List Value) (v : Value), o = some (ci, f, kd) ∧ q = some (.inr (ci, fs)) ∧ fs[f]? = some v := by
  rcases o with _ | ⟨ci, f, kd⟩
  · cases h
  · rcases q with _ | (a | ⟨c, fs⟩)
    · cases h
    · cases h
    · have h : zso (bif c == ci then fs[f]? else none) = true := h
      cases hc : (c == ci) with
      | false => rw [hc] at h; cases h
      | true =>
        rw [hc] at h
        have h : zso fs[f]? = true := h
        have e1 : c = ci := by simpa using hc
        cases hf : fs[f]? with
        | none => rw [hf] at h; cases h
        | some v => exact ⟨ci, f, kd, fs, v, rfl, by rw [e1], hf⟩
theorem zrd_eq {ci f kd : Nat} {fs : List Value} : zrd (some (ci, f, kd)) (some (.inr (ci, fs))) = fs[f]? := by
  show (bif ci == ci then fs[f]? else none) = fs[f]?
  rw [beq_self_eq_true]
  rfl
theorem zJ_get {x a : Nat} (C : zC p s m args meth c own cc nL z D dA ini) (L : zfl own fl) (hd : decode cc pc = .ok (.getfield x, 3)) (h1 : zso (zrd (fl x) (M a)) = true) (h : (zJ p l e R s m args below meth c Q nL z D) (pc + 3) loc (zvo (zrd (fl x) (M a)) :: r) M k n) : (zJ p l e R s m args below meth c Q nL z D) pc loc (.ref a :: r) M k n := by
  intro H locs ls hv hz hS hl
  obtain ⟨ci, f, kd, fs, v, e1, e2, e3⟩ := zrd_sp h1
  rw [e1, e2, zrd_eq, e3] at h
  obtain ⟨q, ref, ty0, g1, g2, g3, g4, g5, -⟩ := L x ci f kd e1
  obtain ⟨ws, hP, hD, hin, -⟩ := zv_ws hv hz
  obtain ⟨j, hj⟩ := hin a _ e2
  refine va_get (D := D) (ci := ci) (v := v) (C := q.1) (T := q.2.1) (N := q.2.2) C.1 C.2.1 C.2.2.2.2.1 g5 C.2.2.2.1 C.2.2.2.2.2.2.1 hP j hj g1 f g2 (C.2.2.2.2.1 _ g3) ?_ e3 hd (h H locs ls hv hz hS hl)
  rcases g4 with g4 | g4
  · intro y hy; rw [g4]; exact hy
  · exact u_same (C.2.2.2.2.1 _ g4)
theorem zJ_put {x a : Nat} {v : Value} (C : zC p s m args meth c own cc nL z D dA ini) (L : zfl own fl) (hd : decode cc pc = .ok (.putfield x, 3)) (h1 : zso (zrd (fl x) (M a)) = true) (h2 : zkf ini (fl x) v) (h : (zJ p l e R s m args below meth c Q nL z D) (pc + 3) loc r (zu M a (zwr (fl x) (M a) v)) k n) : (zJ p l e R s m args below meth c Q nL z D) pc loc (v :: .ref a :: r) M k n := by
  intro H locs ls hv hz hS hl
  obtain ⟨ci, f, kd, fs, v0, e1, e2, e3⟩ := zrd_sp h1
  rw [e1, e2] at h
  rw [e1] at h2
  have h2 : zkv ini kd v := h2
  have h : (zJ p l e R s m args below meth c Q nL z D) (pc + 3) loc r (zu M a (.inr (ci, fs.set f v))) k n := h
  obtain ⟨q, ref, ty0, g1, g2, g3, g4, g5, g6, g7, g8⟩ := L x ci f kd e1
  obtain ⟨ws, hP, hD, hin, hset, -⟩ := zv_ws hv hz
  obtain ⟨j, hj⟩ := hin a _ e2
  have hfl : f < fs.length := (List.getElem?_eq_some_iff.mp e3).1
  have hsame : ∀ x, s.fieldFound? (q.2.1 f).1 (q.2.1 f).2.1 (q.2.1 f).2.2.1 = some x → s.fieldFound? ref (q.2.1 f).2.1 (q.2.1 f).2.2.1 = some x := by
    rcases g4 with g4 | g4
    · intro y hy; rw [g4]; exact hy
    · exact u_same (C.2.2.2.2.1 _ g4)
  have go : ∀ {ty : FieldType}, ty0 f = ty → (q.2.1 f).2.2.2 = false → narrow ty v = v → fits ty v = true → W p l e R s m args below meth c H locs k n Q (F0 m pc ls (v :: .ref a :: r)) := by
    intro ty hty hfin hn hf
    exact va_put (D := D) (ci := ci) (v := v) (ty := ty) (C := q.1) (T := q.2.1) (N := q.2.2) C.1 C.2.1 C.2.2.2.2.1 g5 ty0 g6 g7 C.2.2.2.1 C.2.2.2.2.2.2.1 hP hD hS j hj g1 f g2 (C.2.2.2.2.1 _ g3) hsame hfin (by rw [g6 f g2, hty]) hn hf hfl hd (fun H1 locs1 hP1 hD1 hS1 => h H1 locs1 ls (hset j a _ _ H1 hj hP1) (zhd_u hz (hz a _ e2)) hS1 hl)
  have goF : ∀ {ty : FieldType}, ty0 f = ty → (q.2.1 f).2.2.2 = true → (q.2.1 f).1 = own → ini = true → narrow ty v = v → fits ty v = true → W p l e R s m args below meth c H locs k n Q (F0 m pc ls (v :: .ref a :: r)) := by
    intro ty hty hfin hown2 hi hn hf
    exact va_putF (D := D) (ci := ci) (v := v) (ty := ty) (C := q.1) (T := q.2.1) (N := q.2.2) C.1 C.2.1 C.2.2.2.2.1 g5 ty0 g6 g7 C.2.2.2.1 C.2.2.2.2.2.2.1 hP hD hS j hj g1 f g2 (C.2.2.2.2.1 _ g3) hsame hfin (C.2.2.2.2.2.2.2.2.1 hi) hown2 (by rw [g6 f g2, hty]) hn hf hfl hd (fun H1 locs1 hP1 hD1 hS1 => h H1 locs1 ls (hset j a _ _ H1 hj hP1) (zhd_u hz (hz a _ e2)) hS1 hl)
  have bz : ∀ x : Int32, (x = 0 ∨ x = 1) → narrow .boolean (.int x) = .int x ∧ fits .boolean (.int x) = true := by
    rintro x (rfl | rfl)
    · exact ⟨by decide +kernel, by decide +kernel⟩
    · exact ⟨by decide +kernel, by decide +kernel⟩
  rcases g8 with ⟨rfl, t1, t2⟩ | ⟨rfl, t1, t2⟩ | ⟨rfl, t1, t2⟩ | ⟨rfl, t1, t2⟩ | ⟨rfl, t1, t2, t3⟩ | ⟨rfl, t1, t2, t3⟩ | ⟨rfl, t1, t2, t3⟩ | ⟨rfl, t1, t2, t3⟩ | rfl
  · cases v <;> first | exact go t1 t2 rfl rfl | exact h2.elim
  · cases v <;> first | exact go t1 t2 rfl rfl | exact h2.elim
  · cases v <;> first | exact go t1 t2 (bz _ h2).1 (bz _ h2).2 | exact h2.elim
  · rcases t1 with ⟨_, t1⟩ | ⟨_, t1⟩ <;> cases v <;> first | exact go t1 t2 rfl rfl | exact h2.elim
  · cases v <;> first | exact goF t1 t2 t3 h2 rfl rfl | exact h2.elim
  · cases v <;> first | exact goF t1 t2 t3 h2 rfl rfl | exact h2.elim
  · cases v <;> first | exact goF t1 t2 t3 h2.1 (bz _ h2.2).1 (bz _ h2.2).2 | exact h2.elim
  · rcases t1 with ⟨_, t1⟩ | ⟨_, t1⟩ <;> cases v <;> first | exact goF t1 t2 t3 h2 rfl rfl | exact h2.elim
  · cases v <;> exact h2.elim
theorem zai_sp {o : Option va_E} {cA : ClassId} {i : Int32} (h : zai o cA i) : ∃ nn f, o = some (.inl (cA, nn, .inl f)) ∧ vp_in i nn := by
  rcases o with _ | (⟨c, nn, f | f⟩ | q)
  · exact h.elim
  · obtain ⟨rfl, h2⟩ := h
    exact ⟨nn, f, rfl, h2⟩
  · exact h.elim
  · exact h.elim
theorem zJ_iald {a : Nat} {i : Int32} (C : zC p s m args meth c own cc nL z D dA ini) (hd : decode cc pc = .ok (.iaload, 1)) (h1 : zai (M a) (dA 0) i) (h : (zJ p l e R s m args below meth c Q nL z D) (pc + 1) loc (.int (zaf (M a) i.toNatClampNeg) :: r) M k n) : (zJ p l e R s m args below meth c Q nL z D) pc loc (.int i :: .ref a :: r) M k n := by
  intro H locs ls hv hz hS hl
  obtain ⟨nn, f, e2, hi⟩ := zai_sp h1
  rw [e2] at h
  obtain ⟨ws, hP, hD, hin, -⟩ := zv_ws hv hz
  obtain ⟨j, hj⟩ := hin a _ e2
  exact va_iald C.1 C.2.1 C.2.2.2.2.2.2.1 hP j 0 hj rfl hi hd (h H locs ls hv hz hS hl)
theorem zJ_iast {a : Nat} {i x : Int32} (C : zC p s m args meth c own cc nL z D dA ini) (hd : decode cc pc = .ok (.iastore, 1)) (h1 : zai (M a) (dA 0) i) (h : (zJ p l e R s m args below meth c Q nL z D) (pc + 1) loc r (zu M a (zaw (M a) i.toNatClampNeg x)) k n) : (zJ p l e R s m args below meth c Q nL z D) pc loc (.int x :: .int i :: .ref a :: r) M k n := by
  intro H locs ls hv hz hS hl
  obtain ⟨nn, f, e2, hi⟩ := zai_sp h1
  rw [e2] at h
  obtain ⟨ws, hP, hD, hin, hset, -⟩ := zv_ws hv hz
  obtain ⟨j, hj⟩ := hin a _ e2
  exact va_iast C.1 C.2.1 C.2.2.2.2.2.2.1 hP hD hS j 0 hj rfl hi hd (fun H1 locs1 hP1 hD1 hS1 => h H1 locs1 ls (hset j a _ _ H1 hj hP1) (zhd_u hz (hz a _ e2)) hS1 hl)
theorem zJ_zald {a : Nat} {i : Int32} (C : zC p s m args meth c own cc nL z D dA ini) (hd : decode cc pc = .ok (.baload, 1)) (h1 : zai (M a) (dA 4) i) (h : (zJ p l e R s m args below meth c Q nL z D) (pc + 1) loc (.int (zaf (M a) i.toNatClampNeg) :: r) M k n) : (zJ p l e R s m args below meth c Q nL z D) pc loc (.int i :: .ref a :: r) M k n := by
  intro H locs ls hv hz hS hl
  obtain ⟨nn, f, e2, hi⟩ := zai_sp h1
  rw [e2] at h
  obtain ⟨ws, hP, hD, hin, -⟩ := zv_ws hv hz
  obtain ⟨j, hj⟩ := hin a _ e2
  exact va_zald C.1 C.2.1 C.2.2.2.2.2.2.1 hP j 4 hj rfl hi hd (h H locs ls hv hz hS hl)
theorem z_narb {x : Int32} (h : x = 0 ∨ x = 1) : vp_nar .boolean x = x := by
  rcases h with rfl | rfl
  · decide +kernel
  · decide +kernel
theorem zJ_zast {a : Nat} {i x : Int32} (C : zC p s m args meth c own cc nL z D dA ini) (hd : decode cc pc = .ok (.bastore, 1)) (h1 : zai (M a) (dA 4) i) (hx : x = 0 ∨ x = 1) (h : (zJ p l e R s m args below meth c Q nL z D) (pc + 1) loc r (zu M a (zaw (M a) i.toNatClampNeg x)) k n) : (zJ p l e R s m args below meth c Q nL z D) pc loc (.int x :: .int i :: .ref a :: r) M k n := by
  intro H locs ls hv hz hS hl
  obtain ⟨nn, f, e2, hi⟩ := zai_sp h1
  rw [e2] at h
  obtain ⟨ws, hP, hD, hin, hset, -⟩ := zv_ws hv hz
  obtain ⟨j, hj⟩ := hin a _ e2
  exact va_zast C.1 C.2.1 C.2.2.2.2.2.2.1 hP hD hS j 4 hj rfl hi hd (fun H1 locs1 hP1 hD1 hS1 => h H1 locs1 ls (hset j a _ _ H1 hj (by rw [z_narb hx] at hP1; exact hP1)) (zhd_u hz (hz a _ e2)) hS1 hl)
theorem zaL_sp {o : Option va_E} {cA : ClassId} {i : Int32} (h : zaL o cA i) : ∃ nn f, o = some (.inl (cA, nn, .inr (.inl f))) ∧ vp_in i nn := by
  rcases o with _ | (⟨c, nn, f | f | f⟩ | q)
  · exact h.elim
  · exact h.elim
  · obtain ⟨rfl, h2⟩ := h
    exact ⟨nn, f, rfl, h2⟩
  · exact h.elim
  · exact h.elim
theorem zJ_lald {a : Nat} {i : Int32} (C : zC p s m args meth c own cc nL z D dA ini) (hd : decode cc pc = .ok (.laload, 1)) (h1 : zaL (M a) (dA 3) i) (h : (zJ p l e R s m args below meth c Q nL z D) (pc + 1) loc (.long (zLf (M a) i.toNatClampNeg) :: r) M k n) : (zJ p l e R s m args below meth c Q nL z D) pc loc (.int i :: .ref a :: r) M k n := by
  intro H locs ls hv hz hS hl
  obtain ⟨nn, f, e2, hi⟩ := zaL_sp h1
  rw [e2] at h
  obtain ⟨ws, hP, hD, hin, -⟩ := zv_ws hv hz
  obtain ⟨j, hj⟩ := hin a _ e2
  exact va_lald C.1 C.2.1 C.2.2.2.2.2.2.1 hP j 3 hj rfl hi hd (h H locs ls hv hz hS hl)
theorem zJ_last {a : Nat} {i : Int32} {x : Int64} (C : zC p s m args meth c own cc nL z D dA ini) (hd : decode cc pc = .ok (.lastore, 1)) (h1 : zaL (M a) (dA 3) i) (h : (zJ p l e R s m args below meth c Q nL z D) (pc + 1) loc r (zu M a (zLw (M a) i.toNatClampNeg x)) k n) : (zJ p l e R s m args below meth c Q nL z D) pc loc (.long x :: .int i :: .ref a :: r) M k n := by
  intro H locs ls hv hz hS hl
  obtain ⟨nn, f, e2, hi⟩ := zaL_sp h1
  rw [e2] at h
  obtain ⟨ws, hP, hD, hin, hset, -⟩ := zv_ws hv hz
  obtain ⟨j, hj⟩ := hin a _ e2
  exact va_last C.1 C.2.1 C.2.2.2.2.2.2.1 hP hD hS j 3 hj rfl hi hd (fun H1 locs1 hP1 hD1 hS1 => h H1 locs1 ls (hset j a _ _ H1 hj hP1) (zhd_u hz (hz a _ e2)) hS1 hl)
theorem zJ_alen {a : Nat} (C : zC p s m args meth c own cc nL z D dA ini) (hd : decode cc pc = .ok (.arraylength, 1)) (h1 : zal dA (M a)) (h : (zJ p l e R s m args below meth c Q nL z D) (pc + 1) loc (.int (Int32.ofNat (zan (M a))) :: r) M k n) : (zJ p l e R s m args below meth c Q nL z D) pc loc (.ref a :: r) M k n := by
  intro H locs ls hv hz hS hl
  cases e2 : M a with
  | none => rw [e2] at h1; exact h1.elim
  | some q =>
    rcases q with ⟨cA, nn, f⟩ | q
    · rw [e2] at h1 h
      obtain ⟨t, ty, ht⟩ := h1
      obtain ⟨ws, hP, hD, hin, -⟩ := zv_ws hv hz
      obtain ⟨j, hj⟩ := hin a _ e2
      exact va_alen C.1 C.2.1 C.2.2.2.2.2.2.1 hP j t hj ht rfl hd (h H locs ls hv hz hS hl)
    · rw [e2] at h1; exact h1.elim
theorem zaq_sp {o : Option va_E} {i : Int32} (h : zaq dA o i) : ∃ (cA : ClassId) (nn : Nat) (f : Nat → Option Nat) (t : Nat) (C : String), o = some (.inl (cA, nn, .inr (.inr (.inr (.inr f))))) ∧ (kt dA)[t]? = some (cA, .object C) ∧ vp_in i nn := by
  rcases o with _ | (⟨c, nn, f | f | f | f | f⟩ | q)
  · exact h.elim
  · exact h.elim
  · exact h.elim
  · exact h.elim
  · exact h.elim
  · obtain ⟨⟨t, C, h1⟩, h2⟩ := h
    exact ⟨c, nn, f, t, C, rfl, h1, h2⟩
  · exact h.elim
theorem zJ_aald {a : Nat} {i : Int32} (C : zC p s m args meth c own cc nL z D dA ini) (hd : decode cc pc = .ok (.aaload, 1)) (h1 : zaq dA (M a) i) (h : (zJ p l e R s m args below meth c Q nL z D) (pc + 1) loc (va_rf (zag (M a) i.toNatClampNeg) :: r) M k n) : (zJ p l e R s m args below meth c Q nL z D) pc loc (.int i :: .ref a :: r) M k n := by
  intro H locs ls hv hz hS hl
  obtain ⟨cA, nn, f, t, C0, e2, ht, hi⟩ := zaq_sp h1
  rw [e2] at h
  obtain ⟨ws, hP, hD, hin, -⟩ := zv_ws hv hz
  obtain ⟨j, hj⟩ := hin a _ e2
  exact va_aldq C.1 C.2.1 C.2.2.2.2.2.2.1 hP j t hj ht hi hd (h H locs ls hv hz hS hl)
/-- the returns: what a contract's end gives -/
def zRet (rt : Nat) (JK : zK) (cc : ByteArray) (post : Option Value → zVw → Nat → Nat → Prop) : Prop :=
  (∀ (v : Int32) {pc k n : Nat} {loc : List (Nat × Value)} {M : zVw}, zri rt v → post (some (.int v)) M k n → decode cc pc = .ok (.ireturn, 1) → JK pc loc [.int v] M k n) ∧
  (∀ (o : Option Nat) {pc k n : Nat} {loc : List (Nat × Value)} {M : zVw}, rt = 3 → post (some (va_rf o)) M k n → decode cc pc = .ok (.areturn, 1) → JK pc loc [va_rf o] M k n) ∧
  (∀ {pc k n : Nat} {loc : List (Nat × Value)} {M : zVw}, rt = 0 → post none M k n → decode cc pc = .ok (.return_, 1) → JK pc loc [] M k n) ∧
  (∀ (v : Int64) {pc k n : Nat} {loc : List (Nat × Value)} {M : zVw}, rt = 4 → post (some (.long v)) M k n → decode cc pc = .ok (.lreturn, 1) → JK pc loc [.long v] M k n)
theorem zst5_ok (C : zC p s m args meth c own cc nL z D dA ini) (L : zlk own fl lc ll) (hK : ∀ pc loc st M k n, K pc loc st M k n → (zJ p l e R s m args below meth c Q nL z D) pc loc st M k n) (hR : zRet rt (zJ p l e R s m args below meth c Q nL z D) cc post) {i : Instr} {len : Nat} {st : List Value} (hd : decode cc pc = .ok (i, len)) (hln : zlb i len = true) (h : zst5 fl lc ll dA rt ini nL (zJ p l e R s m args below meth c Q nL z D) K post i len pc loc st M k n) : (zJ p l e R s m args below meth c Q nL z D) pc loc st M k n := by
  unfold zst5 at h
  split at h
  · have hln : (len == 1) = true := hln
    have hln : len = 1 := by simpa using hln
    subst hln
    split at h
    · intro H locs ls hv hz hS hl
      exact hR.2.1 (some _) h.1 h.2 hd H locs ls hv hz hS hl
    · intro H locs ls hv hz hS hl
      exact hR.2.1 none h.1 h.2 hd H locs ls hv hz hS hl
    · exact h.elim
  · have hln : (len == 1) = true := hln
    have hln : len = 1 := by simpa using hln
    subst hln
    split at h
    · intro H locs ls hv hz hS hl
      exact hR.2.2.1 h.1 h.2 hd H locs ls hv hz hS hl
    · exact h.elim
  · exact h
theorem zst4_ok (C : zC p s m args meth c own cc nL z D dA ini) (L : zlk own fl lc ll) (hK : ∀ pc loc st M k n, K pc loc st M k n → (zJ p l e R s m args below meth c Q nL z D) pc loc st M k n) (hR : zRet rt (zJ p l e R s m args below meth c Q nL z D) cc post) {i : Instr} {len : Nat} {st : List Value} (hd : decode cc pc = .ok (i, len)) (hln : zlb i len = true) (h : zst4 fl lc ll dA rt ini nL (zJ p l e R s m args below meth c Q nL z D) K post i len pc loc st M k n) : (zJ p l e R s m args below meth c Q nL z D) pc loc st M k n := by
  unfold zst4 at h
  split at h
  · skip
    split at h
    · intro H locs ls hv hz hS hl
      exact zJ_tsw C hd h.1 (fun hc => ⟨(h.2.1 hc).1, hK _ _ _ _ _ _ (h.2.1 hc).2⟩) (zswl_mono (fun t ht => hK _ _ _ _ _ _ ht) h.2.2) H locs ls hv hz hS hl
    · exact h.elim
  · have hln : (len == 3) = true := hln
    have hln : len = 3 := by simpa using hln
    subst hln
    · intro H locs ls hv hz hS hl
      obtain ⟨h1, h2, h⟩ := h
      obtain ⟨w, hw⟩ := zsI_sp h1
      rw [hw] at h
      exact zJ_iinc C hd hw h2 (hK _ _ _ _ _ _ h) H locs ls hv hz hS hl
  · have hln : (len == 3) = true := hln
    have hln : len = 3 := by simpa using hln
    subst hln
    split at h
    · intro H locs ls hv hz hS hl
      exact zJ_get C L.1 hd h.1 (hK _ _ _ _ _ _ h.2) H locs ls hv hz hS hl
    · exact h.elim
  · have hln : (len == 3) = true := hln
    have hln : len = 3 := by simpa using hln
    subst hln
    split at h
    · intro H locs ls hv hz hS hl
      exact zJ_put C L.1 hd h.1 h.2.1 (hK _ _ _ _ _ _ h.2.2) H locs ls hv hz hS hl
    · exact h.elim
  · have hln : (len == 1) = true := hln
    have hln : len = 1 := by simpa using hln
    subst hln
    split at h
    · intro H locs ls hv hz hS hl
      exact zJ_iald C hd h.1 (hK _ _ _ _ _ _ h.2) H locs ls hv hz hS hl
    · exact h.elim
  · have hln : (len == 1) = true := hln
    have hln : len = 1 := by simpa using hln
    subst hln
    split at h
    · intro H locs ls hv hz hS hl
      exact zJ_iast C hd h.1 (hK _ _ _ _ _ _ h.2) H locs ls hv hz hS hl
    · exact h.elim
  · have hln : (len == 1) = true := hln
    have hln : len = 1 := by simpa using hln
    subst hln
    split at h
    · intro H locs ls hv hz hS hl
      exact zJ_lald C hd h.1 (hK _ _ _ _ _ _ h.2) H locs ls hv hz hS hl
    · exact h.elim
  · have hln : (len == 1) = true := hln
    have hln : len = 1 := by simpa using hln
    subst hln
    split at h
    · intro H locs ls hv hz hS hl
      exact zJ_last C hd h.1 (hK _ _ _ _ _ _ h.2) H locs ls hv hz hS hl
    · exact h.elim
  · have hln : (len == 1) = true := hln
    have hln : len = 1 := by simpa using hln
    subst hln
    split at h
    · intro H locs ls hv hz hS hl
      exact zJ_zald C hd h.1 (hK _ _ _ _ _ _ h.2) H locs ls hv hz hS hl
    · exact h.elim
  · have hln : (len == 1) = true := hln
    have hln : len = 1 := by simpa using hln
    subst hln
    split at h
    · intro H locs ls hv hz hS hl
      exact zJ_zast C hd h.1 h.2.1 (hK _ _ _ _ _ _ h.2.2) H locs ls hv hz hS hl
    · exact h.elim
  · have hln : (len == 1) = true := hln
    have hln : len = 1 := by simpa using hln
    subst hln
    split at h
    · intro H locs ls hv hz hS hl
      exact zJ_alen C hd h.1 (hK _ _ _ _ _ _ h.2) H locs ls hv hz hS hl
    · exact h.elim
  · have hln : (len == 1) = true := hln
    have hln : len = 1 := by simpa using hln
    subst hln
    split at h
    · intro H locs ls hv hz hS hl
      exact zJ_aald C hd h.1 (hK _ _ _ _ _ _ h.2) H locs ls hv hz hS hl
    · exact h.elim
  · have hln : (len == 1) = true := hln
    have hln : len = 1 := by simpa using hln
    subst hln
    split at h
    · intro H locs ls hv hz hS hl
      exact hR.1 _ h.1 h.2 hd H locs ls hv hz hS hl
    · exact h.elim
  · have hln : (len == 1) = true := hln
    have hln : len = 1 := by simpa using hln
    subst hln
    split at h
    · intro H locs ls hv hz hS hl
      exact hR.2.2.2 _ h.1 h.2 hd H locs ls hv hz hS hl
    · exact h.elim
  · exact zst5_ok C L hK hR hd hln h
theorem zst3_ok (C : zC p s m args meth c own cc nL z D dA ini) (L : zlk own fl lc ll) (hK : ∀ pc loc st M k n, K pc loc st M k n → (zJ p l e R s m args below meth c Q nL z D) pc loc st M k n) (hR : zRet rt (zJ p l e R s m args below meth c Q nL z D) cc post) {i : Instr} {len : Nat} {st : List Value} (hd : decode cc pc = .ok (i, len)) (hln : zlb i len = true) (h : zst3 fl lc ll dA rt ini nL (zJ p l e R s m args below meth c Q nL z D) K post i len pc loc st M k n) : (zJ p l e R s m args below meth c Q nL z D) pc loc st M k n := by
  unfold zst3 at h
  split at h
  · have hln : (len == 3) = true := hln
    have hln : len = 3 := by simpa using hln
    subst hln
    split at h
    · intro H locs ls hv hz hS hl
      exact lv_if_ne C.1 C.2.1 hd (zt_ok h.1) (fun hc => hK _ _ _ _ _ _ (h.2.1 hc) H locs ls hv hz hS hl) (fun hc => hK _ _ _ _ _ _ (h.2.2 hc) H locs ls hv hz hS hl)
    · exact h.elim
  · have hln : (len == 3) = true := hln
    have hln : len = 3 := by simpa using hln
    subst hln
    split at h
    · intro H locs ls hv hz hS hl
      exact lv_if_lt C.1 C.2.1 hd (zt_ok h.1) (fun hc => hK _ _ _ _ _ _ (h.2.1 hc) H locs ls hv hz hS hl) (fun hc => hK _ _ _ _ _ _ (h.2.2 hc) H locs ls hv hz hS hl)
    · exact h.elim
  · have hln : (len == 3) = true := hln
    have hln : len = 3 := by simpa using hln
    subst hln
    split at h
    · intro H locs ls hv hz hS hl
      exact lv_if_ge C.1 C.2.1 hd (zt_ok h.1) (fun hc => hK _ _ _ _ _ _ (h.2.1 hc) H locs ls hv hz hS hl) (fun hc => hK _ _ _ _ _ _ (h.2.2 hc) H locs ls hv hz hS hl)
    · exact h.elim
  · have hln : (len == 3) = true := hln
    have hln : len = 3 := by simpa using hln
    subst hln
    split at h
    · intro H locs ls hv hz hS hl
      exact lv_if_gt C.1 C.2.1 hd (zt_ok h.1) (fun hc => hK _ _ _ _ _ _ (h.2.1 hc) H locs ls hv hz hS hl) (fun hc => hK _ _ _ _ _ _ (h.2.2 hc) H locs ls hv hz hS hl)
    · exact h.elim
  · have hln : (len == 3) = true := hln
    have hln : len = 3 := by simpa using hln
    subst hln
    split at h
    · intro H locs ls hv hz hS hl
      exact lv_if_le C.1 C.2.1 hd (zt_ok h.1) (fun hc => hK _ _ _ _ _ _ (h.2.1 hc) H locs ls hv hz hS hl) (fun hc => hK _ _ _ _ _ _ (h.2.2 hc) H locs ls hv hz hS hl)
    · exact h.elim
  · have hln : (len == 3) = true := hln
    have hln : len = 3 := by simpa using hln
    subst hln
    split at h
    · intro H locs ls hv hz hS hl
      exact lv_icmp_eq C.1 C.2.1 hd (zt_ok h.1) (fun hc => hK _ _ _ _ _ _ (h.2.1 hc) H locs ls hv hz hS hl) (fun hc => hK _ _ _ _ _ _ (h.2.2 hc) H locs ls hv hz hS hl)
    · exact h.elim
  · have hln : (len == 3) = true := hln
    have hln : len = 3 := by simpa using hln
    subst hln
    split at h
    · intro H locs ls hv hz hS hl
      exact lv_icmp_ne C.1 C.2.1 hd (zt_ok h.1) (fun hc => hK _ _ _ _ _ _ (h.2.1 hc) H locs ls hv hz hS hl) (fun hc => hK _ _ _ _ _ _ (h.2.2 hc) H locs ls hv hz hS hl)
    · exact h.elim
  · have hln : (len == 3) = true := hln
    have hln : len = 3 := by simpa using hln
    subst hln
    split at h
    · intro H locs ls hv hz hS hl
      exact lv_icmp_lt C.1 C.2.1 hd (zt_ok h.1) (fun hc => hK _ _ _ _ _ _ (h.2.1 hc) H locs ls hv hz hS hl) (fun hc => hK _ _ _ _ _ _ (h.2.2 hc) H locs ls hv hz hS hl)
    · exact h.elim
  · have hln : (len == 3) = true := hln
    have hln : len = 3 := by simpa using hln
    subst hln
    split at h
    · intro H locs ls hv hz hS hl
      exact lv_icmp_ge C.1 C.2.1 hd (zt_ok h.1) (fun hc => hK _ _ _ _ _ _ (h.2.1 hc) H locs ls hv hz hS hl) (fun hc => hK _ _ _ _ _ _ (h.2.2 hc) H locs ls hv hz hS hl)
    · exact h.elim
  · have hln : (len == 3) = true := hln
    have hln : len = 3 := by simpa using hln
    subst hln
    split at h
    · intro H locs ls hv hz hS hl
      exact lv_icmp_gt C.1 C.2.1 hd (zt_ok h.1) (fun hc => hK _ _ _ _ _ _ (h.2.1 hc) H locs ls hv hz hS hl) (fun hc => hK _ _ _ _ _ _ (h.2.2 hc) H locs ls hv hz hS hl)
    · exact h.elim
  · have hln : (len == 3) = true := hln
    have hln : len = 3 := by simpa using hln
    subst hln
    split at h
    · intro H locs ls hv hz hS hl
      exact lv_icmp_le C.1 C.2.1 hd (zt_ok h.1) (fun hc => hK _ _ _ _ _ _ (h.2.1 hc) H locs ls hv hz hS hl) (fun hc => hK _ _ _ _ _ _ (h.2.2 hc) H locs ls hv hz hS hl)
    · exact h.elim
  · have hln : (len == 3) = true := hln
    have hln : len = 3 := by simpa using hln
    subst hln
    split at h
    · intro H locs ls hv hz hS hl
      exact lv_ifnull C.1 C.2.1 hd (hK _ _ _ _ _ _ h H locs ls hv hz hS hl)
    · intro H locs ls hv hz hS hl
      exact lv_ifnullN C.1 C.2.1 hd (zt_ok h.1) (hK _ _ _ _ _ _ h.2 H locs ls hv hz hS hl)
    · exact h.elim
  · have hln : (len == 3) = true := hln
    have hln : len = 3 := by simpa using hln
    subst hln
    split at h
    · intro H locs ls hv hz hS hl
      exact lv_ifnonnull C.1 C.2.1 hd (zt_ok h.1) (hK _ _ _ _ _ _ h.2 H locs ls hv hz hS hl)
    · intro H locs ls hv hz hS hl
      exact lv_ifnonnullN C.1 C.2.1 hd (hK _ _ _ _ _ _ h H locs ls hv hz hS hl)
    · exact h.elim
  · have hln : (len == 3) = true := hln
    have hln : len = 3 := by simpa using hln
    subst hln
    · intro H locs ls hv hz hS hl
      exact lv_goto C.1 C.2.1 hd (zt_ok h.1) (hK _ _ _ _ _ _ h.2 H locs ls hv hz hS hl)
  · exact zst4_ok C L hK hR hd hln h
theorem zst2_ok (C : zC p s m args meth c own cc nL z D dA ini) (L : zlk own fl lc ll) (hK : ∀ pc loc st M k n, K pc loc st M k n → (zJ p l e R s m args below meth c Q nL z D) pc loc st M k n) (hR : zRet rt (zJ p l e R s m args below meth c Q nL z D) cc post) {i : Instr} {len : Nat} {st : List Value} (hd : decode cc pc = .ok (i, len)) (hln : zlb i len = true) (h : zst2 fl lc ll dA rt ini nL (zJ p l e R s m args below meth c Q nL z D) K post i len pc loc st M k n) : (zJ p l e R s m args below meth c Q nL z D) pc loc st M k n := by
  unfold zst2 at h
  split at h
  · have hln : (len == 1) = true := hln
    have hln : len = 1 := by simpa using hln
    subst hln
    split at h
    · intro H locs ls hv hz hS hl
      exact lv_lsub C.1 C.2.1 hd (hK _ _ _ _ _ _ h H locs ls hv hz hS hl)
    · exact h.elim
  · have hln : (len == 1) = true := hln
    have hln : len = 1 := by simpa using hln
    subst hln
    split at h
    · intro H locs ls hv hz hS hl
      exact lv_lmul C.1 C.2.1 hd (hK _ _ _ _ _ _ h H locs ls hv hz hS hl)
    · exact h.elim
  · have hln : (len == 1) = true := hln
    have hln : len = 1 := by simpa using hln
    subst hln
    split at h
    · intro H locs ls hv hz hS hl
      exact lv_land C.1 C.2.1 hd (hK _ _ _ _ _ _ h H locs ls hv hz hS hl)
    · exact h.elim
  · have hln : (len == 1) = true := hln
    have hln : len = 1 := by simpa using hln
    subst hln
    split at h
    · intro H locs ls hv hz hS hl
      exact lv_lor C.1 C.2.1 hd (hK _ _ _ _ _ _ h H locs ls hv hz hS hl)
    · exact h.elim
  · have hln : (len == 1) = true := hln
    have hln : len = 1 := by simpa using hln
    subst hln
    split at h
    · intro H locs ls hv hz hS hl
      exact lv_ldiv C.1 C.2.1 hd h.1 (hK _ _ _ _ _ _ h.2 H locs ls hv hz hS hl)
    · exact h.elim
  · have hln : (len == 1) = true := hln
    have hln : len = 1 := by simpa using hln
    subst hln
    split at h
    · intro H locs ls hv hz hS hl
      exact W.lcmp C.1 C.2.1 hd (hK _ _ _ _ _ _ h H locs ls hv hz hS hl)
    · exact h.elim
  · have hln : (len == 1) = true := hln
    have hln : len = 1 := by simpa using hln
    subst hln
    split at h
    · intro H locs ls hv hz hS hl
      exact lv_i2l C.1 C.2.1 hd rfl (hK _ _ _ _ _ _ h H locs ls hv hz hS hl)
    · exact h.elim
  · have hln : (len == 1) = true := hln
    have hln : len = 1 := by simpa using hln
    subst hln
    split at h
    · intro H locs ls hv hz hS hl
      exact lv_l2i C.1 C.2.1 hd rfl (hK _ _ _ _ _ _ h H locs ls hv hz hS hl)
    · exact h.elim
  · have hln : (len == 1) = true := hln
    have hln : len = 1 := by simpa using hln
    subst hln
    split at h
    · intro H locs ls hv hz hS hl
      exact lv_lshl C.1 C.2.1 hd rfl (hK _ _ _ _ _ _ h H locs ls hv hz hS hl)
    · exact h.elim
  · have hln : (len == 1) = true := hln
    have hln : len = 1 := by simpa using hln
    subst hln
    split at h
    · intro H locs ls hv hz hS hl
      exact lv_dup C.1 C.2.1 hd rfl (hK _ _ _ _ _ _ h H locs ls hv hz hS hl)
    · intro H locs ls hv hz hS hl
      exact lv_dup C.1 C.2.1 hd rfl (hK _ _ _ _ _ _ h H locs ls hv hz hS hl)
    · exact h.elim
  · have hln : (len == 1) = true := hln
    have hln : len = 1 := by simpa using hln
    subst hln
    split at h
    · intro H locs ls hv hz hS hl
      exact lv_pop C.1 C.2.1 hd rfl (hK _ _ _ _ _ _ h H locs ls hv hz hS hl)
    · intro H locs ls hv hz hS hl
      exact lv_pop C.1 C.2.1 hd rfl (hK _ _ _ _ _ _ h H locs ls hv hz hS hl)
    · intro H locs ls hv hz hS hl
      exact lv_pop C.1 C.2.1 hd rfl (hK _ _ _ _ _ _ h H locs ls hv hz hS hl)
    · exact h.elim
  · have hln : (len == 1) = true := hln
    have hln : len = 1 := by simpa using hln
    subst hln
    split at h
    · intro H locs ls hv hz hS hl
      exact lv_dup_x1 C.1 C.2.1 hd rfl rfl (hK _ _ _ _ _ _ h H locs ls hv hz hS hl)
    · intro H locs ls hv hz hS hl
      exact lv_dup_x1 C.1 C.2.1 hd rfl rfl (hK _ _ _ _ _ _ h H locs ls hv hz hS hl)
    · exact h.elim
  · have hln : (len == 1) = true := hln
    have hln : len = 1 := by simpa using hln
    subst hln
    split at h
    · intro H locs ls hv hz hS hl
      exact lv_dup2_11 C.1 C.2.1 hd rfl rfl (hK _ _ _ _ _ _ h H locs ls hv hz hS hl)
    · exact h.elim
  · have hln : (len == 3) = true := hln
    have hln : len = 3 := by simpa using hln
    subst hln
    split at h
    · intro H locs ls hv hz hS hl
      exact lv_if_eq C.1 C.2.1 hd (zt_ok h.1) (fun hc => hK _ _ _ _ _ _ (h.2.1 hc) H locs ls hv hz hS hl) (fun hc => hK _ _ _ _ _ _ (h.2.2 hc) H locs ls hv hz hS hl)
    · exact h.elim
  · exact zst3_ok C L hK hR hd hln h
theorem zst1_ok (C : zC p s m args meth c own cc nL z D dA ini) (L : zlk own fl lc ll) (hK : ∀ pc loc st M k n, K pc loc st M k n → (zJ p l e R s m args below meth c Q nL z D) pc loc st M k n) (hR : zRet rt (zJ p l e R s m args below meth c Q nL z D) cc post) {i : Instr} {len : Nat} {st : List Value} (hd : decode cc pc = .ok (i, len)) (hln : zlb i len = true) (h : zst1 fl lc ll dA rt ini nL (zJ p l e R s m args below meth c Q nL z D) K post i len pc loc st M k n) : (zJ p l e R s m args below meth c Q nL z D) pc loc st M k n := by
  unfold zst1 at h
  split at h
  · have hln : (len == 1) = true := hln
    have hln : len = 1 := by simpa using hln
    subst hln
    split at h
    · intro H locs ls hv hz hS hl
      exact lv_astore_n C.1 C.2.1 hd rfl hl h.1 (congrArg (List.cons _) (zlr_eq _ _)) (fun ls' hl' => hK _ _ _ _ _ _ h.2 H locs ls' hv hz hS hl')
    · intro H locs ls hv hz hS hl
      exact lv_astore_nN C.1 C.2.1 hd rfl hl h.1 (congrArg (List.cons _) (zlr_eq _ _)) (fun ls' hl' => hK _ _ _ _ _ _ h.2 H locs ls' hv hz hS hl')
    · exact h.elim
  · have hln : (len == 2) = true := hln
    have hln : len = 2 := by simpa using hln
    subst hln
    split at h
    · intro H locs ls hv hz hS hl
      exact lv_istore C.1 C.2.1 hd hl h.1 (congrArg (List.cons _) (zlr_eq _ _)) (fun ls' hl' => hK _ _ _ _ _ _ h.2 H locs ls' hv hz hS hl')
    · exact h.elim
  · have hln : (len == 2) = true := hln
    have hln : len = 2 := by simpa using hln
    subst hln
    split at h
    · intro H locs ls hv hz hS hl
      exact lv_astore C.1 C.2.1 hd hl h.1 (congrArg (List.cons _) (zlr_eq _ _)) (fun ls' hl' => hK _ _ _ _ _ _ h.2 H locs ls' hv hz hS hl')
    · intro H locs ls hv hz hS hl
      exact lv_astoreN C.1 C.2.1 hd hl h.1 (congrArg (List.cons _) (zlr_eq _ _)) (fun ls' hl' => hK _ _ _ _ _ _ h.2 H locs ls' hv hz hS hl')
    · exact h.elim
  · have hln : (len == 1) = true := hln
    have hln : len = 1 := by simpa using hln
    subst hln
    split at h
    · intro H locs ls hv hz hS hl
      exact lv_lstore_n C.1 C.2.1 hd rfl hl h.1 (congrArg (List.cons _) (zl2_eq _ _)) (fun ls' hl' => hK _ _ _ _ _ _ h.2 H locs ls' hv hz hS hl')
    · exact h.elim
  · have hln : (len == 2) = true := hln
    have hln : len = 2 := by simpa using hln
    subst hln
    split at h
    · intro H locs ls hv hz hS hl
      exact lv_lstore C.1 C.2.1 hd hl h.1 (congrArg (List.cons _) (zl2_eq _ _)) (fun ls' hl' => hK _ _ _ _ _ _ h.2 H locs ls' hv hz hS hl')
    · exact h.elim
  · have hln : (len == 1) = true := hln
    have hln : len = 1 := by simpa using hln
    subst hln
    split at h
    · intro H locs ls hv hz hS hl
      exact lv_iadd C.1 C.2.1 hd (hK _ _ _ _ _ _ h H locs ls hv hz hS hl)
    · exact h.elim
  · have hln : (len == 1) = true := hln
    have hln : len = 1 := by simpa using hln
    subst hln
    split at h
    · intro H locs ls hv hz hS hl
      exact lv_isub C.1 C.2.1 hd (hK _ _ _ _ _ _ h H locs ls hv hz hS hl)
    · exact h.elim
  · have hln : (len == 1) = true := hln
    have hln : len = 1 := by simpa using hln
    subst hln
    split at h
    · intro H locs ls hv hz hS hl
      exact lv_ishr C.1 C.2.1 hd (hK _ _ _ _ _ _ h H locs ls hv hz hS hl)
    · exact h.elim
  · have hln : (len == 1) = true := hln
    have hln : len = 1 := by simpa using hln
    subst hln
    split at h
    · intro H locs ls hv hz hS hl
      exact lv_imul C.1 C.2.1 hd (hK _ _ _ _ _ _ h H locs ls hv hz hS hl)
    · exact h.elim
  · have hln : (len == 1) = true := hln
    have hln : len = 1 := by simpa using hln
    subst hln
    split at h
    · intro H locs ls hv hz hS hl
      exact lv_iand C.1 C.2.1 hd (hK _ _ _ _ _ _ h H locs ls hv hz hS hl)
    · exact h.elim
  · have hln : (len == 1) = true := hln
    have hln : len = 1 := by simpa using hln
    subst hln
    split at h
    · intro H locs ls hv hz hS hl
      exact lv_idiv C.1 C.2.1 hd h.1 (hK _ _ _ _ _ _ h.2 H locs ls hv hz hS hl)
    · exact h.elim
  · have hln : (len == 1) = true := hln
    have hln : len = 1 := by simpa using hln
    subst hln
    split at h
    · intro H locs ls hv hz hS hl
      exact lv_irem C.1 C.2.1 hd h.1 (hK _ _ _ _ _ _ h.2 H locs ls hv hz hS hl)
    · exact h.elim
  · have hln : (len == 1) = true := hln
    have hln : len = 1 := by simpa using hln
    subst hln
    split at h
    · intro H locs ls hv hz hS hl
      exact lv_ineg C.1 C.2.1 hd (hK _ _ _ _ _ _ h H locs ls hv hz hS hl)
    · exact h.elim
  · have hln : (len == 1) = true := hln
    have hln : len = 1 := by simpa using hln
    subst hln
    split at h
    · intro H locs ls hv hz hS hl
      exact lv_ladd C.1 C.2.1 hd (hK _ _ _ _ _ _ h H locs ls hv hz hS hl)
    · exact h.elim
  · exact zst2_ok C L hK hR hd hln h
theorem zst0_ok (C : zC p s m args meth c own cc nL z D dA ini) (L : zlk own fl lc ll) (hK : ∀ pc loc st M k n, K pc loc st M k n → (zJ p l e R s m args below meth c Q nL z D) pc loc st M k n) (hR : zRet rt (zJ p l e R s m args below meth c Q nL z D) cc post) {i : Instr} {len : Nat} {st : List Value} (hd : decode cc pc = .ok (i, len)) (hln : zlb i len = true) (h : zst0 fl lc ll dA rt ini nL (zJ p l e R s m args below meth c Q nL z D) K post i len pc loc st M k n) : (zJ p l e R s m args below meth c Q nL z D) pc loc st M k n := by
  unfold zst0 at h
  split at h
  · have hln : (len == 1) = true := hln
    have hln : len = 1 := by simpa using hln
    subst hln
    · intro H locs ls hv hz hS hl
      exact lv_null C.1 C.2.1 hd (hK _ _ _ _ _ _ h H locs ls hv hz hS hl)
  · have hln : (len == 1) = true := hln
    have hln : len = 1 := by simpa using hln
    subst hln
    · intro H locs ls hv hz hS hl
      exact lv_iconst C.1 C.2.1 hd rfl (hK _ _ _ _ _ _ h H locs ls hv hz hS hl)
  · have hln : (len == 2) = true := hln
    have hln : len = 2 := by simpa using hln
    subst hln
    · intro H locs ls hv hz hS hl
      exact lv_bipush C.1 C.2.1 hd rfl (hK _ _ _ _ _ _ h H locs ls hv hz hS hl)
  · have hln : (len == 3) = true := hln
    have hln : len = 3 := by simpa using hln
    subst hln
    · intro H locs ls hv hz hS hl
      exact lv_sipush C.1 C.2.1 hd rfl (hK _ _ _ _ _ _ h H locs ls hv hz hS hl)
  · have hln : (len == 1) = true := hln
    have hln : len = 1 := by simpa using hln
    subst hln
    · intro H locs ls hv hz hS hl
      exact lv_lconst C.1 C.2.1 hd rfl (hK _ _ _ _ _ _ h H locs ls hv hz hS hl)
  · have hln : (len == 2) = true := hln
    have hln : len = 2 := by simpa using hln
    subst hln
    · intro H locs ls hv hz hS hl
      obtain ⟨h1, h⟩ := h
      obtain ⟨v, hv1⟩ := Option.isSome_iff_exists.mp h1
      rw [hv1] at h
      exact lv_ldc C.1 C.2.1 C.2.2.2.1 (C.2.2.2.2.1 _ (L.2.1 _ v hv1)) hd (hK _ _ _ _ _ _ h H locs ls hv hz hS hl)
  · have hln : (len == 3) = true := hln
    have hln : len = 3 := by simpa using hln
    subst hln
    · intro H locs ls hv hz hS hl
      obtain ⟨h1, h⟩ := h
      obtain ⟨v, hv1⟩ := Option.isSome_iff_exists.mp h1
      rw [hv1] at h
      exact lv_ldc2 C.1 C.2.1 C.2.2.2.1 (C.2.2.2.2.1 _ (L.2.2 _ v hv1)) hd (hK _ _ _ _ _ _ h H locs ls hv hz hS hl)
  · have hln : (len == 1) = true := hln
    have hln : len = 1 := by simpa using hln
    subst hln
    · intro H locs ls hv hz hS hl
      obtain ⟨h1, h⟩ := h
      obtain ⟨v, hv1⟩ := zsI_sp h1
      rw [hv1] at h
      exact lv_iload_n C.1 C.2.1 hd rfl (zlg_at hl hv1) (hK _ _ _ _ _ _ h H locs ls hv hz hS hl)
  · have hln : (len == 2) = true := hln
    have hln : len = 2 := by simpa using hln
    subst hln
    · intro H locs ls hv hz hS hl
      obtain ⟨h1, h⟩ := h
      obtain ⟨v, hv1⟩ := zsI_sp h1
      rw [hv1] at h
      exact lv_iload C.1 C.2.1 hd (zlg_at hl hv1) (hK _ _ _ _ _ _ h H locs ls hv hz hS hl)
  · have hln : (len == 1) = true := hln
    have hln : len = 1 := by simpa using hln
    subst hln
    · intro H locs ls hv hz hS hl
      obtain ⟨h1, h⟩ := h
      obtain ⟨v, hv1⟩ := zsL_sp h1
      rw [hv1] at h
      exact lv_lload_n C.1 C.2.1 hd rfl (zlg_at hl hv1) (hK _ _ _ _ _ _ h H locs ls hv hz hS hl)
  · have hln : (len == 2) = true := hln
    have hln : len = 2 := by simpa using hln
    subst hln
    · intro H locs ls hv hz hS hl
      obtain ⟨h1, h⟩ := h
      obtain ⟨v, hv1⟩ := zsL_sp h1
      rw [hv1] at h
      exact lv_lload C.1 C.2.1 hd (zlg_at hl hv1) (hK _ _ _ _ _ _ h H locs ls hv hz hS hl)
  · have hln : (len == 1) = true := hln
    have hln : len = 1 := by simpa using hln
    subst hln
    · intro H locs ls hv hz hS hl
      obtain ⟨h1, h⟩ := h
      rcases zsA_sp h1 with ⟨v, hv1⟩ | hv1
      · rw [hv1] at h
        exact lv_aload_n C.1 C.2.1 hd rfl (zlg_at hl hv1) (hK _ _ _ _ _ _ h H locs ls hv hz hS hl)
      · rw [hv1] at h
        exact lv_aload_nN C.1 C.2.1 hd rfl (zlg_at hl hv1) (hK _ _ _ _ _ _ h H locs ls hv hz hS hl)
  · have hln : (len == 2) = true := hln
    have hln : len = 2 := by simpa using hln
    subst hln
    · intro H locs ls hv hz hS hl
      obtain ⟨h1, h⟩ := h
      rcases zsA_sp h1 with ⟨v, hv1⟩ | hv1
      · rw [hv1] at h
        exact lv_aload C.1 C.2.1 hd (zlg_at hl hv1) (hK _ _ _ _ _ _ h H locs ls hv hz hS hl)
      · rw [hv1] at h
        exact lv_aloadN C.1 C.2.1 hd (zlg_at hl hv1) (hK _ _ _ _ _ _ h H locs ls hv hz hS hl)
  · have hln : (len == 1) = true := hln
    have hln : len = 1 := by simpa using hln
    subst hln
    split at h
    · intro H locs ls hv hz hS hl
      exact lv_istore_n C.1 C.2.1 hd rfl hl h.1 (congrArg (List.cons _) (zlr_eq _ _)) (fun ls' hl' => hK _ _ _ _ _ _ h.2 H locs ls' hv hz hS hl')
    · exact h.elim
  · exact zst1_ok C L hK hR hd hln h
def zsg (cut : Nat → Bool) (fl : Nat → Option (Nat × Nat × Nat)) (lc : Nat → Option Int32) (ll : Nat → Option Int64) (dA : Nat → ClassId) (rt : Nat) (ini : Bool) (nL : Nat) (Jk K : zK) (post : Option Value → zVw → Nat → Nat → Prop) : Except DecodeError (Instr × Nat) → zK
  | .ok (i, len) => fun pc loc st M k n => bif zlb i len then zst0 fl lc ll dA rt ini nL Jk K post i len pc loc st M k n else Jk pc loc st M k n
  | _ => fun _ _ _ _ _ _ => False
def zseg (cc : ByteArray) (cut : Nat → Bool) (fl : Nat → Option (Nat × Nat × Nat)) (lc : Nat → Option Int32) (ll : Nat → Option Int64) (dA : Nat → ClassId) (rt : Nat) (ini : Bool) (nL : Nat) (Jk : zK) (post : Option Value → zVw → Nat → Nat → Prop) : Nat → zK
  | 0 => Jk
  | f + 1 => fun pc loc st M k n => bif cut pc then Jk pc loc st M k n else zsg cut fl lc ll dA rt ini nL Jk (zseg cc cut fl lc ll dA rt ini nL Jk post f) post (decode cc pc) pc loc st M k n
theorem zsg_ok {cut : Nat → Bool} (C : zC p s m args meth c own cc nL z D dA ini) (L : zlk own fl lc ll) (hK : ∀ pc loc st M k n, K pc loc st M k n → (zJ p l e R s m args below meth c Q nL z D) pc loc st M k n) (hR : zRet rt (zJ p l e R s m args below meth c Q nL z D) cc post) {st : List Value} (h : zsg cut fl lc ll dA rt ini nL (zJ p l e R s m args below meth c Q nL z D) K post (decode cc pc) pc loc st M k n) : (zJ p l e R s m args below meth c Q nL z D) pc loc st M k n := by
  cases hd : decode cc pc with
  | error _ => rw [hd] at h; exact h.elim
  | ok q =>
    obtain ⟨i, len⟩ := q
    rw [hd] at h
    unfold zsg at h
    dsimp only at h
    cases hb : zlb i len with
    | false => rw [hb] at h; exact h
    | true =>
      rw [hb] at h
      exact zst0_ok C L hK hR hd hb h
theorem zseg_ok {cut : Nat → Bool} (C : zC p s m args meth c own cc nL z D dA ini) (L : zlk own fl lc ll) (hR : zRet rt (zJ p l e R s m args below meth c Q nL z D) cc post) : ∀ (f : Nat) (pc : Nat) (loc : List (Nat × Value)) (st : List Value) (M : zVw) (k n : Nat), zseg cc cut fl lc ll dA rt ini nL (zJ p l e R s m args below meth c Q nL z D) post f pc loc st M k n → (zJ p l e R s m args below meth c Q nL z D) pc loc st M k n
  | 0, _, _, _, _, _, _, h => h
  | f + 1, pc, loc, st, M, k, n, h => by
    unfold zseg at h
    cases hb : cut pc with
    | true => rw [hb] at h; exact h
    | false =>
      rw [hb] at h
      exact zsg_ok (cut := cut) C L (zseg_ok C L hR f) hR h
/-- from a place that may itself be a stop -/
theorem zgo {cut : Nat → Bool} (f : Nat) (C : zC p s m args meth c own cc nL z D dA ini) (L : zlk own fl lc ll) (hR : zRet rt (zJ p l e R s m args below meth c Q nL z D) cc post) {st : List Value} (h : zsg cut fl lc ll dA rt ini nL (zJ p l e R s m args below meth c Q nL z D) (zseg cc cut fl lc ll dA rt ini nL (zJ p l e R s m args below meth c Q nL z D) post f) post (decode cc pc) pc loc st M k n) : (zJ p l e R s m args below meth c Q nL z D) pc loc st M k n := zsg_ok (cut := cut) C L (zseg_ok C L hR f) hR h
end ZS
/-! rows for simp: each holds by rfl -/
section ZR
variable {cc : ByteArray} {cut : Nat → Bool} {fl : Nat → Option (Nat × Nat × Nat)} {lc : Nat → Option Int32} {ll : Nat → Option Int64} {dA : Nat → ClassId} {rt : Nat} {ini : Bool} {nL : Nat} {Jk K : zK} {post : Option Value → zVw → Nat → Nat → Prop} {pc k n len f : Nat} {loc : List (Nat × Value)} {st : List Value} {M : zVw}
theorem zs_null : zsg cut fl lc ll dA rt ini nL Jk K post (.ok (.aconst_null, 1)) pc loc st M k n = (K (pc + 1) loc (.null :: st) M k n) := rfl
theorem zs_iconst {v : Int} : zsg cut fl lc ll dA rt ini nL Jk K post (.ok (.iconst v, 1)) pc loc st M k n = (K (pc + 1) loc (.int (Int32.ofInt v) :: st) M k n) := rfl
theorem zs_bipush {v : Int} : zsg cut fl lc ll dA rt ini nL Jk K post (.ok (.bipush v, 2)) pc loc st M k n = (K (pc + 2) loc (.int (Int8.ofInt v).toInt32 :: st) M k n) := rfl
theorem zs_sipush {v : Int} : zsg cut fl lc ll dA rt ini nL Jk K post (.ok (.sipush v, 3)) pc loc st M k n = (K (pc + 3) loc (.int (Int16.ofInt v).toInt32 :: st) M k n) := rfl
theorem zs_lconst {v : Fin 2} : zsg cut fl lc ll dA rt ini nL Jk K post (.ok (.lconst v, 1)) pc loc st M k n = (K (pc + 1) loc (.long (Int64.ofNat (v : Nat)) :: st) M k n) := rfl
theorem zs_ldc {x : Nat} : zsg cut fl lc ll dA rt ini nL Jk K post (.ok (.ldc x, 2)) pc loc st M k n = ((lc x).isSome = true ∧ K (pc + 2) loc (.int ((lc x).getD 0) :: st) M k n) := rfl
theorem zs_ldc2 {x : Nat} : zsg cut fl lc ll dA rt ini nL Jk K post (.ok (.ldc2_w x, 3)) pc loc st M k n = ((ll x).isSome = true ∧ K (pc + 3) loc (.long ((ll x).getD 0) :: st) M k n) := rfl
theorem zs_iload_n {x : Fin 4} : zsg cut fl lc ll dA rt ini nL Jk K post (.ok (.iload_n x, 1)) pc loc st M k n = (zsI (zlg loc (zf4 x)) = true ∧ K (pc + 1) loc (zvo (zlg loc (zf4 x)) :: st) M k n) := rfl
theorem zs_iload {x : Nat} : zsg cut fl lc ll dA rt ini nL Jk K post (.ok (.iload x, 2)) pc loc st M k n = (zsI (zlg loc x) = true ∧ K (pc + 2) loc (zvo (zlg loc x) :: st) M k n) := rfl
theorem zs_lload_n {x : Fin 4} : zsg cut fl lc ll dA rt ini nL Jk K post (.ok (.lload_n x, 1)) pc loc st M k n = (zsL (zlg loc (zf4 x)) = true ∧ K (pc + 1) loc (zvo (zlg loc (zf4 x)) :: st) M k n) := rfl
theorem zs_lload {x : Nat} : zsg cut fl lc ll dA rt ini nL Jk K post (.ok (.lload x, 2)) pc loc st M k n = (zsL (zlg loc x) = true ∧ K (pc + 2) loc (zvo (zlg loc x) :: st) M k n) := rfl
theorem zs_aload_n {x : Fin 4} : zsg cut fl lc ll dA rt ini nL Jk K post (.ok (.aload_n x, 1)) pc loc st M k n = (zsA (zlg loc (zf4 x)) = true ∧ K (pc + 1) loc (zvo (zlg loc (zf4 x)) :: st) M k n) := rfl
theorem zs_aload {x : Nat} : zsg cut fl lc ll dA rt ini nL Jk K post (.ok (.aload x, 2)) pc loc st M k n = (zsA (zlg loc x) = true ∧ K (pc + 2) loc (zvo (zlg loc x) :: st) M k n) := rfl
theorem zs_istore_n {r : List Value} {v : Int32} {x : Fin 4} : zsg cut fl lc ll dA rt ini nL Jk K post (.ok (.istore_n x, 1)) pc loc (.int v :: r) M k n = ((zf4 x) < nL ∧ K (pc + 1) (((zf4 x), .int v) :: zlr loc (zf4 x)) r M k n) := rfl
theorem zs_astore_n0 {r : List Value} {v : Nat} {x : Fin 4} : zsg cut fl lc ll dA rt ini nL Jk K post (.ok (.astore_n x, 1)) pc loc (.ref v :: r) M k n = ((zf4 x) < nL ∧ K (pc + 1) (((zf4 x), .ref v) :: zlr loc (zf4 x)) r M k n) := rfl
theorem zs_astore_n1 {r : List Value} {x : Fin 4} : zsg cut fl lc ll dA rt ini nL Jk K post (.ok (.astore_n x, 1)) pc loc (.null :: r) M k n = ((zf4 x) < nL ∧ K (pc + 1) (((zf4 x), .null) :: zlr loc (zf4 x)) r M k n) := rfl
theorem zs_istore {r : List Value} {v : Int32} {x : Nat} : zsg cut fl lc ll dA rt ini nL Jk K post (.ok (.istore x, 2)) pc loc (.int v :: r) M k n = (x < nL ∧ K (pc + 2) ((x, .int v) :: zlr loc x) r M k n) := rfl
theorem zs_astore0 {r : List Value} {v : Nat} {x : Nat} : zsg cut fl lc ll dA rt ini nL Jk K post (.ok (.astore x, 2)) pc loc (.ref v :: r) M k n = (x < nL ∧ K (pc + 2) ((x, .ref v) :: zlr loc x) r M k n) := rfl
theorem zs_astore1 {r : List Value} {x : Nat} : zsg cut fl lc ll dA rt ini nL Jk K post (.ok (.astore x, 2)) pc loc (.null :: r) M k n = (x < nL ∧ K (pc + 2) ((x, .null) :: zlr loc x) r M k n) := rfl
theorem zs_lstore_n {r : List Value} {v : Int64} {x : Fin 4} : zsg cut fl lc ll dA rt ini nL Jk K post (.ok (.lstore_n x, 1)) pc loc (.long v :: r) M k n = ((zf4 x) + 1 < nL ∧ K (pc + 1) (((zf4 x), .long v) :: zl2 loc (zf4 x)) r M k n) := rfl
theorem zs_lstore {r : List Value} {v : Int64} {x : Nat} : zsg cut fl lc ll dA rt ini nL Jk K post (.ok (.lstore x, 2)) pc loc (.long v :: r) M k n = (x + 1 < nL ∧ K (pc + 2) ((x, .long v) :: zl2 loc x) r M k n) := rfl
theorem zs_iadd {r : List Value} {x : Int32} {y : Int32} : zsg cut fl lc ll dA rt ini nL Jk K post (.ok (.iadd, 1)) pc loc (.int y :: .int x :: r) M k n = (K (pc + 1) loc (.int (x + y) :: r) M k n) := rfl
theorem zs_isub {r : List Value} {x : Int32} {y : Int32} : zsg cut fl lc ll dA rt ini nL Jk K post (.ok (.isub, 1)) pc loc (.int y :: .int x :: r) M k n = (K (pc + 1) loc (.int (x - y) :: r) M k n) := rfl
theorem zs_ishr {r : List Value} {x : Int32} {y : Int32} : zsg cut fl lc ll dA rt ini nL Jk K post (.ok (.ishr, 1)) pc loc (.int y :: .int x :: r) M k n = (K (pc + 1) loc (.int (x >>> (y &&& 31)) :: r) M k n) := rfl
theorem zs_imul {r : List Value} {x : Int32} {y : Int32} : zsg cut fl lc ll dA rt ini nL Jk K post (.ok (.imul, 1)) pc loc (.int y :: .int x :: r) M k n = (K (pc + 1) loc (.int (x * y) :: r) M k n) := rfl
theorem zs_iand {r : List Value} {x : Int32} {y : Int32} : zsg cut fl lc ll dA rt ini nL Jk K post (.ok (.iand, 1)) pc loc (.int y :: .int x :: r) M k n = (K (pc + 1) loc (.int (x &&& y) :: r) M k n) := rfl
theorem zs_idiv {r : List Value} {x : Int32} {y : Int32} : zsg cut fl lc ll dA rt ini nL Jk K post (.ok (.idiv, 1)) pc loc (.int y :: .int x :: r) M k n = (¬ y = 0 ∧ K (pc + 1) loc (.int (x / y) :: r) M k n) := rfl
theorem zs_irem {r : List Value} {x : Int32} {y : Int32} : zsg cut fl lc ll dA rt ini nL Jk K post (.ok (.irem, 1)) pc loc (.int y :: .int x :: r) M k n = (¬ y = 0 ∧ K (pc + 1) loc (.int (x - x / y * y) :: r) M k n) := rfl
theorem zs_ineg {r : List Value} {x : Int32} : zsg cut fl lc ll dA rt ini nL Jk K post (.ok (.ineg, 1)) pc loc (.int x :: r) M k n = (K (pc + 1) loc (.int (-x) :: r) M k n) := rfl
theorem zs_ladd {r : List Value} {x : Int64} {y : Int64} : zsg cut fl lc ll dA rt ini nL Jk K post (.ok (.ladd, 1)) pc loc (.long y :: .long x :: r) M k n = (K (pc + 1) loc (.long (x + y) :: r) M k n) := rfl
theorem zs_lsub {r : List Value} {x : Int64} {y : Int64} : zsg cut fl lc ll dA rt ini nL Jk K post (.ok (.lsub, 1)) pc loc (.long y :: .long x :: r) M k n = (K (pc + 1) loc (.long (x - y) :: r) M k n) := rfl
theorem zs_lmul {r : List Value} {x : Int64} {y : Int64} : zsg cut fl lc ll dA rt ini nL Jk K post (.ok (.lmul, 1)) pc loc (.long y :: .long x :: r) M k n = (K (pc + 1) loc (.long (x * y) :: r) M k n) := rfl
theorem zs_land {r : List Value} {x : Int64} {y : Int64} : zsg cut fl lc ll dA rt ini nL Jk K post (.ok (.land, 1)) pc loc (.long y :: .long x :: r) M k n = (K (pc + 1) loc (.long (x &&& y) :: r) M k n) := rfl
theorem zs_lor {r : List Value} {x : Int64} {y : Int64} : zsg cut fl lc ll dA rt ini nL Jk K post (.ok (.lor, 1)) pc loc (.long y :: .long x :: r) M k n = (K (pc + 1) loc (.long (x ||| y) :: r) M k n) := rfl
theorem zs_ldiv {r : List Value} {x : Int64} {y : Int64} : zsg cut fl lc ll dA rt ini nL Jk K post (.ok (.ldiv, 1)) pc loc (.long y :: .long x :: r) M k n = (¬ y = 0 ∧ K (pc + 1) loc (.long (x / y) :: r) M k n) := rfl
theorem zs_lcmp {r : List Value} {x : Int64} {y : Int64} : zsg cut fl lc ll dA rt ini nL Jk K post (.ok (.lcmp, 1)) pc loc (.long y :: .long x :: r) M k n = (K (pc + 1) loc (.int (lg_cmp x y) :: r) M k n) := rfl
theorem zs_i2l {r : List Value} {x : Int32} : zsg cut fl lc ll dA rt ini nL Jk K post (.ok (.i2l, 1)) pc loc (.int x :: r) M k n = (K (pc + 1) loc (.long x.toInt64 :: r) M k n) := rfl
theorem zs_l2i {r : List Value} {x : Int64} : zsg cut fl lc ll dA rt ini nL Jk K post (.ok (.l2i, 1)) pc loc (.long x :: r) M k n = (K (pc + 1) loc (.int x.toInt32 :: r) M k n) := rfl
theorem zs_lshl {r : List Value} {x : Int64} {y : Int32} : zsg cut fl lc ll dA rt ini nL Jk K post (.ok (.lshl, 1)) pc loc (.int y :: .long x :: r) M k n = (K (pc + 1) loc (.long (x <<< (y.toInt64 &&& 63)) :: r) M k n) := rfl
theorem zs_dup0 {r : List Value} {x : Int32} : zsg cut fl lc ll dA rt ini nL Jk K post (.ok (.dup, 1)) pc loc (.int x :: r) M k n = (K (pc + 1) loc (.int x :: .int x :: r) M k n) := rfl
theorem zs_dup1 {r : List Value} {x : Nat} : zsg cut fl lc ll dA rt ini nL Jk K post (.ok (.dup, 1)) pc loc (.ref x :: r) M k n = (K (pc + 1) loc (.ref x :: .ref x :: r) M k n) := rfl
theorem zs_pop0 {r : List Value} {y0 : Int32} : zsg cut fl lc ll dA rt ini nL Jk K post (.ok (.pop, 1)) pc loc (.int y0 :: r) M k n = (K (pc + 1) loc r M k n) := rfl
theorem zs_pop1 {r : List Value} {x0 : Nat} : zsg cut fl lc ll dA rt ini nL Jk K post (.ok (.pop, 1)) pc loc (.ref x0 :: r) M k n = (K (pc + 1) loc r M k n) := rfl
theorem zs_pop2 {r : List Value} : zsg cut fl lc ll dA rt ini nL Jk K post (.ok (.pop, 1)) pc loc (.null :: r) M k n = (K (pc + 1) loc r M k n) := rfl
theorem zs_dup_x10 {r : List Value} {x : Int32} {y : Nat} : zsg cut fl lc ll dA rt ini nL Jk K post (.ok (.dup_x1, 1)) pc loc (.int x :: .ref y :: r) M k n = (K (pc + 1) loc (.int x :: .ref y :: .int x :: r) M k n) := rfl
theorem zs_dup_x11 {r : List Value} {x : Nat} {y : Nat} : zsg cut fl lc ll dA rt ini nL Jk K post (.ok (.dup_x1, 1)) pc loc (.ref x :: .ref y :: r) M k n = (K (pc + 1) loc (.ref x :: .ref y :: .ref x :: r) M k n) := rfl
theorem zs_dup2 {r : List Value} {x : Int32} {y : Nat} : zsg cut fl lc ll dA rt ini nL Jk K post (.ok (.dup2, 1)) pc loc (.int x :: .ref y :: r) M k n = (K (pc + 1) loc (.int x :: .ref y :: .int x :: .ref y :: r) M k n) := rfl
theorem zs_if_eq {off : Int} {r : List Value} {x : Int32} : zsg cut fl lc ll dA rt ini nL Jk K post (.ok (.ifCond .eq off, 3)) pc loc (.int x :: r) M k n = (zo pc off ∧ (x = 0 → K (zt pc off) loc r M k n) ∧ (¬ x = 0 → K (pc + 3) loc r M k n)) := rfl
theorem zs_if_ne {off : Int} {r : List Value} {x : Int32} : zsg cut fl lc ll dA rt ini nL Jk K post (.ok (.ifCond .ne off, 3)) pc loc (.int x :: r) M k n = (zo pc off ∧ (¬ x = 0 → K (zt pc off) loc r M k n) ∧ (x = 0 → K (pc + 3) loc r M k n)) := rfl
theorem zs_if_lt {off : Int} {r : List Value} {x : Int32} : zsg cut fl lc ll dA rt ini nL Jk K post (.ok (.ifCond .lt off, 3)) pc loc (.int x :: r) M k n = (zo pc off ∧ (x < 0 → K (zt pc off) loc r M k n) ∧ (¬ x < 0 → K (pc + 3) loc r M k n)) := rfl
theorem zs_if_ge {off : Int} {r : List Value} {x : Int32} : zsg cut fl lc ll dA rt ini nL Jk K post (.ok (.ifCond .ge off, 3)) pc loc (.int x :: r) M k n = (zo pc off ∧ (0 ≤ x → K (zt pc off) loc r M k n) ∧ (¬ 0 ≤ x → K (pc + 3) loc r M k n)) := rfl
theorem zs_if_gt {off : Int} {r : List Value} {x : Int32} : zsg cut fl lc ll dA rt ini nL Jk K post (.ok (.ifCond .gt off, 3)) pc loc (.int x :: r) M k n = (zo pc off ∧ (0 < x → K (zt pc off) loc r M k n) ∧ (¬ 0 < x → K (pc + 3) loc r M k n)) := rfl
theorem zs_if_le {off : Int} {r : List Value} {x : Int32} : zsg cut fl lc ll dA rt ini nL Jk K post (.ok (.ifCond .le off, 3)) pc loc (.int x :: r) M k n = (zo pc off ∧ (x ≤ 0 → K (zt pc off) loc r M k n) ∧ (¬ x ≤ 0 → K (pc + 3) loc r M k n)) := rfl
theorem zs_icmp_eq {off : Int} {r : List Value} {x : Int32} {y : Int32} : zsg cut fl lc ll dA rt ini nL Jk K post (.ok (.if_icmp .eq off, 3)) pc loc (.int y :: .int x :: r) M k n = (zo pc off ∧ (x = y → K (zt pc off) loc r M k n) ∧ (¬ x = y → K (pc + 3) loc r M k n)) := rfl
theorem zs_icmp_ne {off : Int} {r : List Value} {x : Int32} {y : Int32} : zsg cut fl lc ll dA rt ini nL Jk K post (.ok (.if_icmp .ne off, 3)) pc loc (.int y :: .int x :: r) M k n = (zo pc off ∧ (¬ x = y → K (zt pc off) loc r M k n) ∧ (x = y → K (pc + 3) loc r M k n)) := rfl
theorem zs_icmp_lt {off : Int} {r : List Value} {x : Int32} {y : Int32} : zsg cut fl lc ll dA rt ini nL Jk K post (.ok (.if_icmp .lt off, 3)) pc loc (.int y :: .int x :: r) M k n = (zo pc off ∧ (x < y → K (zt pc off) loc r M k n) ∧ (¬ x < y → K (pc + 3) loc r M k n)) := rfl
theorem zs_icmp_ge {off : Int} {r : List Value} {x : Int32} {y : Int32} : zsg cut fl lc ll dA rt ini nL Jk K post (.ok (.if_icmp .ge off, 3)) pc loc (.int y :: .int x :: r) M k n = (zo pc off ∧ (y ≤ x → K (zt pc off) loc r M k n) ∧ (¬ y ≤ x → K (pc + 3) loc r M k n)) := rfl
theorem zs_icmp_gt {off : Int} {r : List Value} {x : Int32} {y : Int32} : zsg cut fl lc ll dA rt ini nL Jk K post (.ok (.if_icmp .gt off, 3)) pc loc (.int y :: .int x :: r) M k n = (zo pc off ∧ (y < x → K (zt pc off) loc r M k n) ∧ (¬ y < x → K (pc + 3) loc r M k n)) := rfl
theorem zs_icmp_le {off : Int} {r : List Value} {x : Int32} {y : Int32} : zsg cut fl lc ll dA rt ini nL Jk K post (.ok (.if_icmp .le off, 3)) pc loc (.int y :: .int x :: r) M k n = (zo pc off ∧ (x ≤ y → K (zt pc off) loc r M k n) ∧ (¬ x ≤ y → K (pc + 3) loc r M k n)) := rfl
theorem zs_ifnull0 {off : Int} {r : List Value} {x0 : Nat} : zsg cut fl lc ll dA rt ini nL Jk K post (.ok (.ifnull off, 3)) pc loc (.ref x0 :: r) M k n = (K (pc + 3) loc r M k n) := rfl
theorem zs_ifnull1 {off : Int} {r : List Value} : zsg cut fl lc ll dA rt ini nL Jk K post (.ok (.ifnull off, 3)) pc loc (.null :: r) M k n = (zo pc off ∧ K (zt pc off) loc r M k n) := rfl
theorem zs_ifnonnull0 {off : Int} {r : List Value} {x0 : Nat} : zsg cut fl lc ll dA rt ini nL Jk K post (.ok (.ifnonnull off, 3)) pc loc (.ref x0 :: r) M k n = (zo pc off ∧ K (zt pc off) loc r M k n) := rfl
theorem zs_ifnonnull1 {off : Int} {r : List Value} : zsg cut fl lc ll dA rt ini nL Jk K post (.ok (.ifnonnull off, 3)) pc loc (.null :: r) M k n = (K (pc + 3) loc r M k n) := rfl
theorem zs_goto {off : Int} : zsg cut fl lc ll dA rt ini nL Jk K post (.ok (.goto off, 3)) pc loc st M k n = (zo pc off ∧ K (zt pc off) loc st M k n) := rfl
theorem zs_tsw {d lo hi : Int} {offs : Array Int} {x : Int32} {r : List Value} : zsg cut fl lc ll dA rt ini nL Jk K post (.ok (.tableswitch d lo hi offs, len)) pc loc (.int x :: r) M k n = (zswk lo hi offs ∧ (x.toInt < lo ∨ hi < x.toInt → zo pc d ∧ K (zt pc d) loc r M k n) ∧ zswl (fun t => K t loc r M k n) pc x.toInt lo offs.toList) := rfl
theorem zs_iinc {v : Int} {x : Nat} : zsg cut fl lc ll dA rt ini nL Jk K post (.ok (.iinc x v, 3)) pc loc st M k n = (zsI (zlg loc x) = true ∧ x < nL ∧ K (pc + 3) ((x, .int (zin (zlg loc x) + Int32.ofInt v)) :: zlr loc x) st M k n) := rfl
theorem zs_get {a : Nat} {r : List Value} {x : Nat} : zsg cut fl lc ll dA rt ini nL Jk K post (.ok (.getfield x, 3)) pc loc (.ref a :: r) M k n = (zso (zrd (fl x) (M a)) = true ∧ K (pc + 3) loc (zvo (zrd (fl x) (M a)) :: r) M k n) := rfl
theorem zs_put {a : Nat} {r : List Value} {v : Value} {x : Nat} : zsg cut fl lc ll dA rt ini nL Jk K post (.ok (.putfield x, 3)) pc loc (v :: .ref a :: r) M k n = (zso (zrd (fl x) (M a)) = true ∧ zkf ini (fl x) v ∧ K (pc + 3) loc r (zu M a (zwr (fl x) (M a) v)) k n) := rfl
theorem zs_iaload {a : Nat} {i : Int32} {r : List Value} : zsg cut fl lc ll dA rt ini nL Jk K post (.ok (.iaload, 1)) pc loc (.int i :: .ref a :: r) M k n = (zai (M a) (dA 0) i ∧ K (pc + 1) loc (.int (zaf (M a) i.toNatClampNeg) :: r) M k n) := rfl
theorem zs_iastore {a : Nat} {i : Int32} {r : List Value} {x : Int32} : zsg cut fl lc ll dA rt ini nL Jk K post (.ok (.iastore, 1)) pc loc (.int x :: .int i :: .ref a :: r) M k n = (zai (M a) (dA 0) i ∧ K (pc + 1) loc r (zu M a (zaw (M a) i.toNatClampNeg x)) k n) := rfl
theorem zs_laload {a : Nat} {i : Int32} {r : List Value} : zsg cut fl lc ll dA rt ini nL Jk K post (.ok (.laload, 1)) pc loc (.int i :: .ref a :: r) M k n = (zaL (M a) (dA 3) i ∧ K (pc + 1) loc (.long (zLf (M a) i.toNatClampNeg) :: r) M k n) := rfl
theorem zs_lastore {a : Nat} {i : Int32} {r : List Value} {x : Int64} : zsg cut fl lc ll dA rt ini nL Jk K post (.ok (.lastore, 1)) pc loc (.long x :: .int i :: .ref a :: r) M k n = (zaL (M a) (dA 3) i ∧ K (pc + 1) loc r (zu M a (zLw (M a) i.toNatClampNeg x)) k n) := rfl
theorem zs_baload {a : Nat} {i : Int32} {r : List Value} : zsg cut fl lc ll dA rt ini nL Jk K post (.ok (.baload, 1)) pc loc (.int i :: .ref a :: r) M k n = (zai (M a) (dA 4) i ∧ K (pc + 1) loc (.int (zaf (M a) i.toNatClampNeg) :: r) M k n) := rfl
theorem zs_bastore {a : Nat} {i : Int32} {r : List Value} {x : Int32} : zsg cut fl lc ll dA rt ini nL Jk K post (.ok (.bastore, 1)) pc loc (.int x :: .int i :: .ref a :: r) M k n = (zai (M a) (dA 4) i ∧ (x = 0 ∨ x = 1) ∧ K (pc + 1) loc r (zu M a (zaw (M a) i.toNatClampNeg x)) k n) := rfl
theorem zs_alen {a : Nat} {r : List Value} : zsg cut fl lc ll dA rt ini nL Jk K post (.ok (.arraylength, 1)) pc loc (.ref a :: r) M k n = (zal dA (M a) ∧ K (pc + 1) loc (.int (Int32.ofNat (zan (M a))) :: r) M k n) := rfl
theorem zs_aaload {a : Nat} {i : Int32} {r : List Value} : zsg cut fl lc ll dA rt ini nL Jk K post (.ok (.aaload, 1)) pc loc (.int i :: .ref a :: r) M k n = (zaq dA (M a) i ∧ K (pc + 1) loc (va_rf (zag (M a) i.toNatClampNeg) :: r) M k n) := rfl
theorem zs_ireturn {v : Int32} : zsg cut fl lc ll dA rt ini nL Jk K post (.ok (.ireturn, 1)) pc loc ([.int v]) M k n = (zri rt v ∧ post (some (.int v)) M k n) := rfl
theorem zs_lreturn {v : Int64} : zsg cut fl lc ll dA rt ini nL Jk K post (.ok (.lreturn, 1)) pc loc ([.long v]) M k n = (rt = 4 ∧ post (some (.long v)) M k n) := rfl
theorem zs_areturn0 {v : Nat} : zsg cut fl lc ll dA rt ini nL Jk K post (.ok (.areturn, 1)) pc loc ([.ref v]) M k n = (rt = 3 ∧ post (some (.ref v)) M k n) := rfl
theorem zs_areturn1 : zsg cut fl lc ll dA rt ini nL Jk K post (.ok (.areturn, 1)) pc loc ([.null]) M k n = (rt = 3 ∧ post (some .null) M k n) := rfl
theorem zs_return : zsg cut fl lc ll dA rt ini nL Jk K post (.ok (.return_, 1)) pc loc ([]) M k n = (rt = 0 ∧ post none M k n) := rfl
theorem zx_iv {x : Nat} : zsg cut fl lc ll dA rt ini nL Jk K post (.ok (.invokevirtual x, 3)) pc loc st M k n = Jk pc loc st M k n := rfl
theorem zx_is {x : Nat} : zsg cut fl lc ll dA rt ini nL Jk K post (.ok (.invokespecial x, 3)) pc loc st M k n = Jk pc loc st M k n := rfl
theorem zx_it {x : Nat} : zsg cut fl lc ll dA rt ini nL Jk K post (.ok (.invokestatic x, 3)) pc loc st M k n = Jk pc loc st M k n := rfl
theorem zx_nw {x : Nat} : zsg cut fl lc ll dA rt ini nL Jk K post (.ok (.new x, 3)) pc loc st M k n = Jk pc loc st M k n := rfl
theorem zx_na {x : ArrayType} : zsg cut fl lc ll dA rt ini nL Jk K post (.ok (.newarray x, 2)) pc loc st M k n = Jk pc loc st M k n := rfl
theorem zx_an {x : Nat} : zsg cut fl lc ll dA rt ini nL Jk K post (.ok (.anewarray x, 3)) pc loc st M k n = Jk pc loc st M k n := rfl
theorem zx_cc {x : Nat} : zsg cut fl lc ll dA rt ini nL Jk K post (.ok (.checkcast x, 3)) pc loc st M k n = Jk pc loc st M k n := rfl
theorem zx_gs {x : Nat} : zsg cut fl lc ll dA rt ini nL Jk K post (.ok (.getstatic x, 3)) pc loc st M k n = Jk pc loc st M k n := rfl
theorem zx_as : zsg cut fl lc ll dA rt ini nL Jk K post (.ok (.aastore, 1)) pc loc st M k n = Jk pc loc st M k n := rfl
theorem zx_ae {x : Int} : zsg cut fl lc ll dA rt ini nL Jk K post (.ok (.if_acmp .eq x, 3)) pc loc st M k n = Jk pc loc st M k n := rfl
theorem zx_ac {x : Int} : zsg cut fl lc ll dA rt ini nL Jk K post (.ok (.if_acmp .ne x, 3)) pc loc st M k n = Jk pc loc st M k n := rfl
theorem zx_at : zsg cut fl lc ll dA rt ini nL Jk K post (.ok (.athrow, 1)) pc loc st M k n = Jk pc loc st M k n := rfl
theorem zr_seg : zseg cc cut fl lc ll dA rt ini nL Jk post (f + 1) pc loc st M k n = (bif cut pc then Jk pc loc st M k n else zsg cut fl lc ll dA rt ini nL Jk (zseg cc cut fl lc ll dA rt ini nL Jk post f) post (decode cc pc) pc loc st M k n) := rfl
theorem zr_t {α : Type} {a b : α} : (bif true then a else b) = a := rfl
theorem zr_f {α : Type} {a b : α} : (bif false then a else b) = b := rfl
theorem zr_tp {a b : Prop} : (bif true then a else b) = a := rfl
theorem zr_fp {a b : Prop} : (bif false then a else b) = b := rfl
theorem zr_lg {j i : Nat} {v : Value} : zlg ((j, v) :: loc) i = bif j == i then some v else zlg loc i := rfl
theorem zr_lr {j i : Nat} {v : Value} : zlr ((j, v) :: loc) i = bif j == i || (j + 1 == i && zw v) then zlr loc i else (j, v) :: zlr loc i := rfl
theorem zr_lr0 {i : Nat} : zlr [] i = [] := rfl
theorem zr_wi {x : Int32} : zw (.int x) = false := rfl
theorem zr_wr {x : Nat} : zw (.ref x) = false := rfl
theorem zr_wn : zw .null = false := rfl
theorem zr_wl {x : Int64} : zw (.long x) = true := rfl
theorem zr_vo {v : Value} : zvo (some v) = v := rfl
theorem zr_so {v : Value} : zso (some v) = true := rfl
theorem zr_sI {x : Int32} : zsI (some (.int x)) = true := rfl
theorem zr_sL {x : Int64} : zsL (some (.long x)) = true := rfl
theorem zr_sA {x : Nat} : zsA (some (.ref x)) = true := rfl
theorem zr_sN : zsA (some .null) = true := rfl
theorem zr_in {x : Int32} : zin (some (.int x)) = x := rfl
theorem zr_rd {ci fi kd c0 : Nat} {fs : List Value} : zrd (some (ci, fi, kd)) (some (.inr (c0, fs))) = bif c0 == ci then fs[fi]? else none := rfl
theorem zr_wr2 {ci fi kd c0 : Nat} {fs : List Value} {v : Value} : zwr (some (ci, fi, kd)) (some (.inr (c0, fs))) v = .inr (c0, fs.set fi v) := rfl
theorem zr_kf {ci fi kd : Nat} {v : Value} : zkf ini (some (ci, fi, kd)) v = zkv ini kd v := rfl
theorem zr_k0 {x : Int32} : zkv ini 0 (.int x) = True := rfl
theorem zr_k1 {x : Int64} : zkv ini 1 (.long x) = True := rfl
theorem zr_k2 {x : Int32} : zkv ini 2 (.int x) = (x = 0 ∨ x = 1) := rfl
theorem zr_k3 {x : Nat} : zkv ini 3 (.ref x) = True := rfl
theorem zr_k3n : zkv ini 3 .null = True := rfl
theorem zr_k10 {x : Int32} : zkv true 10 (.int x) = (true = true) := rfl
theorem zr_k11 {x : Int64} : zkv true 11 (.long x) = (true = true) := rfl
theorem zr_k12 {x : Int32} : zkv true 12 (.int x) = (true = true ∧ (x = 0 ∨ x = 1)) := rfl
theorem zr_k13 {x : Nat} : zkv true 13 (.ref x) = (true = true) := rfl
theorem zr_k13n : zkv true 13 .null = (true = true) := rfl
theorem zr_ai {c0 cA : ClassId} {nn : Nat} {g : Nat → Int32} {i : Int32} : zai (some (.inl (c0, nn, .inl g))) cA i = (c0 = cA ∧ vp_in i nn) := rfl
theorem zr_af {c0 : ClassId} {nn j : Nat} {g : Nat → Int32} : zaf (some (.inl (c0, nn, .inl g))) j = g j := rfl
theorem zr_aw {c0 : ClassId} {nn j : Nat} {g : Nat → Int32} {x : Int32} : zaw (some (.inl (c0, nn, .inl g))) j x = .inl (c0, nn, .inl (upd g j x)) := rfl
theorem zr_aL {c0 cA : ClassId} {nn : Nat} {g : Nat → Int64} {i : Int32} : zaL (some (.inl (c0, nn, .inr (.inl g)))) cA i = (c0 = cA ∧ vp_in i nn) := rfl
theorem zr_Lf {c0 : ClassId} {nn j : Nat} {g : Nat → Int64} : zLf (some (.inl (c0, nn, .inr (.inl g)))) j = g j := rfl
theorem zr_Lw {c0 : ClassId} {nn j : Nat} {g : Nat → Int64} {x : Int64} : zLw (some (.inl (c0, nn, .inr (.inl g)))) j x = .inl (c0, nn, .inr (.inl (vp_updL g j x))) := rfl
theorem zr_l2 {j i : Nat} {v : Value} : zl2 ((j, v) :: loc) i = bif j == i || (j == i + 1 || (j + 1 == i && zw v)) then zl2 loc i else (j, v) :: zl2 loc i := rfl
theorem zr_l20 {i : Nat} : zl2 [] i = [] := rfl
theorem zr_al {c0 : ClassId} {q : vp_A} : zal dA (some (.inl (c0, q))) = (∃ (t : Nat) (ty : FieldType), (kt dA)[t]? = some (c0, ty)) := rfl
theorem zr_an {c0 : ClassId} {nn : Nat} {q : (Nat → Int32) ⊕ (Nat → Int64) ⊕ (Nat → UInt32) ⊕ (Nat → UInt64) ⊕ (Nat → Option Nat)} : zan (some (.inl (c0, nn, q))) = nn := rfl
theorem zr_aq {c0 : ClassId} {nn : Nat} {g : Nat → Option Nat} {i : Int32} : zaq dA (some (.inl (c0, nn, .inr (.inr (.inr (.inr g)))))) i = ((∃ (t : Nat) (C : String), (kt dA)[t]? = some (c0, .object C)) ∧ vp_in i nn) := rfl
theorem zr_ag {c0 : ClassId} {nn j : Nat} {g : Nat → Option Nat} : zag (some (.inl (c0, nn, .inr (.inr (.inr (.inr g)))))) j = g j := rfl
theorem zr_rfs {a : Nat} : va_rf (some a) = .ref a := rfl
theorem zr_rfn : va_rf none = .null := rfl
theorem zr_r1 {x : Int32} : zri 1 x = True := rfl
theorem zr_r2 {x : Int32} : zri 2 x = (x = 0 ∨ x = 1) := rfl
theorem zr_w0 {K0 : Nat → Prop} {x v : Int} : zswl K0 pc x v [] = True := rfl
theorem zr_w1 {K0 : Nat → Prop} {x v o : Int} {os : List Int} : zswl K0 pc x v (o :: os) = ((x = v → zo pc o ∧ K0 (zt pc o)) ∧ zswl K0 pc x (v + 1) os) := rfl
theorem zr_tl {os : List Int} : (List.toArray os).toList = os := rfl
theorem zr_40 : zf4 0 = 0 := rfl
theorem zr_41 : zf4 1 = 1 := rfl
theorem zr_42 : zf4 2 = 2 := rfl
theorem zr_43 : zf4 3 = 3 := rfl
end ZR
end
section
/-! CONTRACTS over views, calls, new objects and arrays. -/
def zP (D : va_G) (dA : Nat → ClassId) (z : Nat) (M : zVw) (U : State) : Prop := z ≤ U.heap.size ∧ zhv D kc M U.heap ∧ zhd z M ∧ va_K D kc (kt dA) U ∧ zX dA z U
def zQ (D : va_G) (dA : Nat → ClassId) (z : Nat) (post : Option Value → zVw → Prop) : Array Value → State → Outcome → State → Prop := fun _ st oc t => (∃ (v : Option Value) (M : zVw), oc = .returned v ∧ post v M ∧ zP D dA z M t) ∧ va_F (fun q => z ≤ q) st t
abbrev zR (fr lo mc ms : Nat) : Room := { frames := fr, cells := mc, slots := ms, locals := lo }
/-- the contract of a method: from the view M, with the arguments As, it returns v and leaves a view M' with 'post v M'' -/
def zMet (l : Launch) (y : MethodName) (cc : ByteArray) (maxL : Nat) (ret : Option FieldType) (fr lo mc ms : Nat) (D : va_G) (dA : Nat → ClassId) (z : Nat) (As : List Value) (M : zVw) (post : Option Value → zVw → Prop) : Prop :=
  Met l y (Cond.code y cc maxL ret :: tb) (zR fr lo mc ms) (fun a U => a = As.toArray ∧ zP D dA z M U) (zQ D dA z post) mc ms (fun q => z ≤ q)
def zrt : Nat → Option FieldType → Prop
  | 0, none => True
  | 1, some .int => True
  | 2, some .boolean => True
  | 3, some (.object _) => True
  | 3, some (.array _) => True
  | 4, some .long => True
  | _, _ => False
theorem z_nb {v : Int32} (h : v = 0 ∨ v = 1) : narrow .boolean (.int v) = .int v := by
  rcases h with rfl | rfl
  · decide +kernel
  · decide +kernel
theorem z_ret {p : Program} {l : Launch} {e : Env} {R : Room} {s : State} {m : MethodId} {args : Array Value} {below : List Frame} {meth : Method} {c : Code} {own : String} {cc : ByteArray} {nL z : Nat} {D : va_G} {dA : Nat → ClassId} {ini : Bool} {rt mc ms : Nat} {ret : Option FieldType} {post : Option Value → zVw → Prop}
    (C : zC p s m args meth c own cc nL z D dA ini) (hr : meth.sig.returnType = ret) (hrt : zrt rt ret) :
    zRet rt (zJ p l e R s m args below meth c (MQ below (zQ D dA z post) args s mc ms (fun q => z ≤ q)) nL z D) cc (fun v M k n => k ≤ mc ∧ n ≤ ms ∧ post v M) := by
  have hlocks : meth.locks = false := C.2.2.2.2.2.1
  have fin : ∀ {H : Heap} {locs : List Loc} {M : zVw} {t : State}, zhv D kc M H → zhd z M → va_S (fun q => z ≤ q) s.heap H locs → t.heap = H → s.WarmedH t.vm → zP D dA z M t := by
    intro H locs M t hv hz hS ht hW
    exact ⟨by rw [ht]; exact Nat.le_trans C.2.2.2.2.2.2.2.1 hS.1, by rw [ht]; exact hv, hz, va_K.moved hW.alike C.2.2.2.2.2.2.1, zX_to C.2.2.2.2.2.2.2.2.2 hW hS ht⟩
  refine ⟨?_, ?_, ?_, ?_⟩
  · intro v pc k n loc M hv1 hp hd H locs ls hv hz hS hl
    refine W.widen (k := mc) (n := ms) hp.1 hp.2.1 ?_
    have go : ∀ ty, ret = some ty → narrow ty (.int v) = .int v → W p l e R s m args below meth c H locs mc ms (MQ below (zQ D dA z post) args s mc ms (fun q => z ≤ q)) (F0 m pc ls [.int v]) := by
      intro ty hty hn
      exact W.zret (ty := ty) C.1 C.2.1 (hr.trans hty) hn (fun t ht hW => ⟨⟨_, M, rfl, hp.2.2, fin hv hz hS ht hW⟩, hS.F ht⟩) hS.2.2 hd hlocks
    match rt, ret, hrt, hv1 with
    | 1, some .int, _, _ => exact go .int rfl rfl
    | 2, some .boolean, _, h => exact go .boolean rfl (z_nb h)
  · intro o pc k n loc M h3 hp hd H locs ls hv hz hS hl
    refine W.widen (k := mc) (n := ms) hp.1 hp.2.1 ?_
    have go : ∀ ty, ret = some ty → ((∃ n, ty = .object n) ∨ ∃ t, ty = .array t) → W p l e R s m args below meth c H locs mc ms (MQ below (zQ D dA z post) args s mc ms (fun q => z ≤ q)) (F0 m pc ls [va_rf o]) := by
      intro ty hty hn
      exact W.aret C.1 C.2.1 (hr.trans hty) hn (by cases o with | none => exact Or.inl rfl | some a => exact Or.inr ⟨a, rfl⟩) (fun t ht hW => ⟨⟨_, M, rfl, hp.2.2, fin hv hz hS ht hW⟩, hS.F ht⟩) hS.2.2 hd hlocks
    subst h3
    match ret, hrt with
    | some (.object a), _ => exact go _ rfl (Or.inl ⟨_, rfl⟩)
    | some (.array a), _ => exact go _ rfl (Or.inr ⟨_, rfl⟩)
  · intro pc k n loc M h0 hp hd H locs ls hv hz hS hl
    refine W.widen (k := mc) (n := ms) hp.1 hp.2.1 ?_
    subst h0
    match ret, hrt with
    | none, _ => exact W.vret C.1 C.2.1 hr (fun t ht hW => ⟨⟨_, M, rfl, hp.2.2, fin hv hz hS ht hW⟩, hS.F ht⟩) hS.2.2 hd hlocks
  · intro v pc k n loc M h0 hp hd H locs ls hv hz hS hl
    refine W.widen (k := mc) (n := ms) hp.1 hp.2.1 ?_
    subst h0
    match ret, hrt with
    | some .long, _ => exact W.lret C.1 C.2.1 hr (fun t ht hW => ⟨⟨_, M, rfl, hp.2.2, fin hv hz hS ht hW⟩, hS.F ht⟩) hS.2.2 hd hlocks
/-- a contract out of the walk from its entry -/
theorem z_of {l : Launch} {y : MethodName} {cc : ByteArray} {maxL : Nat} {ret : Option FieldType} {fr lo mc ms : Nat} {D : va_G} {dA : Nat → ClassId} {z : Nat} {As : List Value} {M : zVw} {post : Option Value → zVw → Prop} (rt : Nat) (ini : Bool) (hy : plainName y.cls = true) (hini : ini = true → y.name = "<init>") (hlen : (lg_sl As).length ≤ maxL) (hrt : zrt rt ret)
    (body : ∀ (p : Program) (e : Env) (s : State) (m : MethodId) (args : Array Value) (below : List Frame) (meth : Method) (c : Code), zC p s m args meth c y.cls cc maxL z D dA ini →
      zRet rt (zJ p l e (zR fr lo mc ms) s m args below meth c (MQ below (zQ D dA z post) args s mc ms (fun q => z ≤ q)) maxL z D) cc (fun v M k n => k ≤ mc ∧ n ≤ ms ∧ post v M) →
      zJ p l e (zR fr lo mc ms) s m args below meth c (MQ below (zQ D dA z post) args s mc ms (fun q => z ≤ q)) maxL z D 0 (lv_args 0 As) [] M 0 0) : zMet l y cc maxL ret fr lo mc ms D dA z As M post := by
  refine Met.ofW (cc := cc) (maxL := maxL) (ret := ret) hy rfl ?_
  intro p e s m args below meth c s₁ B hml hv
  obtain ⟨rfl, hz, hv, hd, hK, hX⟩ := hv
  have hts := atoms_spec (ws := Cond.code y cc maxL ret :: tb) B.pre
  have C : zC p s m As.toArray meth c y.cls cc maxL z D dA ini := ⟨B.exec, B.bytes, hml, findClass_of_methodNamed B.named, fun w hw => hts w (List.mem_cons_of_mem _ hw), B.notSynchronized, hK, hz, fun hi => (name_of_methodNamed B.named B.method).1.trans (hini hi), hX⟩
  have hl := lv_entry As (n := maxL) hlen
  rw [lg_entry_eq]
  exact body p e s m As.toArray below meth c C (z_ret C B.returns hrt) s.heap [] _ hv hd va_S.rf hl
section ZCALL
variable {p : Program} {l : Launch} {e : Env} {R : Room} {s : State} {m : MethodId} {args : Array Value} {below : List Frame} {meth : Method} {c : Code} {Q : State → Prop} {own : String} {cc : ByteArray} {nL z : Nat} {D : va_G} {dA : Nat → ClassId} {ini : Bool} {pc k n x : Nat} {loc : List (Nat × Value)} {M : zVw} {st rest As : List Value} {y : MethodName} {cc' : ByteArray} {maxL fr lo mc ms : Nat} {ret : Option FieldType} {post : Option Value → zVw → Prop}
theorem z_good (hc : Cond.code y cc' maxL ret ∈ tb) : GoodIn tb (Cond.code y cc' maxL ret :: tb) := by
  intro w hw
  have hm : w ∈ tb := by
    rcases List.mem_cons.mp hw with rfl | h
    · exact hc
    · exact h
  exact ⟨hm, good_of_word (tb_good w hm)⟩
theorem z_blind : FrameBlind (fun a U => a = As.toArray ∧ zP D dA z M U) := fun a U g mk q => by
  obtain ⟨q0, q1, q2, q3, q4, q5⟩ := q
  exact ⟨q0, q1, q2, q3, va_K.moved (u := U) (U := U.calling g mk a) (Vm.Alike.refl U.vm) q4, zX_same (t := U.calling g mk a) q5 rfl rfl⟩
theorem z_pre {H : Heap} {locs : List Loc} (C : zC p s m args meth c own cc nL z D dA ini) (hv : zhv D kc M H) (hz : zhd z M) (hS : va_S (fun q => z ≤ q) s.heap H locs) : ∀ U : State, U.heap = H → s.WarmedH U.vm → (As.toArray = As.toArray ∧ zP D dA z M U) := fun U hU hW =>
  ⟨rfl, by rw [hU]; exact Nat.le_trans C.2.2.2.2.2.2.2.1 hS.1, by rw [hU]; exact hv, hz, va_K.moved hW.alike C.2.2.2.2.2.2.1, zX_to C.2.2.2.2.2.2.2.2.2 hW hS hU⟩
/-- behind a call -/
theorem z_after {H : Heap} {locs : List Loc} {ls : Array Slot} {a : Array Value} (hr : va_Run p l e R s m args below meth c H locs k n mc ms (F0 m pc ls st) rest (zQ D dA z post a) (fun q => z ≤ q)) (hS : va_S (fun q => z ≤ q) s.heap H locs) (hl : lv_has ls nL loc)
    (kk : ∀ (v : Option Value) (M' : zVw), post v M' → zJ p l e R s m args below meth c Q nL z D (pc + 3) loc (v.toList ++ rest) M' (k + mc) (n + ms)) : W p l e R s m args below meth c H locs k n Q (F0 m pc ls st) := by
  intro T hT X
  obtain ⟨v, st₀, t, T', L, h0, X', hL, e1, e2, ⟨⟨v', M', hv', hpost, hz', hvt, hdt, hKt, hXt⟩, hz1, hk1⟩, stp⟩ := hr T hT X
  cases hv'
  rw [h0] at hz1 hk1
  obtain ⟨t2, a1, b1⟩ := kk v M' hpost T'.heap (locs ++ L) ls (by rw [e1]; exact hvt) hdt ⟨Nat.le_trans hS.1 (by rw [e1]; exact hz1), fun q h1 h2 => by rw [e1, hk1 q (Nat.lt_of_lt_of_le h1 hS.1) h2]; exact hS.2.1 q h1 h2, fun q hq => by
      rcases List.mem_append.mp hq with h | h
      · exact hS.2.2 q h
      · exact hL q h⟩ hl T' rfl X'
  exact ⟨t2, stp t2 a1, b1⟩
/-- what a call's numbers and words are: decided once a call -/
def zcb (own : String) (x : Nat) (y : MethodName) (cc' : ByteArray) (maxL : Nat) (ret : Option FieldType) (na : Nat) : Prop :=
  Cond.code y cc' maxL ret ∈ tb ∧ Cond.initialized y.cls ∈ tb ∧ Cond.methodLink own x y ∈ tb ∧ y.cls ≠ "java/lang/invoke/MethodHandle" ∧ y.cls ≠ "java/lang/invoke/VarHandle" ∧ (parseMethodDescriptor y.desc).map (fun d => d.parameters.length) = some na
theorem z_cb {na : Nat} (C : zC p s m args meth c own cc nL z D dA ini) (h : zcb own x y cc' maxL ret na) (hroom : fr + 1 ≤ R.frames ∧ 8 + (maxL + 11) + lo ≤ R.locals) : CallB R s args own x y cc' maxL ret (Cond.code y cc' maxL ret :: tb) (zR fr lo mc ms) mc ms na :=
  callB_of na C.2.2.2.2.1 (z_good h.1) rfl rfl rfl (C.2.2.2.2.1 _ h.2.1) (C.2.2.2.2.1 _ h.2.2.1) h.2.2.2 hroom
theorem zJ_callV {b ci : Nat} {fs : List Value} {r : vw_C} (C : zC p s m args meth c own cc nL z D dA ini) (hd : decode cc pc = .ok (.invokevirtual x, 3)) (hm : zMet l y cc' maxL ret fr lo mc ms D dA z (.ref b :: As) M post) (hw : zcb own x y cc' maxL ret As.length) (hi : Cond.instanceMethod y ∈ tb) (hs : Cond.selects y.cls y y ∈ tb)
    (hb : M b = some (.inr (ci, fs))) (hc : kc[ci]? = some r) (hry : r.1 = y.cls) (hroom : fr + 1 ≤ R.frames ∧ 8 + (maxL + 11) + lo ≤ R.locals) (hcs : k + mc ≤ R.cells ∧ n + ms ≤ R.slots) (hst : st = As.reverse ++ .ref b :: rest) (hcat : (rest.map fun v => v.category).sum ≤ 8)
    (kk : ∀ (v : Option Value) (M' : zVw), post v M' → zJ p l e R s m args below meth c Q nL z D (pc + 3) loc (v.toList ++ rest) M' (k + mc) (n + ms)) : zJ p l e R s m args below meth c Q nL z D pc loc st M k n := by
  intro H locs ls hv hz hS hl
  obtain ⟨ws, hP, hD, hin, -⟩ := zv_ws hv hz
  obtain ⟨j, hj⟩ := hin b _ hb
  have hrec := va_recv C.2.2.2.2.2.2.1 hP hc hj
  rw [hry] at hrec
  exact z_after (va_runV (As := As) (rest := rest) ⟨C.1, C.2.1, C.2.2.1, C.2.2.2.1, C.2.2.2.2.1⟩ hm ⟨z_cb C hw hroom, C.2.2.2.2.1 _ hi, C.2.2.2.2.1 _ hs⟩ ⟨z_blind, hrec, z_pre C hv hz hS⟩ rfl rfl hl.1 hst (lv_room hcat) hd hcs) hS hl kk
theorem zJ_callS (C : zC p s m args meth c own cc nL z D dA ini) (hd : decode cc pc = .ok (.invokestatic x, 3)) (hm : zMet l y cc' maxL ret fr lo mc ms D dA z As M post) (hw : zcb own x y cc' maxL ret As.length) (hi : Cond.static y ∈ tb)
    (hroom : fr + 1 ≤ R.frames ∧ 8 + (maxL + 11) + lo ≤ R.locals) (hcs : k + mc ≤ R.cells ∧ n + ms ≤ R.slots) (hst : st = As.reverse ++ rest) (hcat : (rest.map fun v => v.category).sum ≤ 8)
    (kk : ∀ (v : Option Value) (M' : zVw), post v M' → zJ p l e R s m args below meth c Q nL z D (pc + 3) loc (v.toList ++ rest) M' (k + mc) (n + ms)) : zJ p l e R s m args below meth c Q nL z D pc loc st M k n := by
  intro H locs ls hv hz hS hl
  exact z_after (va_runS (As := As) (rest := rest) ⟨C.1, C.2.1, C.2.2.1, C.2.2.2.1, C.2.2.2.2.1⟩ hm ⟨z_cb C hw hroom, C.2.2.2.2.1 _ hi⟩ ⟨z_blind, z_pre C hv hz hS⟩ rfl rfl hl.1 hst (lv_room hcat) hd hcs) hS hl kk
theorem zJ_callI {b : Nat} (C : zC p s m args meth c own cc nL z D dA ini) (hd : decode cc pc = .ok (.invokespecial x, 3)) (hm : zMet l y cc' maxL none fr lo mc ms D dA z (.ref b :: As) M post) (hw : zcb own x y cc' maxL none As.length) (hi : Cond.instanceMethod y ∈ tb) (hn : y.name = "<init>")
    (hroom : fr + 1 ≤ R.frames ∧ 8 + (maxL + 11) + lo ≤ R.locals) (hcs : k + mc ≤ R.cells ∧ n + ms ≤ R.slots) (hst : st = As.reverse ++ .ref b :: rest) (hcat : (rest.map fun v => v.category).sum ≤ 8)
    (kk : ∀ (v : Option Value) (M' : zVw), post v M' → zJ p l e R s m args below meth c Q nL z D (pc + 3) loc (v.toList ++ rest) M' (k + mc) (n + ms)) : zJ p l e R s m args below meth c Q nL z D pc loc st M k n := by
  intro H locs ls hv hz hS hl
  exact z_after (va_runI (As := As) (rest := rest) ⟨C.1, C.2.1, C.2.2.1, C.2.2.2.1, C.2.2.2.2.1⟩ hm ⟨z_cb C hw hroom, hn, C.2.2.2.2.1 _ hi⟩ ⟨z_blind, z_pre C hv hz hS⟩ rfl rfl hl.1 hst (lv_room hcat) hd hcs) hS hl kk
/-- the same of a private method of a nest mate -/
def zcn (own : String) (x : Nat) (y : MethodName) (host : String) (cc' : ByteArray) (maxL : Nat) (ret : Option FieldType) (na : Nat) : Prop :=
  Cond.code y cc' maxL ret ∈ tb ∧ Cond.initialized y.cls ∈ tb ∧ Cond.methodLinkNest own x y host ∈ tx ∧ y.cls ≠ "java/lang/invoke/MethodHandle" ∧ y.cls ≠ "java/lang/invoke/VarHandle" ∧ (parseMethodDescriptor y.desc).map (fun d => d.parameters.length) = some na
theorem z_cn {na : Nat} {host : String} (C : zC p s m args meth c own cc nL z D dA ini) (h : zcn own x y host cc' maxL ret na) (hroom : fr + 1 ≤ R.frames ∧ 8 + (maxL + 11) + lo ≤ R.locals) : va_CN R s args own x y host cc' maxL ret (Cond.code y cc' maxL ret :: tb) (zR fr lo mc ms) mc ms na :=
  va_cnB na C.2.2.2.2.1 (z_good h.1) rfl rfl rfl (C.2.2.2.2.2.2.2.2.2.2.2.2.1 _ h.2.2.1) (C.2.2.2.2.1 _ h.2.1) h.2.2.2 hroom
theorem zJ_callIN {b : Nat} {host : String} (C : zC p s m args meth c own cc nL z D dA ini) (hd : decode cc pc = .ok (.invokespecial x, 3)) (hm : zMet l y cc' maxL none fr lo mc ms D dA z (.ref b :: As) M post) (hw : zcn own x y host cc' maxL none As.length) (hi : Cond.instanceMethod y ∈ tb) (hn : y.name = "<init>")
    (hroom : fr + 1 ≤ R.frames ∧ 8 + (maxL + 11) + lo ≤ R.locals) (hcs : k + mc ≤ R.cells ∧ n + ms ≤ R.slots) (hst : st = As.reverse ++ .ref b :: rest) (hcat : (rest.map fun v => v.category).sum ≤ 8)
    (kk : ∀ (v : Option Value) (M' : zVw), post v M' → zJ p l e R s m args below meth c Q nL z D (pc + 3) loc (v.toList ++ rest) M' (k + mc) (n + ms)) : zJ p l e R s m args below meth c Q nL z D pc loc st M k n := by
  intro H locs ls hv hz hS hl
  exact z_after (va_runIN (As := As) (rest := rest) ⟨C.1, C.2.1, C.2.2.1, C.2.2.2.1, C.2.2.2.2.1⟩ hm ⟨z_cn C hw hroom, hn, C.2.2.2.2.1 _ hi⟩ ⟨z_blind, z_pre C hv hz hS⟩ rfl rfl hl.1 hst (lv_room hcat) hd hcs) hS hl kk
/-- Object's constructor -/
theorem zJ_obj {a : Nat} (C : zC p s m args meth c own cc nL z D dA ini) (hd : decode cc pc = .ok (.invokespecial x, 3)) (h1 : Cond.methodLink own x objectInit ∈ tb) (h2 : Cond.instanceMethod objectInit ∈ tb) (h3 : Cond.code objectInit ⟨#[0xb1]⟩ 1 none ∈ tb) (hf : 1 ≤ R.frames) (hlo : (rest.map fun v => v.category).sum + 12 ≤ R.locals)
    (kk : zJ p l e R s m args below meth c Q nL z D (pc + 3) loc rest M k n) : zJ p l e R s m args below meth c Q nL z D pc loc (.ref a :: rest) M k n := by
  intro H locs ls hv hz hS hl
  refine W.objInit C.1 C.2.1 C.2.2.2.1 (C.2.2.2.2.1 _ h1) (C.2.2.2.2.1 _ h2) (C.2.2.2.2.1 _ h3) rfl (by rw [C.2.2.1]; exact hl.1) rfl hd hf ?_ (W.eq (g2 := F0 m (pc + 3) ls rest) rfl (kk H locs ls hv hz hS hl))
  show 2 * 0 + _ + 12 ≤ _
  omega
/-- a class of the list: its words and fields -/
def zcl (ci : Nat) (r : vw_C) (ty : Nat → FieldType) : Prop := kc[ci]? = some r ∧ (∀ w ∈ u_ws r.1 r.2.1 r.2.2, w ∈ tb) ∧ (∀ j, j < r.2.2 → parseFieldDescriptor (r.2.1 j).2.2.1 = some (ty j)) ∧ Cond.instantiable r.1 r.2.2 ∈ tb ∧ Cond.initialized r.1 ∈ tb
theorem zJ_new {ci : Nat} {r : vw_C} {ty : Nat → FieldType} (fs : List Value) (C : zC p s m args meth c own cc nL z D dA ini) (hc : zcl ci r ty) (hd : decode cc pc = .ok (.new x, 3)) (hl0 : Cond.classLink own x r.1 ∈ tb) (hfs : ∀ j, j < r.2.2 → defaultValue (ty j) = vp_V fs j) (hcs : k + 1 ≤ R.cells ∧ n + r.2.2 ≤ R.slots)
    (kk : ∀ q : Nat, M q = none → z ≤ q → zJ p l e R s m args below meth c Q nL z D (pc + 3) loc (.ref q :: st) (zu M q (.inr (ci, fs))) (k + 1) (n + r.2.2)) : zJ p l e R s m args below meth c Q nL z D pc loc st M k n := by
  intro H locs ls hv hz hS hl
  obtain ⟨ws, hP, hD, hin, hset, hpush, hfr, -⟩ := zv_ws hv hz
  refine va_new (ci := ci) (fs := fs) (C := r.1) (T := r.2.1) (N := r.2.2) C.1 C.2.1 C.2.2.2.2.1 hc.2.1 ty hc.2.2.1 C.2.2.2.1 (C.2.2.2.2.1 _ hl0) (C.2.2.2.2.1 _ hc.2.2.2.1) (C.2.2.2.2.1 _ hc.2.2.2.2) C.2.2.2.2.2.2.1 hP hD hS (fun q h => Nat.le_trans C.2.2.2.2.2.2.2.1 h) hc.1 hfs hcs.1 hcs.2 hd (fun q H1 hP1 hD1 hS1 => ?_)
  obtain ⟨h1, h2⟩ := hfr q _ hD1
  exact kk q h1 h2 H1 locs ls (hpush q _ H1 hP1) (zhd_u hz h2) hS1 hl
/-- a new array of ints -/
theorem zJ_newI {i : Int32} {N : Nat} (C : zC p s m args meth c own cc nL z D dA ini) (hd : decode cc pc = .ok (.newarray .int, 2)) (hw : Cond.arrayClass .int ∈ tb) (hi : i = nI N) (hN : N < 1000000) (hcs : k + 1 ≤ R.cells ∧ n + N ≤ R.slots)
    (kk : ∀ q : Nat, M q = none → z ≤ q → zJ p l e R s m args below meth c Q nL z D (pc + 2) loc (.ref q :: rest) (zu M q (.inl (dA 0, N, .inl (fun _ => 0)))) (k + 1) (n + N)) : zJ p l e R s m args below meth c Q nL z D pc loc (.int i :: rest) M k n := by
  intro H locs ls hv hz hS hl
  subst hi
  obtain ⟨ws, hP, hD, hin, hset, hpush, hfr, -⟩ := zv_ws hv hz
  refine va_newa (atype := .int) (ty := .int) (a0 := (N, .inl (fun _ => 0))) (N' := N) C.1 C.2.1 (C.2.2.2.2.1 _ hw) rfl C.2.2.2.2.2.2.1 hP hD hS (fun q h => Nat.le_trans C.2.2.2.2.2.2.2.1 h) (fun cA => rfl) (nI_pos (by omega)) (nI_clamp (by omega)) (by show N * 4 ≤ _; omega) hcs.1 hcs.2 hd (fun q cA H1 hK1 hP1 hD1 hS1 => ?_)
  obtain ⟨h1, h2⟩ := hfr q _ hD1
  have e1 : cA = dA 0 := by
    have a1 : s.vm.findClass ("[" ++ FieldType.int.toString) = some cA := (hK1.2 (kt dA).length (cA, .int) (by rw [List.getElem?_append_right (Nat.le_refl _), Nat.sub_self]; rfl)).2
    have a2 : s.vm.findClass ("[" ++ FieldType.int.toString) = some (dA 0) := (C.2.2.2.2.2.2.1.2 0 (dA 0, .int) rfl).2
    exact Option.some.inj (a1.symm.trans a2)
  subst e1
  exact kk q h1 h2 H1 locs ls (hpush q _ H1 hP1) (zhd_u hz h2) hS1 hl
/-- a new array of longs -/
theorem zJ_newL {i : Int32} {N : Nat} (C : zC p s m args meth c own cc nL z D dA ini) (hd : decode cc pc = .ok (.newarray .long, 2)) (hw : Cond.arrayClass .long ∈ tb) (hi : i = nI N) (hN : N < 1000000) (hcs : k + 1 ≤ R.cells ∧ n + N ≤ R.slots)
    (kk : ∀ q : Nat, M q = none → z ≤ q → zJ p l e R s m args below meth c Q nL z D (pc + 2) loc (.ref q :: rest) (zu M q (.inl (dA 3, N, .inr (.inl (fun _ => 0))))) (k + 1) (n + N)) : zJ p l e R s m args below meth c Q nL z D pc loc (.int i :: rest) M k n := by
  intro H locs ls hv hz hS hl
  subst hi
  obtain ⟨ws, hP, hD, hin, hset, hpush, hfr, -⟩ := zv_ws hv hz
  refine va_newa (atype := .long) (ty := .long) (a0 := (N, .inr (.inl (fun _ => 0)))) (N' := N) C.1 C.2.1 (C.2.2.2.2.1 _ hw) rfl C.2.2.2.2.2.2.1 hP hD hS (fun q h => Nat.le_trans C.2.2.2.2.2.2.2.1 h) (fun cA => rfl) (nI_pos (by omega)) (nI_clamp (by omega)) (by show N * 8 ≤ _; omega) hcs.1 hcs.2 hd (fun q cA H1 hK1 hP1 hD1 hS1 => ?_)
  obtain ⟨h1, h2⟩ := hfr q _ hD1
  have e1 : cA = dA 3 := by
    have a1 : s.vm.findClass ("[" ++ FieldType.long.toString) = some cA := (hK1.2 (kt dA).length (cA, .long) (by rw [List.getElem?_append_right (Nat.le_refl _), Nat.sub_self]; rfl)).2
    have a2 : s.vm.findClass ("[" ++ FieldType.long.toString) = some (dA 3) := (C.2.2.2.2.2.2.1.2 3 (dA 3, .long) rfl).2
    exact Option.some.inj (a1.symm.trans a2)
  subst e1
  exact kk q h1 h2 H1 locs ls (hpush q _ H1 hP1) (zhd_u hz h2) hS1 hl
/-- a new array of booleans -/
theorem zJ_newZ {i : Int32} {N : Nat} (C : zC p s m args meth c own cc nL z D dA ini) (hd : decode cc pc = .ok (.newarray .boolean, 2)) (hw : Cond.arrayClass .boolean ∈ tb) (hi : i = nI N) (hN : N < 1000000) (hcs : k + 1 ≤ R.cells ∧ n + N ≤ R.slots)
    (kk : ∀ q : Nat, M q = none → z ≤ q → zJ p l e R s m args below meth c Q nL z D (pc + 2) loc (.ref q :: rest) (zu M q (.inl (dA 4, N, .inl (fun _ => 0)))) (k + 1) (n + N)) : zJ p l e R s m args below meth c Q nL z D pc loc (.int i :: rest) M k n := by
  intro H locs ls hv hz hS hl
  subst hi
  obtain ⟨ws, hP, hD, hin, hset, hpush, hfr, -⟩ := zv_ws hv hz
  refine va_newa (atype := .boolean) (ty := .boolean) (a0 := (N, .inl (fun _ => 0))) (N' := N) C.1 C.2.1 (C.2.2.2.2.1 _ hw) rfl C.2.2.2.2.2.2.1 hP hD hS (fun q h => Nat.le_trans C.2.2.2.2.2.2.2.1 h) (fun cA => rfl) (nI_pos (by omega)) (nI_clamp (by omega)) (by show N * 1 ≤ _; omega) hcs.1 hcs.2 hd (fun q cA H1 hK1 hP1 hD1 hS1 => ?_)
  obtain ⟨h1, h2⟩ := hfr q _ hD1
  have e1 : cA = dA 4 := by
    have a1 : s.vm.findClass ("[" ++ FieldType.boolean.toString) = some cA := (hK1.2 (kt dA).length (cA, .boolean) (by rw [List.getElem?_append_right (Nat.le_refl _), Nat.sub_self]; rfl)).2
    have a2 : s.vm.findClass ("[" ++ FieldType.boolean.toString) = some (dA 4) := (C.2.2.2.2.2.2.1.2 4 (dA 4, .boolean) rfl).2
    exact Option.some.inj (a1.symm.trans a2)
  subst e1
  exact kk q h1 h2 H1 locs ls (hpush q _ H1 hP1) (zhd_u hz h2) hS1 hl
/-- a new array of references -/
theorem zJ_newQ {i : Int32} {N t : Nat} {C0 : String} (C : zC p s m args meth c own cc nL z D dA ini) (hd : decode cc pc = .ok (.anewarray x, 3)) (hw : Cond.classLink own x C0 ∈ tb) (hw2 : va_AO C0 s) (ht : (kt dA)[t]? = some (dA t, .object C0)) (hi : i = nI N) (hN : N < 1000000) (hcs : k + 1 ≤ R.cells ∧ n + N ≤ R.slots)
    (kk : ∀ q : Nat, M q = none → z ≤ q → zJ p l e R s m args below meth c Q nL z D (pc + 3) loc (.ref q :: rest) (zu M q (.inl (dA t, N, .inr (.inr (.inr (.inr (fun _ => none))))))) (k + 1) (n + N)) : zJ p l e R s m args below meth c Q nL z D pc loc (.int i :: rest) M k n := by
  intro H locs ls hv hz hS hl
  subst hi
  obtain ⟨ws, hP, hD, hin, hset, hpush, hfr, -⟩ := zv_ws hv hz
  refine va_newq (C := C0) (N' := N) C.1 C.2.1 C.2.2.2.1 (C.2.2.2.2.1 _ hw) hw2 C.2.2.2.2.2.2.1 hP hD hS (fun q h => Nat.le_trans C.2.2.2.2.2.2.2.1 h) (nI_pos (by omega)) (nI_clamp (by omega)) (by omega) hcs.1 hcs.2 hd (fun q cA H1 hK1 hP1 hD1 hS1 => ?_)
  obtain ⟨h1, h2⟩ := hfr q _ hD1
  have e1 : cA = dA t := by
    obtain ⟨_, _, _, _, _, a1⟩ := (hK1.2 (kt dA).length (cA, .object C0) (by rw [List.getElem?_append_right (Nat.le_refl _), Nat.sub_self]; rfl)).2
    obtain ⟨_, _, _, _, _, a2⟩ := (C.2.2.2.2.2.2.1.2 t (dA t, .object C0) ht).2
    exact Option.some.inj (a1.symm.trans a2)
  subst e1
  exact kk q h1 h2 H1 locs ls (hpush q _ H1 hP1) (zhd_u hz h2) hS1 hl
/-- a cast of an object of the list's class -/
theorem zJ_cast {a ci : Nat} {fs : List Value} {r : vw_C} {nm : String} (C : zC p s m args meth c own cc nL z D dA ini) (hd : decode cc pc = .ok (.checkcast x, 3)) (hw : Cond.classLink own x nm ∈ tb) (hc : kc[ci]? = some r) (hn : r.1 = nm) (ha : M a = some (.inr (ci, fs)))
    (kk : zJ p l e R s m args below meth c Q nL z D (pc + 3) loc (.ref a :: rest) M k n) : zJ p l e R s m args below meth c Q nL z D pc loc (.ref a :: rest) M k n := by
  intro H locs ls hv hz hS hl
  obtain ⟨ws, hP, hD, hin, -⟩ := zv_ws hv hz
  obtain ⟨j, hj⟩ := hin a _ ha
  have hrec := va_recv C.2.2.2.2.2.2.1 hP hc hj
  subst hn
  exact va_castS C.1 C.2.1 C.2.2.2.1 (C.2.2.2.2.1 _ hw) (C.2.2.2.2.2.2.1.1 ci r hc).2 hrec hd (kk H locs ls hv hz hS hl)
/-- a store of an object into an array of its own class, or of Object -/
theorem zJ_aast {a v t nn ci : Nat} {i : Int32} {g : Nat → Option Nat} {cA : ClassId} {fs : List Value} {r : vw_C} {E : String} (C : zC p s m args meth c own cc nL z D dA ini) (hd : decode cc pc = .ok (.aastore, 1)) (ha : M a = some (.inl (cA, nn, .inr (.inr (.inr (.inr g)))))) (ht : (kt dA)[t]? = some (cA, .object E)) (hv0 : M v = some (.inr (ci, fs))) (hc : kc[ci]? = some r) (hE : r.1 = E ∨ Cond.castable r.1 E ∈ tx) (hi : vp_in i nn)
    (kk : zJ p l e R s m args below meth c Q nL z D (pc + 1) loc rest (zu M a (.inl (cA, nn, .inr (.inr (.inr (.inr (va_up g i.toNatClampNeg (some v)))))))) k n) : zJ p l e R s m args below meth c Q nL z D pc loc (.ref v :: .int i :: .ref a :: rest) M k n := by
  intro H locs ls hv hz hS hl
  obtain ⟨ws, hP, hD, hin, hset, -⟩ := zv_ws hv hz
  obtain ⟨j, hj⟩ := hin a _ ha
  obtain ⟨j2, hj2⟩ := hin v _ hv0
  rcases hE with hE | hE
  · subst hE
    exact va_astq C.1 C.2.1 C.2.2.2.2.2.2.1 hP hD hS j t j2 ci hj ht hj2 hc hi hd (fun H1 locs1 hP1 hD1 hS1 => kk H1 locs1 ls (hset j a _ _ H1 hj hP1) (zhd_u hz (hz a _ ha)) hS1 hl)
  · exact va_astqO C.1 C.2.1 C.2.2.2.2.2.2.1 hP hD hS j t j2 ci hj ht (C.2.2.2.2.2.2.2.2.2.2.2.2.1 _ hE) hj2 hc hi hd (fun H1 locs1 hP1 hD1 hS1 => kk H1 locs1 ls (hset j a _ _ H1 hj hP1) (zhd_u hz (hz a _ ha)) hS1 hl)
/-- fewer locals, in any order; another count of cells -/
theorem zJ_loc {loc' : List (Nat × Value)} (h : ∀ q ∈ loc', q ∈ loc) (kk : zJ p l e R s m args below meth c Q nL z D pc loc' st M k n) : zJ p l e R s m args below meth c Q nL z D pc loc st M k n :=
  fun H locs ls hv hz hS hl => kk H locs ls hv hz hS ⟨hl.1, hl.2.1, fun q hq => hl.2.2 q (h q hq)⟩
theorem zJ_wide {k' n' : Nat} (h1 : k ≤ k') (h2 : n ≤ n') (kk : zJ p l e R s m args below meth c Q nL z D pc loc st M k' n') : zJ p l e R s m args below meth c Q nL z D pc loc st M k n :=
  fun H locs ls hv hz hS hl => W.widen h1 h2 (kk H locs ls hv hz hS hl)
end ZCALL
end
section
theorem tb_at {w : Cond} (i : Nat) (h : lw_tbl[i]? = some w) (hg : goodWord w = true) : w ∈ tb := List.mem_filter.mpr ⟨List.mem_of_getElem? h, hg⟩
theorem tb_1 {w : Cond} (i : Nat) (h : tables_1_1[i]? = some w) (hg : goodWord w = true) : w ∈ tb := List.mem_filter.mpr ⟨List.mem_append_right _ (List.mem_append_left _ (List.mem_of_getElem? h)), hg⟩
theorem tb_2 {w : Cond} (i : Nat) (h : tables_1_2[i]? = some w) (hg : goodWord w = true) : w ∈ tb := List.mem_filter.mpr ⟨List.mem_append_right _ (List.mem_append_right _ (List.mem_append_left _ (List.mem_of_getElem? h))), hg⟩
theorem tb_3 {w : Cond} (i : Nat) (h : tables_1_3[i]? = some w) (hg : goodWord w = true) : w ∈ tb := List.mem_filter.mpr ⟨List.mem_append_right _ (List.mem_append_right _ (List.mem_append_right _ (List.mem_of_getElem? h))), hg⟩
/-! LINKS: written by wip/whole/genlinks.py out of the words. -/
def fl_D : Nat → Option (Nat × Nat × Nat) := fun x => match x with
  | 12 => some (0, 0, 13)
  | 16 => some (0, 1, 13)
  | 22 => some (0, 2, 13)
  | 28 => some (0, 3, 13)
  | 32 => some (0, 4, 1)
  | 65 => some (4, 0, 2)
  | 73 => some (6, 3, 20)
  | 81 => some (4, 1, 1)
  | 93 => some (4, 2, 20)
  | 121 => some (2, 0, 20)
  | 125 => some (2, 1, 20)
  | 128 => some (2, 2, 20)
  | 135 => some (5, 3, 0)
  | 144 => some (6, 1, 20)
  | 151 => some (5, 9, 0)
  | 154 => some (5, 8, 0)
  | 157 => some (5, 0, 0)
  | 160 => some (6, 4, 0)
  | 163 => some (5, 2, 2)
  | 166 => some (1, 0, 20)
  | 169 => some (1, 2, 20)
  | 172 => some (1, 1, 20)
  | 175 => some (1, 5, 20)
  | 178 => some (6, 0, 20)
  | 181 => some (5, 10, 0)
  | 187 => some (6, 2, 20)
  | _ => none
theorem fl_D_12 : fl_D 12 = some (0, 0, 13) := rfl
theorem fl_D_16 : fl_D 16 = some (0, 1, 13) := rfl
theorem fl_D_22 : fl_D 22 = some (0, 2, 13) := rfl
theorem fl_D_28 : fl_D 28 = some (0, 3, 13) := rfl
theorem fl_D_32 : fl_D 32 = some (0, 4, 1) := rfl
theorem fl_D_65 : fl_D 65 = some (4, 0, 2) := rfl
theorem fl_D_73 : fl_D 73 = some (6, 3, 20) := rfl
theorem fl_D_81 : fl_D 81 = some (4, 1, 1) := rfl
theorem fl_D_93 : fl_D 93 = some (4, 2, 20) := rfl
theorem fl_D_121 : fl_D 121 = some (2, 0, 20) := rfl
theorem fl_D_125 : fl_D 125 = some (2, 1, 20) := rfl
theorem fl_D_128 : fl_D 128 = some (2, 2, 20) := rfl
theorem fl_D_135 : fl_D 135 = some (5, 3, 0) := rfl
theorem fl_D_144 : fl_D 144 = some (6, 1, 20) := rfl
theorem fl_D_151 : fl_D 151 = some (5, 9, 0) := rfl
theorem fl_D_154 : fl_D 154 = some (5, 8, 0) := rfl
theorem fl_D_157 : fl_D 157 = some (5, 0, 0) := rfl
theorem fl_D_160 : fl_D 160 = some (6, 4, 0) := rfl
theorem fl_D_163 : fl_D 163 = some (5, 2, 2) := rfl
theorem fl_D_166 : fl_D 166 = some (1, 0, 20) := rfl
theorem fl_D_169 : fl_D 169 = some (1, 2, 20) := rfl
theorem fl_D_172 : fl_D 172 = some (1, 1, 20) := rfl
theorem fl_D_175 : fl_D 175 = some (1, 5, 20) := rfl
theorem fl_D_178 : fl_D 178 = some (6, 0, 20) := rfl
theorem fl_D_181 : fl_D 181 = some (5, 10, 0) := rfl
theorem fl_D_187 : fl_D 187 = some (6, 2, 20) := rfl
set_option maxRecDepth 100000 in
theorem fk_D : zfl "DoorActs" fl_D := by
  intro x ci f kd h
  unfold fl_D at h
  split at h
  · cases h
    exact ⟨(R_D, T_D, 5), "DoorActs", t_D, rfl, by decide, tb_1 91 rfl rfl, Or.inl rfl, i_D, to_D, no_D, Or.inr (Or.inr (Or.inr (Or.inr (Or.inr (Or.inr (Or.inr (Or.inl ⟨rfl, by first | exact Or.inl ⟨_, rfl⟩ | exact Or.inr ⟨_, rfl⟩, rfl, rfl⟩)))))))⟩
  · cases h
    exact ⟨(R_D, T_D, 5), "DoorActs", t_D, rfl, by decide, tb_1 92 rfl rfl, Or.inl rfl, i_D, to_D, no_D, Or.inr (Or.inr (Or.inr (Or.inr (Or.inr (Or.inr (Or.inr (Or.inl ⟨rfl, by first | exact Or.inl ⟨_, rfl⟩ | exact Or.inr ⟨_, rfl⟩, rfl, rfl⟩)))))))⟩
  · cases h
    exact ⟨(R_D, T_D, 5), "DoorActs", t_D, rfl, by decide, tb_1 93 rfl rfl, Or.inl rfl, i_D, to_D, no_D, Or.inr (Or.inr (Or.inr (Or.inr (Or.inr (Or.inr (Or.inr (Or.inl ⟨rfl, by first | exact Or.inl ⟨_, rfl⟩ | exact Or.inr ⟨_, rfl⟩, rfl, rfl⟩)))))))⟩
  · cases h
    exact ⟨(R_D, T_D, 5), "DoorActs", t_D, rfl, by decide, tb_1 94 rfl rfl, Or.inl rfl, i_D, to_D, no_D, Or.inr (Or.inr (Or.inr (Or.inr (Or.inr (Or.inr (Or.inr (Or.inl ⟨rfl, by first | exact Or.inl ⟨_, rfl⟩ | exact Or.inr ⟨_, rfl⟩, rfl, rfl⟩)))))))⟩
  · cases h
    exact ⟨(R_D, T_D, 5), "DoorActs", t_D, rfl, by decide, tb_1 95 rfl rfl, Or.inl rfl, i_D, to_D, no_D, Or.inr (Or.inl ⟨rfl, rfl, rfl⟩)⟩
  · cases h
    exact ⟨(R_V, T_V, 4), "DoorActs$Device", t_V, rfl, by decide, tb_1 76 rfl rfl, Or.inl rfl, i_V, to_V, no_V, Or.inr (Or.inr (Or.inl ⟨rfl, rfl, rfl⟩))⟩
  · cases h
    exact ⟨(R_I, T_I, 5), "DoorActs$Item", t_I, rfl, by decide, tb_1 179 rfl rfl, Or.inl rfl, i_I, to_I, no_I, Or.inr (Or.inr (Or.inr (Or.inr (Or.inr (Or.inr (Or.inr (Or.inr (rfl))))))))⟩
  · cases h
    exact ⟨(R_V, T_V, 4), "DoorActs$Device", t_V, rfl, by decide, tb_1 78 rfl rfl, Or.inl rfl, i_V, to_V, no_V, Or.inr (Or.inl ⟨rfl, rfl, rfl⟩)⟩
  · cases h
    exact ⟨(R_V, T_V, 4), "DoorActs$Device", t_V, rfl, by decide, tb_1 80 rfl rfl, Or.inl rfl, i_V, to_V, no_V, Or.inr (Or.inr (Or.inr (Or.inr (Or.inr (Or.inr (Or.inr (Or.inr (rfl))))))))⟩
  · cases h
    exact ⟨(R_C, T_C, 3), "DoorActs$Clash", t_C, rfl, by decide, tb_2 153 rfl rfl, Or.inl rfl, i_C, to_C, no_C, Or.inr (Or.inr (Or.inr (Or.inr (Or.inr (Or.inr (Or.inr (Or.inr (rfl))))))))⟩
  · cases h
    exact ⟨(R_C, T_C, 3), "DoorActs$Clash", t_C, rfl, by decide, tb_2 155 rfl rfl, Or.inl rfl, i_C, to_C, no_C, Or.inr (Or.inr (Or.inr (Or.inr (Or.inr (Or.inr (Or.inr (Or.inr (rfl))))))))⟩
  · cases h
    exact ⟨(R_C, T_C, 3), "DoorActs$Clash", t_C, rfl, by decide, tb_2 157 rfl rfl, Or.inl rfl, i_C, to_C, no_C, Or.inr (Or.inr (Or.inr (Or.inr (Or.inr (Or.inr (Or.inr (Or.inr (rfl))))))))⟩
  · cases h
    exact ⟨(R_F, T_F, 11), "DoorActs$Facts", t_F, rfl, by decide, tb_1 136 rfl rfl, Or.inl rfl, i_F, to_F, no_F, Or.inl ⟨rfl, rfl, rfl⟩⟩
  · cases h
    exact ⟨(R_I, T_I, 5), "DoorActs$Item", t_I, rfl, by decide, tb_1 174 rfl rfl, Or.inl rfl, i_I, to_I, no_I, Or.inr (Or.inr (Or.inr (Or.inr (Or.inr (Or.inr (Or.inr (Or.inr (rfl))))))))⟩
  · cases h
    exact ⟨(R_F, T_F, 11), "DoorActs$Facts", t_F, rfl, by decide, tb_1 144 rfl rfl, Or.inl rfl, i_F, to_F, no_F, Or.inl ⟨rfl, rfl, rfl⟩⟩
  · cases h
    exact ⟨(R_F, T_F, 11), "DoorActs$Facts", t_F, rfl, by decide, tb_1 142 rfl rfl, Or.inl rfl, i_F, to_F, no_F, Or.inl ⟨rfl, rfl, rfl⟩⟩
  · cases h
    exact ⟨(R_F, T_F, 11), "DoorActs$Facts", t_F, rfl, by decide, tb_1 131 rfl rfl, Or.inl rfl, i_F, to_F, no_F, Or.inl ⟨rfl, rfl, rfl⟩⟩
  · cases h
    exact ⟨(R_I, T_I, 5), "DoorActs$Item", t_I, rfl, by decide, tb_1 181 rfl rfl, Or.inl rfl, i_I, to_I, no_I, Or.inl ⟨rfl, rfl, rfl⟩⟩
  · cases h
    exact ⟨(R_F, T_F, 11), "DoorActs$Facts", t_F, rfl, by decide, tb_1 134 rfl rfl, Or.inl rfl, i_F, to_F, no_F, Or.inr (Or.inr (Or.inl ⟨rfl, rfl, rfl⟩))⟩
  · cases h
    exact ⟨(R_A, T_A, 6), "DoorActs$Act", t_A, rfl, by decide, tb_2 99 rfl rfl, Or.inl rfl, i_A, to_A, no_A, Or.inr (Or.inr (Or.inr (Or.inr (Or.inr (Or.inr (Or.inr (Or.inr (rfl))))))))⟩
  · cases h
    exact ⟨(R_A, T_A, 6), "DoorActs$Act", t_A, rfl, by decide, tb_2 105 rfl rfl, Or.inl rfl, i_A, to_A, no_A, Or.inr (Or.inr (Or.inr (Or.inr (Or.inr (Or.inr (Or.inr (Or.inr (rfl))))))))⟩
  · cases h
    exact ⟨(R_A, T_A, 6), "DoorActs$Act", t_A, rfl, by decide, tb_2 102 rfl rfl, Or.inl rfl, i_A, to_A, no_A, Or.inr (Or.inr (Or.inr (Or.inr (Or.inr (Or.inr (Or.inr (Or.inr (rfl))))))))⟩
  · cases h
    exact ⟨(R_A, T_A, 6), "DoorActs$Act", t_A, rfl, by decide, tb_2 112 rfl rfl, Or.inl rfl, i_A, to_A, no_A, Or.inr (Or.inr (Or.inr (Or.inr (Or.inr (Or.inr (Or.inr (Or.inr (rfl))))))))⟩
  · cases h
    exact ⟨(R_I, T_I, 5), "DoorActs$Item", t_I, rfl, by decide, tb_1 172 rfl rfl, Or.inl rfl, i_I, to_I, no_I, Or.inr (Or.inr (Or.inr (Or.inr (Or.inr (Or.inr (Or.inr (Or.inr (rfl))))))))⟩
  · cases h
    exact ⟨(R_F, T_F, 11), "DoorActs$Facts", t_F, rfl, by decide, tb_1 146 rfl rfl, Or.inl rfl, i_F, to_F, no_F, Or.inl ⟨rfl, rfl, rfl⟩⟩
  · cases h
    exact ⟨(R_I, T_I, 5), "DoorActs$Item", t_I, rfl, by decide, tb_1 176 rfl rfl, Or.inl rfl, i_I, to_I, no_I, Or.inr (Or.inr (Or.inr (Or.inr (Or.inr (Or.inr (Or.inr (Or.inr (rfl))))))))⟩
  · cases h
def lc_D : Nat → Option Int32 := fun x => match x with
  | _ => none
set_option maxRecDepth 100000 in
theorem lck_D : ∀ x v, lc_D x = some v → Cond.constant "DoorActs" x v ∈ tb := by
  intro x v h
  unfold lc_D at h
  split at h
  · cases h
def ll_D : Nat → Option Int64 := fun x => match x with
  | 84 => some (1000000000)
  | 86 => some (1440)
  | 138 => some (1000000)
  | _ => none
theorem ll_D_84 : ll_D 84 = some (1000000000) := rfl
theorem ll_D_86 : ll_D 86 = some (1440) := rfl
theorem ll_D_138 : ll_D 138 = some (1000000) := rfl
set_option maxRecDepth 100000 in
theorem llk_D : ∀ x v, ll_D x = some v → Cond.constantLong "DoorActs" x v ∈ tb := by
  intro x v h
  unfold ll_D at h
  split at h
  · cases h
    exact tb_2 59 rfl rfl
  · cases h
    exact tb_2 60 rfl rfl
  · cases h
    exact tb_2 200 rfl rfl
  · cases h
theorem lk_D : zlk "DoorActs" fl_D lc_D ll_D := ⟨fk_D, lck_D, llk_D⟩
def fl_A : Nat → Option (Nat × Nat × Nat) := fun x => match x with
  | 7 => some (1, 0, 13)
  | 13 => some (1, 1, 10)
  | 17 => some (1, 2, 10)
  | 20 => some (1, 3, 10)
  | 23 => some (1, 4, 10)
  | 26 => some (1, 5, 10)
  | _ => none
theorem fl_A_7 : fl_A 7 = some (1, 0, 13) := rfl
theorem fl_A_13 : fl_A 13 = some (1, 1, 10) := rfl
theorem fl_A_17 : fl_A 17 = some (1, 2, 10) := rfl
theorem fl_A_20 : fl_A 20 = some (1, 3, 10) := rfl
theorem fl_A_23 : fl_A 23 = some (1, 4, 10) := rfl
theorem fl_A_26 : fl_A 26 = some (1, 5, 10) := rfl
set_option maxRecDepth 100000 in
theorem fk_A : zfl "DoorActs$Act" fl_A := by
  intro x ci f kd h
  unfold fl_A at h
  split at h
  · cases h
    exact ⟨(R_A, T_A, 6), "DoorActs$Act", t_A, rfl, by decide, tb_2 98 rfl rfl, Or.inl rfl, i_A, to_A, no_A, Or.inr (Or.inr (Or.inr (Or.inr (Or.inr (Or.inr (Or.inr (Or.inl ⟨rfl, by first | exact Or.inl ⟨_, rfl⟩ | exact Or.inr ⟨_, rfl⟩, rfl, rfl⟩)))))))⟩
  · cases h
    exact ⟨(R_A, T_A, 6), "DoorActs$Act", t_A, rfl, by decide, tb_2 100 rfl rfl, Or.inl rfl, i_A, to_A, no_A, Or.inr (Or.inr (Or.inr (Or.inr (Or.inl ⟨rfl, rfl, rfl, rfl⟩))))⟩
  · cases h
    exact ⟨(R_A, T_A, 6), "DoorActs$Act", t_A, rfl, by decide, tb_2 103 rfl rfl, Or.inl rfl, i_A, to_A, no_A, Or.inr (Or.inr (Or.inr (Or.inr (Or.inl ⟨rfl, rfl, rfl, rfl⟩))))⟩
  · cases h
    exact ⟨(R_A, T_A, 6), "DoorActs$Act", t_A, rfl, by decide, tb_2 106 rfl rfl, Or.inl rfl, i_A, to_A, no_A, Or.inr (Or.inr (Or.inr (Or.inr (Or.inl ⟨rfl, rfl, rfl, rfl⟩))))⟩
  · cases h
    exact ⟨(R_A, T_A, 6), "DoorActs$Act", t_A, rfl, by decide, tb_2 108 rfl rfl, Or.inl rfl, i_A, to_A, no_A, Or.inr (Or.inr (Or.inr (Or.inr (Or.inl ⟨rfl, rfl, rfl, rfl⟩))))⟩
  · cases h
    exact ⟨(R_A, T_A, 6), "DoorActs$Act", t_A, rfl, by decide, tb_2 110 rfl rfl, Or.inl rfl, i_A, to_A, no_A, Or.inr (Or.inr (Or.inr (Or.inr (Or.inl ⟨rfl, rfl, rfl, rfl⟩))))⟩
  · cases h
def lc_A : Nat → Option Int32 := fun x => match x with
  | _ => none
set_option maxRecDepth 100000 in
theorem lck_A : ∀ x v, lc_A x = some v → Cond.constant "DoorActs$Act" x v ∈ tb := by
  intro x v h
  unfold lc_A at h
  split at h
  · cases h
def ll_A : Nat → Option Int64 := fun x => match x with
  | _ => none
set_option maxRecDepth 100000 in
theorem llk_A : ∀ x v, ll_A x = some v → Cond.constantLong "DoorActs$Act" x v ∈ tb := by
  intro x v h
  unfold ll_A at h
  split at h
  · cases h
theorem lk_A : zlk "DoorActs$Act" fl_A lc_A ll_A := ⟨fk_A, lck_A, llk_A⟩
def fl_C : Nat → Option (Nat × Nat × Nat) := fun x => match x with
  | 7 => some (2, 0, 10)
  | 13 => some (2, 1, 10)
  | 16 => some (2, 2, 10)
  | _ => none
theorem fl_C_7 : fl_C 7 = some (2, 0, 10) := rfl
theorem fl_C_13 : fl_C 13 = some (2, 1, 10) := rfl
theorem fl_C_16 : fl_C 16 = some (2, 2, 10) := rfl
set_option maxRecDepth 100000 in
theorem fk_C : zfl "DoorActs$Clash" fl_C := by
  intro x ci f kd h
  unfold fl_C at h
  split at h
  · cases h
    exact ⟨(R_C, T_C, 3), "DoorActs$Clash", t_C, rfl, by decide, tb_2 152 rfl rfl, Or.inl rfl, i_C, to_C, no_C, Or.inr (Or.inr (Or.inr (Or.inr (Or.inl ⟨rfl, rfl, rfl, rfl⟩))))⟩
  · cases h
    exact ⟨(R_C, T_C, 3), "DoorActs$Clash", t_C, rfl, by decide, tb_2 154 rfl rfl, Or.inl rfl, i_C, to_C, no_C, Or.inr (Or.inr (Or.inr (Or.inr (Or.inl ⟨rfl, rfl, rfl, rfl⟩))))⟩
  · cases h
    exact ⟨(R_C, T_C, 3), "DoorActs$Clash", t_C, rfl, by decide, tb_2 156 rfl rfl, Or.inl rfl, i_C, to_C, no_C, Or.inr (Or.inr (Or.inr (Or.inr (Or.inl ⟨rfl, rfl, rfl, rfl⟩))))⟩
  · cases h
def lc_C : Nat → Option Int32 := fun x => match x with
  | _ => none
set_option maxRecDepth 100000 in
theorem lck_C : ∀ x v, lc_C x = some v → Cond.constant "DoorActs$Clash" x v ∈ tb := by
  intro x v h
  unfold lc_C at h
  split at h
  · cases h
def ll_C : Nat → Option Int64 := fun x => match x with
  | _ => none
set_option maxRecDepth 100000 in
theorem llk_C : ∀ x v, ll_C x = some v → Cond.constantLong "DoorActs$Clash" x v ∈ tb := by
  intro x v h
  unfold ll_C at h
  split at h
  · cases h
theorem lk_C : zlk "DoorActs$Clash" fl_C lc_C ll_C := ⟨fk_C, lck_C, llk_C⟩
def fl_N : Nat → Option (Nat × Nat × Nat) := fun x => match x with
  | 9 => some (3, 0, 13)
  | 15 => some (3, 1, 0)
  | _ => none
theorem fl_N_9 : fl_N 9 = some (3, 0, 13) := rfl
theorem fl_N_15 : fl_N 15 = some (3, 1, 0) := rfl
set_option maxRecDepth 100000 in
theorem fk_N : zfl "DoorActs$Consents" fl_N := by
  intro x ci f kd h
  unfold fl_N at h
  split at h
  · cases h
    exact ⟨(R_N, T_N, 2), "DoorActs$Consents", t_N, rfl, by decide, tb_1 58 rfl rfl, Or.inl rfl, i_N, to_N, no_N, Or.inr (Or.inr (Or.inr (Or.inr (Or.inr (Or.inr (Or.inr (Or.inl ⟨rfl, by first | exact Or.inl ⟨_, rfl⟩ | exact Or.inr ⟨_, rfl⟩, rfl, rfl⟩)))))))⟩
  · cases h
    exact ⟨(R_N, T_N, 2), "DoorActs$Consents", t_N, rfl, by decide, tb_1 59 rfl rfl, Or.inl rfl, i_N, to_N, no_N, Or.inl ⟨rfl, rfl, rfl⟩⟩
  · cases h
def lc_N : Nat → Option Int32 := fun x => match x with
  | _ => none
set_option maxRecDepth 100000 in
theorem lck_N : ∀ x v, lc_N x = some v → Cond.constant "DoorActs$Consents" x v ∈ tb := by
  intro x v h
  unfold lc_N at h
  split at h
  · cases h
def ll_N : Nat → Option Int64 := fun x => match x with
  | _ => none
set_option maxRecDepth 100000 in
theorem llk_N : ∀ x v, ll_N x = some v → Cond.constantLong "DoorActs$Consents" x v ∈ tb := by
  intro x v h
  unfold ll_N at h
  split at h
  · cases h
theorem lk_N : zlk "DoorActs$Consents" fl_N lc_N ll_N := ⟨fk_N, lck_N, llk_N⟩
def fl_V : Nat → Option (Nat × Nat × Nat) := fun x => match x with
  | 7 => some (4, 0, 2)
  | 13 => some (4, 1, 1)
  | 20 => some (4, 2, 13)
  | 24 => some (4, 3, 13)
  | 27 => some (6, 0, 20)
  | 48 => some (6, 3, 20)
  | _ => none
theorem fl_V_7 : fl_V 7 = some (4, 0, 2) := rfl
theorem fl_V_13 : fl_V 13 = some (4, 1, 1) := rfl
theorem fl_V_20 : fl_V 20 = some (4, 2, 13) := rfl
theorem fl_V_24 : fl_V 24 = some (4, 3, 13) := rfl
theorem fl_V_27 : fl_V 27 = some (6, 0, 20) := rfl
theorem fl_V_48 : fl_V 48 = some (6, 3, 20) := rfl
set_option maxRecDepth 100000 in
theorem fk_V : zfl "DoorActs$Device" fl_V := by
  intro x ci f kd h
  unfold fl_V at h
  split at h
  · cases h
    exact ⟨(R_V, T_V, 4), "DoorActs$Device", t_V, rfl, by decide, tb_1 75 rfl rfl, Or.inl rfl, i_V, to_V, no_V, Or.inr (Or.inr (Or.inl ⟨rfl, rfl, rfl⟩))⟩
  · cases h
    exact ⟨(R_V, T_V, 4), "DoorActs$Device", t_V, rfl, by decide, tb_1 77 rfl rfl, Or.inl rfl, i_V, to_V, no_V, Or.inr (Or.inl ⟨rfl, rfl, rfl⟩)⟩
  · cases h
    exact ⟨(R_V, T_V, 4), "DoorActs$Device", t_V, rfl, by decide, tb_1 79 rfl rfl, Or.inl rfl, i_V, to_V, no_V, Or.inr (Or.inr (Or.inr (Or.inr (Or.inr (Or.inr (Or.inr (Or.inl ⟨rfl, by first | exact Or.inl ⟨_, rfl⟩ | exact Or.inr ⟨_, rfl⟩, rfl, rfl⟩)))))))⟩
  · cases h
    exact ⟨(R_V, T_V, 4), "DoorActs$Device", t_V, rfl, by decide, tb_1 81 rfl rfl, Or.inl rfl, i_V, to_V, no_V, Or.inr (Or.inr (Or.inr (Or.inr (Or.inr (Or.inr (Or.inr (Or.inl ⟨rfl, by first | exact Or.inl ⟨_, rfl⟩ | exact Or.inr ⟨_, rfl⟩, rfl, rfl⟩)))))))⟩
  · cases h
    exact ⟨(R_I, T_I, 5), "DoorActs$Item", t_I, rfl, by decide, tb_1 171 rfl rfl, Or.inl rfl, i_I, to_I, no_I, Or.inr (Or.inr (Or.inr (Or.inr (Or.inr (Or.inr (Or.inr (Or.inr (rfl))))))))⟩
  · cases h
    exact ⟨(R_I, T_I, 5), "DoorActs$Item", t_I, rfl, by decide, tb_1 178 rfl rfl, Or.inl rfl, i_I, to_I, no_I, Or.inr (Or.inr (Or.inr (Or.inr (Or.inr (Or.inr (Or.inr (Or.inr (rfl))))))))⟩
  · cases h
def lc_V : Nat → Option Int32 := fun x => match x with
  | _ => none
set_option maxRecDepth 100000 in
theorem lck_V : ∀ x v, lc_V x = some v → Cond.constant "DoorActs$Device" x v ∈ tb := by
  intro x v h
  unfold lc_V at h
  split at h
  · cases h
def ll_V : Nat → Option Int64 := fun x => match x with
  | _ => none
set_option maxRecDepth 100000 in
theorem llk_V : ∀ x v, ll_V x = some v → Cond.constantLong "DoorActs$Device" x v ∈ tb := by
  intro x v h
  unfold ll_V at h
  split at h
  · cases h
theorem lk_V : zlk "DoorActs$Device" fl_V lc_V ll_V := ⟨fk_V, lck_V, llk_V⟩
def fl_F : Nat → Option (Nat × Nat × Nat) := fun x => match x with
  | 9 => some (5, 0, 0)
  | 15 => some (5, 1, 0)
  | 18 => some (5, 2, 2)
  | 22 => some (5, 3, 0)
  | 25 => some (5, 4, 0)
  | 28 => some (5, 5, 0)
  | 31 => some (5, 6, 0)
  | 34 => some (5, 7, 0)
  | 37 => some (5, 8, 0)
  | 40 => some (5, 9, 0)
  | 43 => some (5, 10, 0)
  | 50 => some (1, 1, 20)
  | 55 => some (1, 2, 20)
  | 58 => some (1, 5, 20)
  | 69 => some (1, 4, 20)
  | 72 => some (1, 3, 20)
  | _ => none
theorem fl_F_9 : fl_F 9 = some (5, 0, 0) := rfl
theorem fl_F_15 : fl_F 15 = some (5, 1, 0) := rfl
theorem fl_F_18 : fl_F 18 = some (5, 2, 2) := rfl
theorem fl_F_22 : fl_F 22 = some (5, 3, 0) := rfl
theorem fl_F_25 : fl_F 25 = some (5, 4, 0) := rfl
theorem fl_F_28 : fl_F 28 = some (5, 5, 0) := rfl
theorem fl_F_31 : fl_F 31 = some (5, 6, 0) := rfl
theorem fl_F_34 : fl_F 34 = some (5, 7, 0) := rfl
theorem fl_F_37 : fl_F 37 = some (5, 8, 0) := rfl
theorem fl_F_40 : fl_F 40 = some (5, 9, 0) := rfl
theorem fl_F_43 : fl_F 43 = some (5, 10, 0) := rfl
theorem fl_F_50 : fl_F 50 = some (1, 1, 20) := rfl
theorem fl_F_55 : fl_F 55 = some (1, 2, 20) := rfl
theorem fl_F_58 : fl_F 58 = some (1, 5, 20) := rfl
theorem fl_F_69 : fl_F 69 = some (1, 4, 20) := rfl
theorem fl_F_72 : fl_F 72 = some (1, 3, 20) := rfl
set_option maxRecDepth 100000 in
theorem fk_F : zfl "DoorActs$Facts" fl_F := by
  intro x ci f kd h
  unfold fl_F at h
  split at h
  · cases h
    exact ⟨(R_F, T_F, 11), "DoorActs$Facts", t_F, rfl, by decide, tb_1 130 rfl rfl, Or.inl rfl, i_F, to_F, no_F, Or.inl ⟨rfl, rfl, rfl⟩⟩
  · cases h
    exact ⟨(R_F, T_F, 11), "DoorActs$Facts", t_F, rfl, by decide, tb_1 132 rfl rfl, Or.inl rfl, i_F, to_F, no_F, Or.inl ⟨rfl, rfl, rfl⟩⟩
  · cases h
    exact ⟨(R_F, T_F, 11), "DoorActs$Facts", t_F, rfl, by decide, tb_1 133 rfl rfl, Or.inl rfl, i_F, to_F, no_F, Or.inr (Or.inr (Or.inl ⟨rfl, rfl, rfl⟩))⟩
  · cases h
    exact ⟨(R_F, T_F, 11), "DoorActs$Facts", t_F, rfl, by decide, tb_1 135 rfl rfl, Or.inl rfl, i_F, to_F, no_F, Or.inl ⟨rfl, rfl, rfl⟩⟩
  · cases h
    exact ⟨(R_F, T_F, 11), "DoorActs$Facts", t_F, rfl, by decide, tb_1 137 rfl rfl, Or.inl rfl, i_F, to_F, no_F, Or.inl ⟨rfl, rfl, rfl⟩⟩
  · cases h
    exact ⟨(R_F, T_F, 11), "DoorActs$Facts", t_F, rfl, by decide, tb_1 138 rfl rfl, Or.inl rfl, i_F, to_F, no_F, Or.inl ⟨rfl, rfl, rfl⟩⟩
  · cases h
    exact ⟨(R_F, T_F, 11), "DoorActs$Facts", t_F, rfl, by decide, tb_1 139 rfl rfl, Or.inl rfl, i_F, to_F, no_F, Or.inl ⟨rfl, rfl, rfl⟩⟩
  · cases h
    exact ⟨(R_F, T_F, 11), "DoorActs$Facts", t_F, rfl, by decide, tb_1 140 rfl rfl, Or.inl rfl, i_F, to_F, no_F, Or.inl ⟨rfl, rfl, rfl⟩⟩
  · cases h
    exact ⟨(R_F, T_F, 11), "DoorActs$Facts", t_F, rfl, by decide, tb_1 141 rfl rfl, Or.inl rfl, i_F, to_F, no_F, Or.inl ⟨rfl, rfl, rfl⟩⟩
  · cases h
    exact ⟨(R_F, T_F, 11), "DoorActs$Facts", t_F, rfl, by decide, tb_1 143 rfl rfl, Or.inl rfl, i_F, to_F, no_F, Or.inl ⟨rfl, rfl, rfl⟩⟩
  · cases h
    exact ⟨(R_F, T_F, 11), "DoorActs$Facts", t_F, rfl, by decide, tb_1 145 rfl rfl, Or.inl rfl, i_F, to_F, no_F, Or.inl ⟨rfl, rfl, rfl⟩⟩
  · cases h
    exact ⟨(R_A, T_A, 6), "DoorActs$Act", t_A, rfl, by decide, tb_2 101 rfl rfl, Or.inl rfl, i_A, to_A, no_A, Or.inr (Or.inr (Or.inr (Or.inr (Or.inr (Or.inr (Or.inr (Or.inr (rfl))))))))⟩
  · cases h
    exact ⟨(R_A, T_A, 6), "DoorActs$Act", t_A, rfl, by decide, tb_2 104 rfl rfl, Or.inl rfl, i_A, to_A, no_A, Or.inr (Or.inr (Or.inr (Or.inr (Or.inr (Or.inr (Or.inr (Or.inr (rfl))))))))⟩
  · cases h
    exact ⟨(R_A, T_A, 6), "DoorActs$Act", t_A, rfl, by decide, tb_2 111 rfl rfl, Or.inl rfl, i_A, to_A, no_A, Or.inr (Or.inr (Or.inr (Or.inr (Or.inr (Or.inr (Or.inr (Or.inr (rfl))))))))⟩
  · cases h
    exact ⟨(R_A, T_A, 6), "DoorActs$Act", t_A, rfl, by decide, tb_2 109 rfl rfl, Or.inl rfl, i_A, to_A, no_A, Or.inr (Or.inr (Or.inr (Or.inr (Or.inr (Or.inr (Or.inr (Or.inr (rfl))))))))⟩
  · cases h
    exact ⟨(R_A, T_A, 6), "DoorActs$Act", t_A, rfl, by decide, tb_2 107 rfl rfl, Or.inl rfl, i_A, to_A, no_A, Or.inr (Or.inr (Or.inr (Or.inr (Or.inr (Or.inr (Or.inr (Or.inr (rfl))))))))⟩
  · cases h
def lc_F : Nat → Option Int32 := fun x => match x with
  | _ => none
set_option maxRecDepth 100000 in
theorem lck_F : ∀ x v, lc_F x = some v → Cond.constant "DoorActs$Facts" x v ∈ tb := by
  intro x v h
  unfold lc_F at h
  split at h
  · cases h
def ll_F : Nat → Option Int64 := fun x => match x with
  | _ => none
set_option maxRecDepth 100000 in
theorem llk_F : ∀ x v, ll_F x = some v → Cond.constantLong "DoorActs$Facts" x v ∈ tb := by
  intro x v h
  unfold ll_F at h
  split at h
  · cases h
theorem lk_F : zlk "DoorActs$Facts" fl_F lc_F ll_F := ⟨fk_F, lck_F, llk_F⟩
def fl_I : Nat → Option (Nat × Nat × Nat) := fun x => match x with
  | 12 => some (6, 3, 13)
  | 18 => some (6, 0, 10)
  | 22 => some (6, 1, 10)
  | 25 => some (6, 2, 10)
  | 28 => some (6, 4, 0)
  | _ => none
theorem fl_I_12 : fl_I 12 = some (6, 3, 13) := rfl
theorem fl_I_18 : fl_I 18 = some (6, 0, 10) := rfl
theorem fl_I_22 : fl_I 22 = some (6, 1, 10) := rfl
theorem fl_I_25 : fl_I 25 = some (6, 2, 10) := rfl
theorem fl_I_28 : fl_I 28 = some (6, 4, 0) := rfl
set_option maxRecDepth 100000 in
theorem fk_I : zfl "DoorActs$Item" fl_I := by
  intro x ci f kd h
  unfold fl_I at h
  split at h
  · cases h
    exact ⟨(R_I, T_I, 5), "DoorActs$Item", t_I, rfl, by decide, tb_1 177 rfl rfl, Or.inl rfl, i_I, to_I, no_I, Or.inr (Or.inr (Or.inr (Or.inr (Or.inr (Or.inr (Or.inr (Or.inl ⟨rfl, by first | exact Or.inl ⟨_, rfl⟩ | exact Or.inr ⟨_, rfl⟩, rfl, rfl⟩)))))))⟩
  · cases h
    exact ⟨(R_I, T_I, 5), "DoorActs$Item", t_I, rfl, by decide, tb_1 170 rfl rfl, Or.inl rfl, i_I, to_I, no_I, Or.inr (Or.inr (Or.inr (Or.inr (Or.inl ⟨rfl, rfl, rfl, rfl⟩))))⟩
  · cases h
    exact ⟨(R_I, T_I, 5), "DoorActs$Item", t_I, rfl, by decide, tb_1 173 rfl rfl, Or.inl rfl, i_I, to_I, no_I, Or.inr (Or.inr (Or.inr (Or.inr (Or.inl ⟨rfl, rfl, rfl, rfl⟩))))⟩
  · cases h
    exact ⟨(R_I, T_I, 5), "DoorActs$Item", t_I, rfl, by decide, tb_1 175 rfl rfl, Or.inl rfl, i_I, to_I, no_I, Or.inr (Or.inr (Or.inr (Or.inr (Or.inl ⟨rfl, rfl, rfl, rfl⟩))))⟩
  · cases h
    exact ⟨(R_I, T_I, 5), "DoorActs$Item", t_I, rfl, by decide, tb_1 180 rfl rfl, Or.inl rfl, i_I, to_I, no_I, Or.inl ⟨rfl, rfl, rfl⟩⟩
  · cases h
def lc_I : Nat → Option Int32 := fun x => match x with
  | _ => none
set_option maxRecDepth 100000 in
theorem lck_I : ∀ x v, lc_I x = some v → Cond.constant "DoorActs$Item" x v ∈ tb := by
  intro x v h
  unfold lc_I at h
  split at h
  · cases h
def ll_I : Nat → Option Int64 := fun x => match x with
  | _ => none
set_option maxRecDepth 100000 in
theorem llk_I : ∀ x v, ll_I x = some v → Cond.constantLong "DoorActs$Item" x v ∈ tb := by
  intro x v h
  unfold ll_I at h
  split at h
  · cases h
theorem lk_I : zlk "DoorActs$Item" fl_I lc_I ll_I := ⟨fk_I, lck_I, llk_I⟩
def fl_W : Nat → Option (Nat × Nat × Nat) := fun x => match x with
  | _ => none
set_option maxRecDepth 100000 in
theorem fk_W : zfl "DoorActsLaw" fl_W := by
  intro x ci f kd h
  unfold fl_W at h
  split at h
  · cases h
def lc_W : Nat → Option Int32 := fun x => match x with
  | _ => none
set_option maxRecDepth 100000 in
theorem lck_W : ∀ x v, lc_W x = some v → Cond.constant "DoorActsLaw" x v ∈ tb := by
  intro x v h
  unfold lc_W at h
  split at h
  · cases h
def ll_W : Nat → Option Int64 := fun x => match x with
  | 23 => some (4294967295)
  | _ => none
theorem ll_W_23 : ll_W 23 = some (4294967295) := rfl
set_option maxRecDepth 100000 in
theorem llk_W : ∀ x v, ll_W x = some v → Cond.constantLong "DoorActsLaw" x v ∈ tb := by
  intro x v h
  unfold ll_W at h
  split at h
  · cases h
    exact tb_3 185 rfl rfl
  · cases h
theorem lk_W : zlk "DoorActsLaw" fl_W lc_W ll_W := ⟨fk_W, lck_W, llk_W⟩
def fl_M : Nat → Option (Nat × Nat × Nat) := fun x => match x with
  | 7 => some (8, 1, 13)
  | 13 => some (8, 2, 13)
  | 16 => some (8, 3, 13)
  | 20 => some (8, 4, 13)
  | 23 => some (8, 5, 13)
  | 27 => some (8, 6, 13)
  | 30 => some (8, 7, 13)
  | 33 => some (8, 8, 13)
  | 36 => some (8, 9, 13)
  | 39 => some (8, 10, 13)
  | 42 => some (8, 11, 13)
  | 45 => some (8, 12, 13)
  | 48 => some (8, 13, 13)
  | 51 => some (8, 14, 13)
  | 54 => some (8, 15, 13)
  | 57 => some (8, 17, 13)
  | 60 => some (8, 18, 13)
  | 63 => some (8, 19, 13)
  | 66 => some (8, 20, 13)
  | 69 => some (8, 21, 13)
  | 72 => some (8, 22, 13)
  | 75 => some (8, 23, 13)
  | 78 => some (8, 24, 13)
  | 81 => some (8, 25, 13)
  | 84 => some (8, 26, 13)
  | 87 => some (8, 27, 13)
  | 90 => some (8, 28, 13)
  | 93 => some (8, 30, 13)
  | 96 => some (8, 31, 13)
  | 99 => some (8, 32, 13)
  | 102 => some (8, 0, 0)
  | 114 => some (8, 16, 0)
  | 170 => some (8, 29, 0)
  | 173 => some (8, 33, 1)
  | _ => none
theorem fl_M_7 : fl_M 7 = some (8, 1, 13) := rfl
theorem fl_M_13 : fl_M 13 = some (8, 2, 13) := rfl
theorem fl_M_16 : fl_M 16 = some (8, 3, 13) := rfl
theorem fl_M_20 : fl_M 20 = some (8, 4, 13) := rfl
theorem fl_M_23 : fl_M 23 = some (8, 5, 13) := rfl
theorem fl_M_27 : fl_M 27 = some (8, 6, 13) := rfl
theorem fl_M_30 : fl_M 30 = some (8, 7, 13) := rfl
theorem fl_M_33 : fl_M 33 = some (8, 8, 13) := rfl
theorem fl_M_36 : fl_M 36 = some (8, 9, 13) := rfl
theorem fl_M_39 : fl_M 39 = some (8, 10, 13) := rfl
theorem fl_M_42 : fl_M 42 = some (8, 11, 13) := rfl
theorem fl_M_45 : fl_M 45 = some (8, 12, 13) := rfl
theorem fl_M_48 : fl_M 48 = some (8, 13, 13) := rfl
theorem fl_M_51 : fl_M 51 = some (8, 14, 13) := rfl
theorem fl_M_54 : fl_M 54 = some (8, 15, 13) := rfl
theorem fl_M_57 : fl_M 57 = some (8, 17, 13) := rfl
theorem fl_M_60 : fl_M 60 = some (8, 18, 13) := rfl
theorem fl_M_63 : fl_M 63 = some (8, 19, 13) := rfl
theorem fl_M_66 : fl_M 66 = some (8, 20, 13) := rfl
theorem fl_M_69 : fl_M 69 = some (8, 21, 13) := rfl
theorem fl_M_72 : fl_M 72 = some (8, 22, 13) := rfl
theorem fl_M_75 : fl_M 75 = some (8, 23, 13) := rfl
theorem fl_M_78 : fl_M 78 = some (8, 24, 13) := rfl
theorem fl_M_81 : fl_M 81 = some (8, 25, 13) := rfl
theorem fl_M_84 : fl_M 84 = some (8, 26, 13) := rfl
theorem fl_M_87 : fl_M 87 = some (8, 27, 13) := rfl
theorem fl_M_90 : fl_M 90 = some (8, 28, 13) := rfl
theorem fl_M_93 : fl_M 93 = some (8, 30, 13) := rfl
theorem fl_M_96 : fl_M 96 = some (8, 31, 13) := rfl
theorem fl_M_99 : fl_M 99 = some (8, 32, 13) := rfl
theorem fl_M_102 : fl_M 102 = some (8, 0, 0) := rfl
theorem fl_M_114 : fl_M 114 = some (8, 16, 0) := rfl
theorem fl_M_170 : fl_M 170 = some (8, 29, 0) := rfl
theorem fl_M_173 : fl_M 173 = some (8, 33, 1) := rfl
set_option maxRecDepth 100000 in
theorem fk_M : zfl "DoorActsModel" fl_M := by
  intro x ci f kd h
  unfold fl_M at h
  split at h
  · cases h
    exact ⟨(R_M, T_M, 34), "DoorActsModel", t_M, rfl, by decide, tb_2 225 rfl rfl, Or.inl rfl, i_M, to_M, no_M, Or.inr (Or.inr (Or.inr (Or.inr (Or.inr (Or.inr (Or.inr (Or.inl ⟨rfl, by first | exact Or.inl ⟨_, rfl⟩ | exact Or.inr ⟨_, rfl⟩, rfl, rfl⟩)))))))⟩
  · cases h
    exact ⟨(R_M, T_M, 34), "DoorActsModel", t_M, rfl, by decide, tb_2 226 rfl rfl, Or.inl rfl, i_M, to_M, no_M, Or.inr (Or.inr (Or.inr (Or.inr (Or.inr (Or.inr (Or.inr (Or.inl ⟨rfl, by first | exact Or.inl ⟨_, rfl⟩ | exact Or.inr ⟨_, rfl⟩, rfl, rfl⟩)))))))⟩
  · cases h
    exact ⟨(R_M, T_M, 34), "DoorActsModel", t_M, rfl, by decide, tb_2 227 rfl rfl, Or.inl rfl, i_M, to_M, no_M, Or.inr (Or.inr (Or.inr (Or.inr (Or.inr (Or.inr (Or.inr (Or.inl ⟨rfl, by first | exact Or.inl ⟨_, rfl⟩ | exact Or.inr ⟨_, rfl⟩, rfl, rfl⟩)))))))⟩
  · cases h
    exact ⟨(R_M, T_M, 34), "DoorActsModel", t_M, rfl, by decide, tb_2 228 rfl rfl, Or.inl rfl, i_M, to_M, no_M, Or.inr (Or.inr (Or.inr (Or.inr (Or.inr (Or.inr (Or.inr (Or.inl ⟨rfl, by first | exact Or.inl ⟨_, rfl⟩ | exact Or.inr ⟨_, rfl⟩, rfl, rfl⟩)))))))⟩
  · cases h
    exact ⟨(R_M, T_M, 34), "DoorActsModel", t_M, rfl, by decide, tb_2 229 rfl rfl, Or.inl rfl, i_M, to_M, no_M, Or.inr (Or.inr (Or.inr (Or.inr (Or.inr (Or.inr (Or.inr (Or.inl ⟨rfl, by first | exact Or.inl ⟨_, rfl⟩ | exact Or.inr ⟨_, rfl⟩, rfl, rfl⟩)))))))⟩
  · cases h
    exact ⟨(R_M, T_M, 34), "DoorActsModel", t_M, rfl, by decide, tb_2 230 rfl rfl, Or.inl rfl, i_M, to_M, no_M, Or.inr (Or.inr (Or.inr (Or.inr (Or.inr (Or.inr (Or.inr (Or.inl ⟨rfl, by first | exact Or.inl ⟨_, rfl⟩ | exact Or.inr ⟨_, rfl⟩, rfl, rfl⟩)))))))⟩
  · cases h
    exact ⟨(R_M, T_M, 34), "DoorActsModel", t_M, rfl, by decide, tb_2 231 rfl rfl, Or.inl rfl, i_M, to_M, no_M, Or.inr (Or.inr (Or.inr (Or.inr (Or.inr (Or.inr (Or.inr (Or.inl ⟨rfl, by first | exact Or.inl ⟨_, rfl⟩ | exact Or.inr ⟨_, rfl⟩, rfl, rfl⟩)))))))⟩
  · cases h
    exact ⟨(R_M, T_M, 34), "DoorActsModel", t_M, rfl, by decide, tb_2 232 rfl rfl, Or.inl rfl, i_M, to_M, no_M, Or.inr (Or.inr (Or.inr (Or.inr (Or.inr (Or.inr (Or.inr (Or.inl ⟨rfl, by first | exact Or.inl ⟨_, rfl⟩ | exact Or.inr ⟨_, rfl⟩, rfl, rfl⟩)))))))⟩
  · cases h
    exact ⟨(R_M, T_M, 34), "DoorActsModel", t_M, rfl, by decide, tb_2 233 rfl rfl, Or.inl rfl, i_M, to_M, no_M, Or.inr (Or.inr (Or.inr (Or.inr (Or.inr (Or.inr (Or.inr (Or.inl ⟨rfl, by first | exact Or.inl ⟨_, rfl⟩ | exact Or.inr ⟨_, rfl⟩, rfl, rfl⟩)))))))⟩
  · cases h
    exact ⟨(R_M, T_M, 34), "DoorActsModel", t_M, rfl, by decide, tb_2 234 rfl rfl, Or.inl rfl, i_M, to_M, no_M, Or.inr (Or.inr (Or.inr (Or.inr (Or.inr (Or.inr (Or.inr (Or.inl ⟨rfl, by first | exact Or.inl ⟨_, rfl⟩ | exact Or.inr ⟨_, rfl⟩, rfl, rfl⟩)))))))⟩
  · cases h
    exact ⟨(R_M, T_M, 34), "DoorActsModel", t_M, rfl, by decide, tb_2 235 rfl rfl, Or.inl rfl, i_M, to_M, no_M, Or.inr (Or.inr (Or.inr (Or.inr (Or.inr (Or.inr (Or.inr (Or.inl ⟨rfl, by first | exact Or.inl ⟨_, rfl⟩ | exact Or.inr ⟨_, rfl⟩, rfl, rfl⟩)))))))⟩
  · cases h
    exact ⟨(R_M, T_M, 34), "DoorActsModel", t_M, rfl, by decide, tb_2 236 rfl rfl, Or.inl rfl, i_M, to_M, no_M, Or.inr (Or.inr (Or.inr (Or.inr (Or.inr (Or.inr (Or.inr (Or.inl ⟨rfl, by first | exact Or.inl ⟨_, rfl⟩ | exact Or.inr ⟨_, rfl⟩, rfl, rfl⟩)))))))⟩
  · cases h
    exact ⟨(R_M, T_M, 34), "DoorActsModel", t_M, rfl, by decide, tb_2 237 rfl rfl, Or.inl rfl, i_M, to_M, no_M, Or.inr (Or.inr (Or.inr (Or.inr (Or.inr (Or.inr (Or.inr (Or.inl ⟨rfl, by first | exact Or.inl ⟨_, rfl⟩ | exact Or.inr ⟨_, rfl⟩, rfl, rfl⟩)))))))⟩
  · cases h
    exact ⟨(R_M, T_M, 34), "DoorActsModel", t_M, rfl, by decide, tb_2 238 rfl rfl, Or.inl rfl, i_M, to_M, no_M, Or.inr (Or.inr (Or.inr (Or.inr (Or.inr (Or.inr (Or.inr (Or.inl ⟨rfl, by first | exact Or.inl ⟨_, rfl⟩ | exact Or.inr ⟨_, rfl⟩, rfl, rfl⟩)))))))⟩
  · cases h
    exact ⟨(R_M, T_M, 34), "DoorActsModel", t_M, rfl, by decide, tb_2 239 rfl rfl, Or.inl rfl, i_M, to_M, no_M, Or.inr (Or.inr (Or.inr (Or.inr (Or.inr (Or.inr (Or.inr (Or.inl ⟨rfl, by first | exact Or.inl ⟨_, rfl⟩ | exact Or.inr ⟨_, rfl⟩, rfl, rfl⟩)))))))⟩
  · cases h
    exact ⟨(R_M, T_M, 34), "DoorActsModel", t_M, rfl, by decide, tb_3 1 rfl rfl, Or.inl rfl, i_M, to_M, no_M, Or.inr (Or.inr (Or.inr (Or.inr (Or.inr (Or.inr (Or.inr (Or.inl ⟨rfl, by first | exact Or.inl ⟨_, rfl⟩ | exact Or.inr ⟨_, rfl⟩, rfl, rfl⟩)))))))⟩
  · cases h
    exact ⟨(R_M, T_M, 34), "DoorActsModel", t_M, rfl, by decide, tb_3 2 rfl rfl, Or.inl rfl, i_M, to_M, no_M, Or.inr (Or.inr (Or.inr (Or.inr (Or.inr (Or.inr (Or.inr (Or.inl ⟨rfl, by first | exact Or.inl ⟨_, rfl⟩ | exact Or.inr ⟨_, rfl⟩, rfl, rfl⟩)))))))⟩
  · cases h
    exact ⟨(R_M, T_M, 34), "DoorActsModel", t_M, rfl, by decide, tb_3 3 rfl rfl, Or.inl rfl, i_M, to_M, no_M, Or.inr (Or.inr (Or.inr (Or.inr (Or.inr (Or.inr (Or.inr (Or.inl ⟨rfl, by first | exact Or.inl ⟨_, rfl⟩ | exact Or.inr ⟨_, rfl⟩, rfl, rfl⟩)))))))⟩
  · cases h
    exact ⟨(R_M, T_M, 34), "DoorActsModel", t_M, rfl, by decide, tb_3 4 rfl rfl, Or.inl rfl, i_M, to_M, no_M, Or.inr (Or.inr (Or.inr (Or.inr (Or.inr (Or.inr (Or.inr (Or.inl ⟨rfl, by first | exact Or.inl ⟨_, rfl⟩ | exact Or.inr ⟨_, rfl⟩, rfl, rfl⟩)))))))⟩
  · cases h
    exact ⟨(R_M, T_M, 34), "DoorActsModel", t_M, rfl, by decide, tb_3 5 rfl rfl, Or.inl rfl, i_M, to_M, no_M, Or.inr (Or.inr (Or.inr (Or.inr (Or.inr (Or.inr (Or.inr (Or.inl ⟨rfl, by first | exact Or.inl ⟨_, rfl⟩ | exact Or.inr ⟨_, rfl⟩, rfl, rfl⟩)))))))⟩
  · cases h
    exact ⟨(R_M, T_M, 34), "DoorActsModel", t_M, rfl, by decide, tb_3 6 rfl rfl, Or.inl rfl, i_M, to_M, no_M, Or.inr (Or.inr (Or.inr (Or.inr (Or.inr (Or.inr (Or.inr (Or.inl ⟨rfl, by first | exact Or.inl ⟨_, rfl⟩ | exact Or.inr ⟨_, rfl⟩, rfl, rfl⟩)))))))⟩
  · cases h
    exact ⟨(R_M, T_M, 34), "DoorActsModel", t_M, rfl, by decide, tb_3 7 rfl rfl, Or.inl rfl, i_M, to_M, no_M, Or.inr (Or.inr (Or.inr (Or.inr (Or.inr (Or.inr (Or.inr (Or.inl ⟨rfl, by first | exact Or.inl ⟨_, rfl⟩ | exact Or.inr ⟨_, rfl⟩, rfl, rfl⟩)))))))⟩
  · cases h
    exact ⟨(R_M, T_M, 34), "DoorActsModel", t_M, rfl, by decide, tb_3 8 rfl rfl, Or.inl rfl, i_M, to_M, no_M, Or.inr (Or.inr (Or.inr (Or.inr (Or.inr (Or.inr (Or.inr (Or.inl ⟨rfl, by first | exact Or.inl ⟨_, rfl⟩ | exact Or.inr ⟨_, rfl⟩, rfl, rfl⟩)))))))⟩
  · cases h
    exact ⟨(R_M, T_M, 34), "DoorActsModel", t_M, rfl, by decide, tb_3 9 rfl rfl, Or.inl rfl, i_M, to_M, no_M, Or.inr (Or.inr (Or.inr (Or.inr (Or.inr (Or.inr (Or.inr (Or.inl ⟨rfl, by first | exact Or.inl ⟨_, rfl⟩ | exact Or.inr ⟨_, rfl⟩, rfl, rfl⟩)))))))⟩
  · cases h
    exact ⟨(R_M, T_M, 34), "DoorActsModel", t_M, rfl, by decide, tb_3 10 rfl rfl, Or.inl rfl, i_M, to_M, no_M, Or.inr (Or.inr (Or.inr (Or.inr (Or.inr (Or.inr (Or.inr (Or.inl ⟨rfl, by first | exact Or.inl ⟨_, rfl⟩ | exact Or.inr ⟨_, rfl⟩, rfl, rfl⟩)))))))⟩
  · cases h
    exact ⟨(R_M, T_M, 34), "DoorActsModel", t_M, rfl, by decide, tb_3 11 rfl rfl, Or.inl rfl, i_M, to_M, no_M, Or.inr (Or.inr (Or.inr (Or.inr (Or.inr (Or.inr (Or.inr (Or.inl ⟨rfl, by first | exact Or.inl ⟨_, rfl⟩ | exact Or.inr ⟨_, rfl⟩, rfl, rfl⟩)))))))⟩
  · cases h
    exact ⟨(R_M, T_M, 34), "DoorActsModel", t_M, rfl, by decide, tb_3 12 rfl rfl, Or.inl rfl, i_M, to_M, no_M, Or.inr (Or.inr (Or.inr (Or.inr (Or.inr (Or.inr (Or.inr (Or.inl ⟨rfl, by first | exact Or.inl ⟨_, rfl⟩ | exact Or.inr ⟨_, rfl⟩, rfl, rfl⟩)))))))⟩
  · cases h
    exact ⟨(R_M, T_M, 34), "DoorActsModel", t_M, rfl, by decide, tb_3 14 rfl rfl, Or.inl rfl, i_M, to_M, no_M, Or.inr (Or.inr (Or.inr (Or.inr (Or.inr (Or.inr (Or.inr (Or.inl ⟨rfl, by first | exact Or.inl ⟨_, rfl⟩ | exact Or.inr ⟨_, rfl⟩, rfl, rfl⟩)))))))⟩
  · cases h
    exact ⟨(R_M, T_M, 34), "DoorActsModel", t_M, rfl, by decide, tb_3 15 rfl rfl, Or.inl rfl, i_M, to_M, no_M, Or.inr (Or.inr (Or.inr (Or.inr (Or.inr (Or.inr (Or.inr (Or.inl ⟨rfl, by first | exact Or.inl ⟨_, rfl⟩ | exact Or.inr ⟨_, rfl⟩, rfl, rfl⟩)))))))⟩
  · cases h
    exact ⟨(R_M, T_M, 34), "DoorActsModel", t_M, rfl, by decide, tb_3 16 rfl rfl, Or.inl rfl, i_M, to_M, no_M, Or.inr (Or.inr (Or.inr (Or.inr (Or.inr (Or.inr (Or.inr (Or.inl ⟨rfl, by first | exact Or.inl ⟨_, rfl⟩ | exact Or.inr ⟨_, rfl⟩, rfl, rfl⟩)))))))⟩
  · cases h
    exact ⟨(R_M, T_M, 34), "DoorActsModel", t_M, rfl, by decide, tb_2 224 rfl rfl, Or.inl rfl, i_M, to_M, no_M, Or.inl ⟨rfl, rfl, rfl⟩⟩
  · cases h
    exact ⟨(R_M, T_M, 34), "DoorActsModel", t_M, rfl, by decide, tb_3 0 rfl rfl, Or.inl rfl, i_M, to_M, no_M, Or.inl ⟨rfl, rfl, rfl⟩⟩
  · cases h
    exact ⟨(R_M, T_M, 34), "DoorActsModel", t_M, rfl, by decide, tb_3 13 rfl rfl, Or.inl rfl, i_M, to_M, no_M, Or.inl ⟨rfl, rfl, rfl⟩⟩
  · cases h
    exact ⟨(R_M, T_M, 34), "DoorActsModel", t_M, rfl, by decide, tb_3 17 rfl rfl, Or.inl rfl, i_M, to_M, no_M, Or.inr (Or.inl ⟨rfl, rfl, rfl⟩)⟩
  · cases h
def lc_M : Nat → Option Int32 := fun x => match x with
  | _ => none
set_option maxRecDepth 100000 in
theorem lck_M : ∀ x v, lc_M x = some v → Cond.constant "DoorActsModel" x v ∈ tb := by
  intro x v h
  unfold lc_M at h
  split at h
  · cases h
def ll_M : Nat → Option Int64 := fun x => match x with
  | 106 => some (5)
  | 112 => some (99)
  | 117 => some (2)
  | 150 => some (-1)
  | 152 => some (399)
  | 154 => some (1000000000)
  | 156 => some (1440)
  | 123 => some (250)
  | 141 => some (7)
  | 177 => some (1000000)
  | _ => none
theorem ll_M_106 : ll_M 106 = some (5) := rfl
theorem ll_M_112 : ll_M 112 = some (99) := rfl
theorem ll_M_117 : ll_M 117 = some (2) := rfl
theorem ll_M_150 : ll_M 150 = some (-1) := rfl
theorem ll_M_152 : ll_M 152 = some (399) := rfl
theorem ll_M_154 : ll_M 154 = some (1000000000) := rfl
theorem ll_M_156 : ll_M 156 = some (1440) := rfl
theorem ll_M_123 : ll_M 123 = some (250) := rfl
theorem ll_M_141 : ll_M 141 = some (7) := rfl
theorem ll_M_177 : ll_M 177 = some (1000000) := rfl
set_option maxRecDepth 100000 in
theorem llk_M : ∀ x v, ll_M x = some v → Cond.constantLong "DoorActsModel" x v ∈ tb := by
  intro x v h
  unfold ll_M at h
  split at h
  · cases h
    exact tb_3 93 rfl rfl
  · cases h
    exact tb_3 97 rfl rfl
  · cases h
    exact tb_3 102 rfl rfl
  · cases h
    exact tb_3 118 rfl rfl
  · cases h
    exact tb_3 119 rfl rfl
  · cases h
    exact tb_3 120 rfl rfl
  · cases h
    exact tb_3 121 rfl rfl
  · cases h
    exact tb_3 142 rfl rfl
  · cases h
    exact tb_3 151 rfl rfl
  · cases h
    exact tb_3 172 rfl rfl
  · cases h
theorem lk_M : zlk "DoorActsModel" fl_M lc_M ll_M := ⟨fk_M, lck_M, llk_M⟩
def fl_Ma : Nat → Option (Nat × Nat × Nat) := fun x => match x with
  | _ => none
set_option maxRecDepth 100000 in
theorem fk_Ma : zfl "java/lang/Math" fl_Ma := by
  intro x ci f kd h
  unfold fl_Ma at h
  split at h
  · cases h
def lc_Ma : Nat → Option Int32 := fun x => match x with
  | _ => none
set_option maxRecDepth 100000 in
theorem lck_Ma : ∀ x v, lc_Ma x = some v → Cond.constant "java/lang/Math" x v ∈ tb := by
  intro x v h
  unfold lc_Ma at h
  split at h
  · cases h
def ll_Ma : Nat → Option Int64 := fun x => match x with
  | _ => none
set_option maxRecDepth 100000 in
theorem llk_Ma : ∀ x v, ll_Ma x = some v → Cond.constantLong "java/lang/Math" x v ∈ tb := by
  intro x v h
  unfold ll_Ma at h
  split at h
  · cases h
theorem lk_Ma : zlk "java/lang/Math" fl_Ma lc_Ma ll_Ma := ⟨fk_Ma, lck_Ma, llk_Ma⟩
def fl_AC : Nat → Option (Nat × Nat × Nat) := fun x => match x with
  | _ => none
set_option maxRecDepth 100000 in
theorem fk_AC : zfl "java/util/AbstractCollection" fl_AC := by
  intro x ci f kd h
  unfold fl_AC at h
  split at h
  · cases h
def lc_AC : Nat → Option Int32 := fun x => match x with
  | _ => none
set_option maxRecDepth 100000 in
theorem lck_AC : ∀ x v, lc_AC x = some v → Cond.constant "java/util/AbstractCollection" x v ∈ tb := by
  intro x v h
  unfold lc_AC at h
  split at h
  · cases h
def ll_AC : Nat → Option Int64 := fun x => match x with
  | _ => none
set_option maxRecDepth 100000 in
theorem llk_AC : ∀ x v, ll_AC x = some v → Cond.constantLong "java/util/AbstractCollection" x v ∈ tb := by
  intro x v h
  unfold ll_AC at h
  split at h
  · cases h
theorem lk_AC : zlk "java/util/AbstractCollection" fl_AC lc_AC ll_AC := ⟨fk_AC, lck_AC, llk_AC⟩
def fl_AL : Nat → Option (Nat × Nat × Nat) := fun x => match x with
  | 7 => some (7, 2, 0)
  | _ => none
theorem fl_AL_7 : fl_AL 7 = some (7, 2, 0) := rfl
set_option maxRecDepth 100000 in
theorem fk_AL : zfl "java/util/AbstractList" fl_AL := by
  intro x ci f kd h
  unfold fl_AL at h
  split at h
  · cases h
    exact ⟨(R_L, T_L, 3), "java/util/AbstractList", t_L, rfl, by decide, tb_1 42 rfl rfl, Or.inl rfl, i_L, to_L, no_L, Or.inl ⟨rfl, rfl, rfl⟩⟩
  · cases h
def lc_AL : Nat → Option Int32 := fun x => match x with
  | _ => none
set_option maxRecDepth 100000 in
theorem lck_AL : ∀ x v, lc_AL x = some v → Cond.constant "java/util/AbstractList" x v ∈ tb := by
  intro x v h
  unfold lc_AL at h
  split at h
  · cases h
def ll_AL : Nat → Option Int64 := fun x => match x with
  | _ => none
set_option maxRecDepth 100000 in
theorem llk_AL : ∀ x v, ll_AL x = some v → Cond.constantLong "java/util/AbstractList" x v ∈ tb := by
  intro x v h
  unfold ll_AL at h
  split at h
  · cases h
theorem lk_AL : zlk "java/util/AbstractList" fl_AL lc_AL ll_AL := ⟨fk_AL, lck_AL, llk_AL⟩
def fl_L : Nat → Option (Nat × Nat × Nat) := fun x => match x with
  | 9 => some (7, 0, 3)
  | 48 => some (7, 1, 0)
  | 63 => some (7, 2, 0)
  | _ => none
theorem fl_L_9 : fl_L 9 = some (7, 0, 3) := rfl
theorem fl_L_48 : fl_L 48 = some (7, 1, 0) := rfl
theorem fl_L_63 : fl_L 63 = some (7, 2, 0) := rfl
set_option maxRecDepth 100000 in
theorem fk_L : zfl "java/util/ArrayList" fl_L := by
  intro x ci f kd h
  unfold fl_L at h
  split at h
  · cases h
    exact ⟨(R_L, T_L, 3), "java/util/ArrayList", t_L, rfl, by decide, tb_1 40 rfl rfl, Or.inl rfl, i_L, to_L, no_L, Or.inr (Or.inr (Or.inr (Or.inl ⟨rfl, by first | exact Or.inl ⟨_, rfl⟩ | exact Or.inr ⟨_, rfl⟩, rfl⟩)))⟩
  · cases h
    exact ⟨(R_L, T_L, 3), "java/util/ArrayList", t_L, rfl, by decide, tb_1 41 rfl rfl, Or.inl rfl, i_L, to_L, no_L, Or.inl ⟨rfl, rfl, rfl⟩⟩
  · cases h
    exact ⟨(R_L, T_L, 3), "java/util/ArrayList", t_L, rfl, by decide, tb_1 43 rfl rfl, Or.inr (tb_1 44 rfl rfl), i_L, to_L, no_L, Or.inl ⟨rfl, rfl, rfl⟩⟩
  · cases h
def lc_L : Nat → Option Int32 := fun x => match x with
  | _ => none
set_option maxRecDepth 100000 in
theorem lck_L : ∀ x v, lc_L x = some v → Cond.constant "java/util/ArrayList" x v ∈ tb := by
  intro x v h
  unfold lc_L at h
  split at h
  · cases h
def ll_L : Nat → Option Int64 := fun x => match x with
  | _ => none
set_option maxRecDepth 100000 in
theorem llk_L : ∀ x v, ll_L x = some v → Cond.constantLong "java/util/ArrayList" x v ∈ tb := by
  intro x v h
  unfold ll_L at h
  split at h
  · cases h
theorem lk_L : zlk "java/util/ArrayList" fl_L lc_L ll_L := ⟨fk_L, lck_L, llk_L⟩
def fl_Ar : Nat → Option (Nat × Nat × Nat) := fun x => match x with
  | _ => none
set_option maxRecDepth 100000 in
theorem fk_Ar : zfl "java/util/Arrays" fl_Ar := by
  intro x ci f kd h
  unfold fl_Ar at h
  split at h
  · cases h
def lc_Ar : Nat → Option Int32 := fun x => match x with
  | _ => none
set_option maxRecDepth 100000 in
theorem lck_Ar : ∀ x v, lc_Ar x = some v → Cond.constant "java/util/Arrays" x v ∈ tb := by
  intro x v h
  unfold lc_Ar at h
  split at h
  · cases h
def ll_Ar : Nat → Option Int64 := fun x => match x with
  | _ => none
set_option maxRecDepth 100000 in
theorem llk_Ar : ∀ x v, ll_Ar x = some v → Cond.constantLong "java/util/Arrays" x v ∈ tb := by
  intro x v h
  unfold ll_Ar at h
  split at h
  · cases h
theorem lk_Ar : zlk "java/util/Arrays" fl_Ar lc_Ar ll_Ar := ⟨fk_Ar, lck_Ar, llk_Ar⟩
def fl_Ob : Nat → Option (Nat × Nat × Nat) := fun x => match x with
  | _ => none
set_option maxRecDepth 100000 in
theorem fk_Ob : zfl "java/util/Objects" fl_Ob := by
  intro x ci f kd h
  unfold fl_Ob at h
  split at h
  · cases h
def lc_Ob : Nat → Option Int32 := fun x => match x with
  | _ => none
set_option maxRecDepth 100000 in
theorem lck_Ob : ∀ x v, lc_Ob x = some v → Cond.constant "java/util/Objects" x v ∈ tb := by
  intro x v h
  unfold lc_Ob at h
  split at h
  · cases h
def ll_Ob : Nat → Option Int64 := fun x => match x with
  | _ => none
set_option maxRecDepth 100000 in
theorem llk_Ob : ∀ x v, ll_Ob x = some v → Cond.constantLong "java/util/Objects" x v ∈ tb := by
  intro x v h
  unfold ll_Ob at h
  split at h
  · cases h
theorem lk_Ob : zlk "java/util/Objects" fl_Ob lc_Ob ll_Ob := ⟨fk_Ob, lck_Ob, llk_Ob⟩
def fl_AS : Nat → Option (Nat × Nat × Nat) := fun x => match x with
  | _ => none
set_option maxRecDepth 100000 in
theorem fk_AS : zfl "jdk/internal/util/ArraysSupport" fl_AS := by
  intro x ci f kd h
  unfold fl_AS at h
  split at h
  · cases h
def lc_AS : Nat → Option Int32 := fun x => match x with
  | 200 => some (2147483639)
  | _ => none
theorem lc_AS_200 : lc_AS 200 = some (2147483639) := rfl
set_option maxRecDepth 100000 in
theorem lck_AS : ∀ x v, lc_AS x = some v → Cond.constant "jdk/internal/util/ArraysSupport" x v ∈ tb := by
  intro x v h
  unfold lc_AS at h
  split at h
  · cases h
    exact tb_1 215 rfl rfl
  · cases h
def ll_AS : Nat → Option Int64 := fun x => match x with
  | _ => none
set_option maxRecDepth 100000 in
theorem llk_AS : ∀ x v, ll_AS x = some v → Cond.constantLong "jdk/internal/util/ArraysSupport" x v ∈ tb := by
  intro x v h
  unfold ll_AS at h
  split at h
  · cases h
theorem lk_AS : zlk "jdk/internal/util/ArraysSupport" fl_AS lc_AS ll_AS := ⟨fk_AS, lck_AS, llk_AS⟩
def fl_P : Nat → Option (Nat × Nat × Nat) := fun x => match x with
  | _ => none
set_option maxRecDepth 100000 in
theorem fk_P : zfl "jdk/internal/util/Preconditions" fl_P := by
  intro x ci f kd h
  unfold fl_P at h
  split at h
  · cases h
def lc_P : Nat → Option Int32 := fun x => match x with
  | _ => none
set_option maxRecDepth 100000 in
theorem lck_P : ∀ x v, lc_P x = some v → Cond.constant "jdk/internal/util/Preconditions" x v ∈ tb := by
  intro x v h
  unfold lc_P at h
  split at h
  · cases h
def ll_P : Nat → Option Int64 := fun x => match x with
  | _ => none
set_option maxRecDepth 100000 in
theorem llk_P : ∀ x v, ll_P x = some v → Cond.constantLong "jdk/internal/util/Preconditions" x v ∈ tb := by
  intro x v h
  unfold ll_P at h
  split at h
  · cases h
theorem lk_P : zlk "jdk/internal/util/Preconditions" fl_P lc_P ll_P := ⟨fk_P, lck_P, llk_P⟩
set_option maxRecDepth 100000 in
theorem q_D : zcl 0 (R_D, T_D, 5) t_D := ⟨rfl, i_D, to_D, tb_1 19 rfl rfl, tb_1 1 rfl rfl⟩
set_option maxRecDepth 100000 in
theorem q_A : zcl 1 (R_A, T_A, 6) t_A := ⟨rfl, i_A, to_A, tb_2 93 rfl rfl, tb_1 16 rfl rfl⟩
set_option maxRecDepth 100000 in
theorem q_C : zcl 2 (R_C, T_C, 3) t_C := ⟨rfl, i_C, to_C, tb_2 147 rfl rfl, tb_1 17 rfl rfl⟩
set_option maxRecDepth 100000 in
theorem q_N : zcl 3 (R_N, T_N, 2) t_N := ⟨rfl, i_N, to_N, tb_1 53 rfl rfl, tb_1 5 rfl rfl⟩
set_option maxRecDepth 100000 in
theorem q_V : zcl 4 (R_V, T_V, 4) t_V := ⟨rfl, i_V, to_V, tb_1 68 rfl rfl, tb_1 6 rfl rfl⟩
set_option maxRecDepth 100000 in
theorem q_F : zcl 5 (R_F, T_F, 11) t_F := ⟨rfl, i_F, to_F, tb_1 125 rfl rfl, tb_1 9 rfl rfl⟩
set_option maxRecDepth 100000 in
theorem q_I : zcl 6 (R_I, T_I, 5) t_I := ⟨rfl, i_I, to_I, tb_1 119 rfl rfl, tb_1 8 rfl rfl⟩
set_option maxRecDepth 100000 in
theorem q_L : zcl 7 (R_L, T_L, 3) t_L := ⟨rfl, i_L, to_L, tb_1 27 rfl rfl, tb_1 4 rfl rfl⟩
set_option maxRecDepth 100000 in
theorem q_M : zcl 8 (R_M, T_M, 34) t_M := ⟨rfl, i_M, to_M, tb_2 219 rfl rfl, tb_1 7 rfl rfl⟩
set_option maxRecDepth 100000 in
theorem k_D_11 : zcb "DoorActs" 11 y_L_init b_L_init 1 none 0 := ⟨tb_1 30 rfl rfl, tb_1 4 rfl rfl, tb_1 28 rfl rfl, by decide +kernel, by decide +kernel, by decide +kernel⟩
set_option maxRecDepth 100000 in
theorem n_L_init : Cond.instanceMethod y_L_init ∈ tb := tb_1 29 rfl rfl
set_option maxRecDepth 100000 in
theorem k_D_21 : zcn "DoorActs" 21 y_N_init "DoorActs" b_N_init 1 none 0 := ⟨tb_1 56 rfl rfl, tb_1 5 rfl rfl, by decide +kernel, by decide +kernel, by decide +kernel, by decide +kernel⟩
set_option maxRecDepth 100000 in
theorem n_N_init : Cond.instanceMethod y_N_init ∈ tb := tb_1 55 rfl rfl
set_option maxRecDepth 100000 in
theorem k_D_36 : zcn "DoorActs" 36 y_V_init "DoorActs" b_V_init 1 none 0 := ⟨tb_1 71 rfl rfl, tb_1 6 rfl rfl, by decide +kernel, by decide +kernel, by decide +kernel, by decide +kernel⟩
set_option maxRecDepth 100000 in
theorem n_V_init : Cond.instanceMethod y_V_init ∈ tb := tb_1 70 rfl rfl
set_option maxRecDepth 100000 in
theorem k_L_1 : zcb "java/util/ArrayList" 1 y_AL_init b_AL_init 1 none 0 := ⟨tb_1 33 rfl rfl, tb_1 3 rfl rfl, tb_1 31 rfl rfl, by decide +kernel, by decide +kernel, by decide +kernel⟩
set_option maxRecDepth 100000 in
theorem n_AL_init : Cond.instanceMethod y_AL_init ∈ tb := tb_1 32 rfl rfl
set_option maxRecDepth 100000 in
theorem k_AL_1 : zcb "java/util/AbstractList" 1 y_AC_init b_AC_init 1 none 0 := ⟨tb_1 36 rfl rfl, tb_1 2 rfl rfl, tb_1 34 rfl rfl, by decide +kernel, by decide +kernel, by decide +kernel⟩
set_option maxRecDepth 100000 in
theorem n_AC_init : Cond.instanceMethod y_AC_init ∈ tb := tb_1 35 rfl rfl
set_option maxRecDepth 100000 in
theorem k_V_19 : zcb "DoorActs$Device" 19 y_L_init b_L_init 1 none 0 := ⟨tb_1 30 rfl rfl, tb_1 4 rfl rfl, tb_1 74 rfl rfl, by decide +kernel, by decide +kernel, by decide +kernel⟩
set_option maxRecDepth 100000 in
theorem k_D_37 : zcb "DoorActs" 37 y_D_isPerson b_D_isPerson 1 (some .boolean) 1 := ⟨tb_1 113 rfl rfl, tb_1 1 rfl rfl, tb_1 111 rfl rfl, by decide +kernel, by decide +kernel, by decide +kernel⟩
set_option maxRecDepth 100000 in
theorem s_D_isPerson : Cond.static y_D_isPerson ∈ tb := tb_1 112 rfl rfl
set_option maxRecDepth 100000 in
theorem k_D_41 : zcb "DoorActs" 41 y_L_size b_L_size 1 (some .int) 0 := ⟨tb_1 117 rfl rfl, tb_1 4 rfl rfl, tb_1 114 rfl rfl, by decide +kernel, by decide +kernel, by decide +kernel⟩
set_option maxRecDepth 100000 in
theorem n_L_size : Cond.instanceMethod y_L_size ∈ tb := tb_1 115 rfl rfl
set_option maxRecDepth 100000 in
theorem v_L_size : Cond.selects y_L_size.cls y_L_size y_L_size ∈ tb := tb_1 116 rfl rfl
set_option maxRecDepth 100000 in
theorem k_D_47 : zcb "DoorActs" 47 y_I_init b_I_init 4 none 3 := ⟨tb_1 122 rfl rfl, tb_1 8 rfl rfl, tb_1 120 rfl rfl, by decide +kernel, by decide +kernel, by decide +kernel⟩
set_option maxRecDepth 100000 in
theorem n_I_init : Cond.instanceMethod y_I_init ∈ tb := tb_1 121 rfl rfl
set_option maxRecDepth 100000 in
theorem k_D_50 : zcb "DoorActs" 50 y_L_add1 b_L_add1 2 (some .boolean) 1 := ⟨tb_1 196 rfl rfl, tb_1 4 rfl rfl, tb_1 193 rfl rfl, by decide +kernel, by decide +kernel, by decide +kernel⟩
set_option maxRecDepth 100000 in
theorem n_L_add1 : Cond.instanceMethod y_L_add1 ∈ tb := tb_1 194 rfl rfl
set_option maxRecDepth 100000 in
theorem v_L_add1 : Cond.selects y_L_add1.cls y_L_add1 y_L_add1 ∈ tb := tb_1 195 rfl rfl
set_option maxRecDepth 100000 in
theorem k_I_11 : zcn "DoorActs$Item" 11 y_F_init "DoorActs" b_F_init 1 none 0 := ⟨tb_1 128 rfl rfl, tb_1 9 rfl rfl, by decide +kernel, by decide +kernel, by decide +kernel, by decide +kernel⟩
set_option maxRecDepth 100000 in
theorem n_F_init : Cond.instanceMethod y_F_init ∈ tb := tb_1 127 rfl rfl
set_option maxRecDepth 100000 in
theorem k_L_131 : zcb "java/util/ArrayList" 131 y_L_add3 b_L_add3 4 none 3 := ⟨tb_1 200 rfl rfl, tb_1 4 rfl rfl, tb_1 197 rfl rfl, by decide +kernel, by decide +kernel, by decide +kernel⟩
set_option maxRecDepth 100000 in
theorem n_L_add3 : Cond.instanceMethod y_L_add3 ∈ tb := tb_1 199 rfl rfl
set_option maxRecDepth 100000 in
theorem v_L_add3 : Cond.selects y_L_add3.cls y_L_add3 y_L_add3 ∈ tb := tb_at 0 rfl rfl
set_option maxRecDepth 100000 in
theorem k_L_129 : zcb "java/util/ArrayList" 129 y_L_grow0 b_L_grow0 1 (some (.array (.object "java/lang/Object"))) 0 := ⟨tb_1 204 rfl rfl, tb_1 4 rfl rfl, tb_1 201 rfl rfl, by decide +kernel, by decide +kernel, by decide +kernel⟩
set_option maxRecDepth 100000 in
theorem n_L_grow0 : Cond.instanceMethod y_L_grow0 ∈ tb := tb_1 203 rfl rfl
set_option maxRecDepth 100000 in
theorem v_L_grow0 : Cond.selects y_L_grow0.cls y_L_grow0 y_L_grow0 ∈ tb := tb_at 1 rfl rfl
set_option maxRecDepth 100000 in
theorem k_L_69 : zcb "java/util/ArrayList" 69 y_L_grow1 b_L_grow1 4 (some (.array (.object "java/lang/Object"))) 1 := ⟨tb_1 208 rfl rfl, tb_1 4 rfl rfl, tb_1 205 rfl rfl, by decide +kernel, by decide +kernel, by decide +kernel⟩
set_option maxRecDepth 100000 in
theorem n_L_grow1 : Cond.instanceMethod y_L_grow1 ∈ tb := tb_1 207 rfl rfl
set_option maxRecDepth 100000 in
theorem v_L_grow1 : Cond.selects y_L_grow1.cls y_L_grow1 y_L_grow1 ∈ tb := tb_at 2 rfl rfl
set_option maxRecDepth 100000 in
theorem k_L_73 : zcb "java/util/ArrayList" 73 y_AS_newLength b_AS_newLength 4 (some .int) 3 := ⟨tb_1 211 rfl rfl, tb_1 10 rfl rfl, tb_1 209 rfl rfl, by decide +kernel, by decide +kernel, by decide +kernel⟩
set_option maxRecDepth 100000 in
theorem s_AS_newLength : Cond.static y_AS_newLength ∈ tb := tb_1 210 rfl rfl
set_option maxRecDepth 100000 in
theorem k_L_66 : zcb "java/util/ArrayList" 66 y_Ar_copyOf2 b_Ar_copyOf2 2 (some (.array (.object "java/lang/Object"))) 2 := ⟨tb_1 221 rfl rfl, tb_1 12 rfl rfl, tb_1 219 rfl rfl, by decide +kernel, by decide +kernel, by decide +kernel⟩
set_option maxRecDepth 100000 in
theorem s_Ar_copyOf2 : Cond.static y_Ar_copyOf2 ∈ tb := tb_1 220 rfl rfl
set_option maxRecDepth 100000 in
theorem k_L_79 : zcb "java/util/ArrayList" 79 y_Ma_max b_Ma_max 2 (some .int) 2 := ⟨tb_1 214 rfl rfl, tb_1 11 rfl rfl, tb_2 7 rfl rfl, by decide +kernel, by decide +kernel, by decide +kernel⟩
set_option maxRecDepth 100000 in
theorem s_Ma_max : Cond.static y_Ma_max ∈ tb := tb_1 213 rfl rfl
set_option maxRecDepth 100000 in
theorem k_AS_194 : zcb "jdk/internal/util/ArraysSupport" 194 y_Ma_max b_Ma_max 2 (some .int) 2 := ⟨tb_1 214 rfl rfl, tb_1 11 rfl rfl, tb_1 212 rfl rfl, by decide +kernel, by decide +kernel, by decide +kernel⟩
set_option maxRecDepth 100000 in
theorem k_AS_201 : zcb "jdk/internal/util/ArraysSupport" 201 y_AS_hugeLength b_AS_hugeLength 3 (some .int) 2 := ⟨tb_1 218 rfl rfl, tb_1 10 rfl rfl, tb_1 216 rfl rfl, by decide +kernel, by decide +kernel, by decide +kernel⟩
set_option maxRecDepth 100000 in
theorem s_AS_hugeLength : Cond.static y_AS_hugeLength ∈ tb := tb_1 217 rfl rfl
set_option maxRecDepth 100000 in
theorem k_Ar_300 : zcb "java/util/Arrays" 300 y_Ar_copyOf3 b_Ar_copyOf3 4 (some (.array (.object "java/lang/Object"))) 3 := ⟨tb_1 237 rfl rfl, tb_1 12 rfl rfl, tb_1 235 rfl rfl, by decide +kernel, by decide +kernel, by decide +kernel⟩
set_option maxRecDepth 100000 in
theorem s_Ar_copyOf3 : Cond.static y_Ar_copyOf3 ∈ tb := tb_1 236 rfl rfl
set_option maxRecDepth 100000 in
theorem k_Ar_304 : zcb "java/util/Arrays" 304 y_Ma_min b_Ma_min 2 (some .int) 2 := ⟨tb_2 3 rfl rfl, tb_1 11 rfl rfl, tb_2 1 rfl rfl, by decide +kernel, by decide +kernel, by decide +kernel⟩
set_option maxRecDepth 100000 in
theorem s_Ma_min : Cond.static y_Ma_min ∈ tb := tb_2 2 rfl rfl
set_option maxRecDepth 100000 in
theorem k_D_54 : zcb "DoorActs" 54 y_N_turn b_N_turn 6 (some .int) 3 := ⟨tb_2 16 rfl rfl, tb_1 5 rfl rfl, tb_2 13 rfl rfl, by decide +kernel, by decide +kernel, by decide +kernel⟩
set_option maxRecDepth 100000 in
theorem n_N_turn : Cond.instanceMethod y_N_turn ∈ tb := tb_2 14 rfl rfl
set_option maxRecDepth 100000 in
theorem v_N_turn : Cond.selects y_N_turn.cls y_N_turn y_N_turn ∈ tb := tb_2 15 rfl rfl
set_option maxRecDepth 100000 in
theorem k_N_19 : zcb "DoorActs$Consents" 19 y_N_codeOf b_N_codeOf 3 (some .int) 3 := ⟨tb_2 19 rfl rfl, tb_1 5 rfl rfl, tb_2 17 rfl rfl, by decide +kernel, by decide +kernel, by decide +kernel⟩
set_option maxRecDepth 100000 in
theorem s_N_codeOf : Cond.static y_N_codeOf ∈ tb := tb_2 18 rfl rfl
set_option maxRecDepth 100000 in
theorem k_N_23 : zcb "DoorActs$Consents" 23 y_N_placeOf b_N_placeOf 3 (some .int) 1 := ⟨tb_2 23 rfl rfl, tb_1 5 rfl rfl, tb_2 20 rfl rfl, by decide +kernel, by decide +kernel, by decide +kernel⟩
set_option maxRecDepth 100000 in
theorem n_N_placeOf : Cond.instanceMethod y_N_placeOf ∈ tb := tb_2 22 rfl rfl
set_option maxRecDepth 100000 in
theorem v_N_placeOf : Cond.selects y_N_placeOf.cls y_N_placeOf y_N_placeOf ∈ tb := tb_at 3 rfl rfl
set_option maxRecDepth 100000 in
theorem k_D_58 : zcb "DoorActs" 58 y_D_itemOf b_D_itemOf 2 (some (.object "DoorActs$Item")) 1 := ⟨tb_2 31 rfl rfl, tb_1 1 rfl rfl, tb_2 28 rfl rfl, by decide +kernel, by decide +kernel, by decide +kernel⟩
set_option maxRecDepth 100000 in
theorem n_D_itemOf : Cond.instanceMethod y_D_itemOf ∈ tb := tb_2 30 rfl rfl
set_option maxRecDepth 100000 in
theorem v_D_itemOf : Cond.selects y_D_itemOf.cls y_D_itemOf y_D_itemOf ∈ tb := tb_at 4 rfl rfl
set_option maxRecDepth 100000 in
theorem k_D_62 : zcb "DoorActs" 62 y_D_isDevice b_D_isDevice 1 (some .boolean) 1 := ⟨tb_2 48 rfl rfl, tb_1 1 rfl rfl, tb_2 46 rfl rfl, by decide +kernel, by decide +kernel, by decide +kernel⟩
set_option maxRecDepth 100000 in
theorem s_D_isDevice : Cond.static y_D_isDevice ∈ tb := tb_2 47 rfl rfl
set_option maxRecDepth 100000 in
theorem k_D_69 : zcb "DoorActs" 69 y_V_factsOf b_V_factsOf 3 (some (.object "DoorActs$Facts")) 1 := ⟨tb_2 52 rfl rfl, tb_1 6 rfl rfl, tb_2 49 rfl rfl, by decide +kernel, by decide +kernel, by decide +kernel⟩
set_option maxRecDepth 100000 in
theorem n_V_factsOf : Cond.instanceMethod y_V_factsOf ∈ tb := tb_2 50 rfl rfl
set_option maxRecDepth 100000 in
theorem v_V_factsOf : Cond.selects y_V_factsOf.cls y_V_factsOf y_V_factsOf ∈ tb := tb_2 51 rfl rfl
set_option maxRecDepth 100000 in
theorem k_D_77 : zcb "DoorActs" 77 y_D_isActAsSaid b_D_isActAsSaid 4 (some .boolean) 3 := ⟨tb_2 58 rfl rfl, tb_1 1 rfl rfl, tb_2 56 rfl rfl, by decide +kernel, by decide +kernel, by decide +kernel⟩
set_option maxRecDepth 100000 in
theorem s_D_isActAsSaid : Cond.static y_D_isActAsSaid ∈ tb := tb_2 57 rfl rfl
set_option maxRecDepth 100000 in
theorem k_D_88 : zcb "DoorActs" 88 y_F_allow b_F_allow 4 (some .boolean) 3 := ⟨tb_2 64 rfl rfl, tb_1 9 rfl rfl, tb_2 61 rfl rfl, by decide +kernel, by decide +kernel, by decide +kernel⟩
set_option maxRecDepth 100000 in
theorem n_F_allow : Cond.instanceMethod y_F_allow ∈ tb := tb_2 62 rfl rfl
set_option maxRecDepth 100000 in
theorem v_F_allow : Cond.selects y_F_allow.cls y_F_allow y_F_allow ∈ tb := tb_2 63 rfl rfl
set_option maxRecDepth 100000 in
theorem k_D_96 : zcb "DoorActs" 96 y_D_outcomeOf b_D_outcomeOf 6 (some .int) 5 := ⟨tb_2 72 rfl rfl, tb_1 1 rfl rfl, tb_2 69 rfl rfl, by decide +kernel, by decide +kernel, by decide +kernel⟩
set_option maxRecDepth 100000 in
theorem n_D_outcomeOf : Cond.instanceMethod y_D_outcomeOf ∈ tb := tb_2 71 rfl rfl
set_option maxRecDepth 100000 in
theorem v_D_outcomeOf : Cond.selects y_D_outcomeOf.cls y_D_outcomeOf y_D_outcomeOf ∈ tb := tb_at 5 rfl rfl
set_option maxRecDepth 100000 in
theorem k_D_102 : zcb "DoorActs" 102 y_A_init b_A_init 7 none 6 := ⟨tb_2 96 rfl rfl, tb_1 16 rfl rfl, tb_2 94 rfl rfl, by decide +kernel, by decide +kernel, by decide +kernel⟩
set_option maxRecDepth 100000 in
theorem n_A_init : Cond.instanceMethod y_A_init ∈ tb := tb_2 95 rfl rfl
set_option maxRecDepth 100000 in
theorem k_D_105 : zcb "DoorActs" 105 y_F_change b_F_change 2 none 1 := ⟨tb_2 129 rfl rfl, tb_1 9 rfl rfl, tb_2 126 rfl rfl, by decide +kernel, by decide +kernel, by decide +kernel⟩
set_option maxRecDepth 100000 in
theorem n_F_change : Cond.instanceMethod y_F_change ∈ tb := tb_2 127 rfl rfl
set_option maxRecDepth 100000 in
theorem v_F_change : Cond.selects y_F_change.cls y_F_change y_F_change ∈ tb := tb_2 128 rfl rfl
set_option maxRecDepth 100000 in
theorem k_D_109 : zcb "DoorActs" 109 y_L_get b_L_get 2 (some (.object "java/lang/Object")) 1 := ⟨tb_2 35 rfl rfl, tb_1 4 rfl rfl, tb_2 32 rfl rfl, by decide +kernel, by decide +kernel, by decide +kernel⟩
set_option maxRecDepth 100000 in
theorem n_L_get : Cond.instanceMethod y_L_get ∈ tb := tb_2 33 rfl rfl
set_option maxRecDepth 100000 in
theorem v_L_get : Cond.selects y_L_get.cls y_L_get y_L_get ∈ tb := tb_2 34 rfl rfl
set_option maxRecDepth 100000 in
theorem k_L_118 : zcb "java/util/ArrayList" 118 y_Ob_checkIndex b_Ob_checkIndex 2 (some .int) 2 := ⟨tb_2 38 rfl rfl, tb_1 14 rfl rfl, tb_2 36 rfl rfl, by decide +kernel, by decide +kernel, by decide +kernel⟩
set_option maxRecDepth 100000 in
theorem s_Ob_checkIndex : Cond.static y_Ob_checkIndex ∈ tb := tb_2 37 rfl rfl
set_option maxRecDepth 100000 in
theorem k_L_123 : zcb "java/util/ArrayList" 123 y_L_elementData b_L_elementData 2 (some (.object "java/lang/Object")) 1 := ⟨tb_2 45 rfl rfl, tb_1 4 rfl rfl, tb_2 42 rfl rfl, by decide +kernel, by decide +kernel, by decide +kernel⟩
set_option maxRecDepth 100000 in
theorem n_L_elementData : Cond.instanceMethod y_L_elementData ∈ tb := tb_2 43 rfl rfl
set_option maxRecDepth 100000 in
theorem v_L_elementData : Cond.selects y_L_elementData.cls y_L_elementData y_L_elementData ∈ tb := tb_2 44 rfl rfl
set_option maxRecDepth 100000 in
theorem k_Ob_105 : zcb "java/util/Objects" 105 y_P_checkIndex b_P_checkIndex 3 (some .int) 3 := ⟨tb_2 41 rfl rfl, tb_1 15 rfl rfl, tb_2 39 rfl rfl, by decide +kernel, by decide +kernel, by decide +kernel⟩
set_option maxRecDepth 100000 in
theorem s_P_checkIndex : Cond.static y_P_checkIndex ∈ tb := tb_2 40 rfl rfl
set_option maxRecDepth 100000 in
theorem k_V_33 : zcb "DoorActs$Device" 33 y_L_size b_L_size 1 (some .int) 0 := ⟨tb_1 117 rfl rfl, tb_1 4 rfl rfl, tb_2 53 rfl rfl, by decide +kernel, by decide +kernel, by decide +kernel⟩
set_option maxRecDepth 100000 in
theorem k_V_37 : zcb "DoorActs$Device" 37 y_L_get b_L_get 2 (some (.object "java/lang/Object")) 1 := ⟨tb_2 35 rfl rfl, tb_1 4 rfl rfl, tb_2 54 rfl rfl, by decide +kernel, by decide +kernel, by decide +kernel⟩
set_option maxRecDepth 100000 in
theorem k_F_46 : zcb "DoorActs$Facts" 46 y_F_isHandedOver b_F_isHandedOver 1 (some .boolean) 0 := ⟨tb_2 68 rfl rfl, tb_1 9 rfl rfl, tb_2 65 rfl rfl, by decide +kernel, by decide +kernel, by decide +kernel⟩
set_option maxRecDepth 100000 in
theorem n_F_isHandedOver : Cond.instanceMethod y_F_isHandedOver ∈ tb := tb_2 66 rfl rfl
set_option maxRecDepth 100000 in
theorem v_F_isHandedOver : Cond.selects y_F_isHandedOver.cls y_F_isHandedOver y_F_isHandedOver ∈ tb := tb_2 67 rfl rfl
set_option maxRecDepth 100000 in
theorem k_D_183 : zcb "DoorActs" 183 y_D_handOutcome b_D_handOutcome 6 (some .int) 4 := ⟨tb_2 76 rfl rfl, tb_1 1 rfl rfl, tb_2 73 rfl rfl, by decide +kernel, by decide +kernel, by decide +kernel⟩
set_option maxRecDepth 100000 in
theorem n_D_handOutcome : Cond.instanceMethod y_D_handOutcome ∈ tb := tb_2 75 rfl rfl
set_option maxRecDepth 100000 in
theorem v_D_handOutcome : Cond.selects y_D_handOutcome.cls y_D_handOutcome y_D_handOutcome ∈ tb := tb_at 6 rfl rfl
set_option maxRecDepth 100000 in
theorem k_D_190 : zcb "DoorActs" 190 y_D_hasOrder b_D_hasOrder 3 (some .boolean) 2 := ⟨tb_2 84 rfl rfl, tb_1 1 rfl rfl, tb_2 81 rfl rfl, by decide +kernel, by decide +kernel, by decide +kernel⟩
set_option maxRecDepth 100000 in
theorem n_D_hasOrder : Cond.instanceMethod y_D_hasOrder ∈ tb := tb_2 83 rfl rfl
set_option maxRecDepth 100000 in
theorem v_D_hasOrder : Cond.selects y_D_hasOrder.cls y_D_hasOrder y_D_hasOrder ∈ tb := tb_at 8 rfl rfl
set_option maxRecDepth 100000 in
theorem k_D_194 : zcb "DoorActs" 194 y_N_stand b_N_stand 4 (some .boolean) 3 := ⟨tb_2 88 rfl rfl, tb_1 5 rfl rfl, tb_2 85 rfl rfl, by decide +kernel, by decide +kernel, by decide +kernel⟩
set_option maxRecDepth 100000 in
theorem n_N_stand : Cond.instanceMethod y_N_stand ∈ tb := tb_2 86 rfl rfl
set_option maxRecDepth 100000 in
theorem v_N_stand : Cond.selects y_N_stand.cls y_N_stand y_N_stand ∈ tb := tb_2 87 rfl rfl
set_option maxRecDepth 100000 in
theorem k_D_197 : zcb "DoorActs" 197 y_D_takerOutcome b_D_takerOutcome 5 (some .int) 3 := ⟨tb_2 80 rfl rfl, tb_1 1 rfl rfl, tb_2 77 rfl rfl, by decide +kernel, by decide +kernel, by decide +kernel⟩
set_option maxRecDepth 100000 in
theorem n_D_takerOutcome : Cond.instanceMethod y_D_takerOutcome ∈ tb := tb_2 79 rfl rfl
set_option maxRecDepth 100000 in
theorem v_D_takerOutcome : Cond.selects y_D_takerOutcome.cls y_D_takerOutcome y_D_takerOutcome ∈ tb := tb_at 7 rfl rfl
set_option maxRecDepth 100000 in
theorem k_D_201 : zcb "DoorActs" 201 y_D_isProofEnough b_D_isProofEnough 5 (some .boolean) 4 := ⟨tb_2 91 rfl rfl, tb_1 1 rfl rfl, tb_2 89 rfl rfl, by decide +kernel, by decide +kernel, by decide +kernel⟩
set_option maxRecDepth 100000 in
theorem s_D_isProofEnough : Cond.static y_D_isProofEnough ∈ tb := tb_2 90 rfl rfl
set_option maxRecDepth 100000 in
theorem k_F_61 : zcb "DoorActs$Facts" 61 y_F_leaveCard b_F_leaveCard 2 none 1 := ⟨tb_2 133 rfl rfl, tb_1 9 rfl rfl, tb_2 130 rfl rfl, by decide +kernel, by decide +kernel, by decide +kernel⟩
set_option maxRecDepth 100000 in
theorem n_F_leaveCard : Cond.instanceMethod y_F_leaveCard ∈ tb := tb_2 132 rfl rfl
set_option maxRecDepth 100000 in
theorem v_F_leaveCard : Cond.selects y_F_leaveCard.cls y_F_leaveCard y_F_leaveCard ∈ tb := tb_at 9 rfl rfl
set_option maxRecDepth 100000 in
theorem k_F_65 : zcb "DoorActs$Facts" 65 y_F_handOver b_F_handOver 2 none 1 := ⟨tb_2 137 rfl rfl, tb_1 9 rfl rfl, tb_2 134 rfl rfl, by decide +kernel, by decide +kernel, by decide +kernel⟩
set_option maxRecDepth 100000 in
theorem n_F_handOver : Cond.instanceMethod y_F_handOver ∈ tb := tb_2 136 rfl rfl
set_option maxRecDepth 100000 in
theorem v_F_handOver : Cond.selects y_F_handOver.cls y_F_handOver y_F_handOver ∈ tb := tb_at 10 rfl rfl
set_option maxRecDepth 100000 in
theorem k_D_113 : zcb "DoorActs" 113 y_D_doForAll b_D_doForAll 3 none 1 := ⟨tb_2 145 rfl rfl, tb_1 1 rfl rfl, tb_2 142 rfl rfl, by decide +kernel, by decide +kernel, by decide +kernel⟩
set_option maxRecDepth 100000 in
theorem n_D_doForAll : Cond.instanceMethod y_D_doForAll ∈ tb := tb_2 144 rfl rfl
set_option maxRecDepth 100000 in
theorem v_D_doForAll : Cond.selects y_D_doForAll.cls y_D_doForAll y_D_doForAll ∈ tb := tb_at 11 rfl rfl
set_option maxRecDepth 100000 in
theorem k_D_116 : zcb "DoorActs" 116 y_V_goOnLine b_V_goOnLine 1 none 0 := ⟨tb_2 168 rfl rfl, tb_1 6 rfl rfl, tb_2 165 rfl rfl, by decide +kernel, by decide +kernel, by decide +kernel⟩
set_option maxRecDepth 100000 in
theorem n_V_goOnLine : Cond.instanceMethod y_V_goOnLine ∈ tb := tb_2 166 rfl rfl
set_option maxRecDepth 100000 in
theorem v_V_goOnLine : Cond.selects y_V_goOnLine.cls y_V_goOnLine y_V_goOnLine ∈ tb := tb_2 167 rfl rfl
set_option maxRecDepth 100000 in
theorem k_D_182 : zcb "DoorActs" 182 y_C_init b_C_init 4 none 3 := ⟨tb_2 150 rfl rfl, tb_1 17 rfl rfl, tb_2 148 rfl rfl, by decide +kernel, by decide +kernel, by decide +kernel⟩
set_option maxRecDepth 100000 in
theorem n_C_init : Cond.instanceMethod y_C_init ∈ tb := tb_2 149 rfl rfl
set_option maxRecDepth 100000 in
theorem k_V_56 : zcb "DoorActs$Device" 56 y_L_clear b_L_clear 4 none 0 := ⟨tb_2 172 rfl rfl, tb_1 4 rfl rfl, tb_2 169 rfl rfl, by decide +kernel, by decide +kernel, by decide +kernel⟩
set_option maxRecDepth 100000 in
theorem n_L_clear : Cond.instanceMethod y_L_clear ∈ tb := tb_2 170 rfl rfl
set_option maxRecDepth 100000 in
theorem v_L_clear : Cond.selects y_L_clear.cls y_L_clear y_L_clear ∈ tb := tb_2 171 rfl rfl
set_option maxRecDepth 100000 in
theorem k_D_131 : zcb "DoorActs" 131 y_V_goOffLine b_V_goOffLine 3 none 1 := ⟨tb_2 184 rfl rfl, tb_1 6 rfl rfl, tb_2 181 rfl rfl, by decide +kernel, by decide +kernel, by decide +kernel⟩
set_option maxRecDepth 100000 in
theorem n_V_goOffLine : Cond.instanceMethod y_V_goOffLine ∈ tb := tb_2 182 rfl rfl
set_option maxRecDepth 100000 in
theorem v_V_goOffLine : Cond.selects y_V_goOffLine.cls y_V_goOffLine y_V_goOffLine ∈ tb := tb_2 183 rfl rfl
set_option maxRecDepth 100000 in
theorem k_V_43 : zcn "DoorActs$Device" 43 y_F_init "DoorActs" b_F_init 1 none 0 := ⟨tb_1 128 rfl rfl, tb_1 9 rfl rfl, by decide +kernel, by decide +kernel, by decide +kernel, by decide +kernel⟩
set_option maxRecDepth 100000 in
theorem k_V_44 : zcb "DoorActs$Device" 44 y_L_add1 b_L_add1 2 (some .boolean) 1 := ⟨tb_1 196 rfl rfl, tb_1 4 rfl rfl, tb_2 186 rfl rfl, by decide +kernel, by decide +kernel, by decide +kernel⟩
set_option maxRecDepth 100000 in
theorem k_V_52 : zcb "DoorActs$Device" 52 y_F_copyFrom b_F_copyFrom 2 none 1 := ⟨tb_2 191 rfl rfl, tb_1 9 rfl rfl, tb_2 188 rfl rfl, by decide +kernel, by decide +kernel, by decide +kernel⟩
set_option maxRecDepth 100000 in
theorem n_F_copyFrom : Cond.instanceMethod y_F_copyFrom ∈ tb := tb_2 189 rfl rfl
set_option maxRecDepth 100000 in
theorem v_F_copyFrom : Cond.selects y_F_copyFrom.cls y_F_copyFrom y_F_copyFrom ∈ tb := tb_2 190 rfl rfl
set_option maxRecDepth 100000 in
theorem k_D_140 : zcb "DoorActs" 140 y_F_goBackBy b_F_goBackBy 3 (some .boolean) 1 := ⟨tb_2 204 rfl rfl, tb_1 9 rfl rfl, tb_2 201 rfl rfl, by decide +kernel, by decide +kernel, by decide +kernel⟩
set_option maxRecDepth 100000 in
theorem n_F_goBackBy : Cond.instanceMethod y_F_goBackBy ∈ tb := tb_2 202 rfl rfl
set_option maxRecDepth 100000 in
theorem v_F_goBackBy : Cond.selects y_F_goBackBy.cls y_F_goBackBy y_F_goBackBy ∈ tb := tb_2 203 rfl rfl
set_option maxRecDepth 100000 in
theorem k_D_147 : zcb "DoorActs" 147 y_F_isHandedOver b_F_isHandedOver 1 (some .boolean) 0 := ⟨tb_2 68 rfl rfl, tb_1 9 rfl rfl, tb_2 209 rfl rfl, by decide +kernel, by decide +kernel, by decide +kernel⟩
set_option maxRecDepth 100000 in
theorem k_M_108 : zcb "DoorActsModel" 108 y_M_isIn b_M_isIn 6 (some .boolean) 3 := ⟨tb_3 96 rfl rfl, tb_1 7 rfl rfl, tb_3 94 rfl rfl, by decide +kernel, by decide +kernel, by decide +kernel⟩
set_option maxRecDepth 100000 in
theorem s_M_isIn : Cond.static y_M_isIn ∈ tb := tb_3 95 rfl rfl
set_option maxRecDepth 100000 in
theorem k_M_119 : zcb "DoorActsModel" 119 y_M_findConsent b_M_findConsent 7 (some .int) 3 := ⟨tb_3 106 rfl rfl, tb_1 7 rfl rfl, tb_3 103 rfl rfl, by decide +kernel, by decide +kernel, by decide +kernel⟩
set_option maxRecDepth 100000 in
theorem n_M_findConsent : Cond.instanceMethod y_M_findConsent ∈ tb := tb_3 105 rfl rfl
set_option maxRecDepth 100000 in
theorem v_M_findConsent : Cond.selects y_M_findConsent.cls y_M_findConsent y_M_findConsent ∈ tb := tb_at 12 rfl rfl
set_option maxRecDepth 100000 in
theorem k_M_143 : zcb "DoorActsModel" 143 y_M_isItem b_M_isItem 2 (some .boolean) 1 := ⟨tb_3 114 rfl rfl, tb_1 7 rfl rfl, tb_3 111 rfl rfl, by decide +kernel, by decide +kernel, by decide +kernel⟩
set_option maxRecDepth 100000 in
theorem n_M_isItem : Cond.instanceMethod y_M_isItem ∈ tb := tb_3 113 rfl rfl
set_option maxRecDepth 100000 in
theorem v_M_isItem : Cond.selects y_M_isItem.cls y_M_isItem y_M_isItem ∈ tb := tb_at 13 rfl rfl
set_option maxRecDepth 100000 in
theorem k_M_147 : zcb "DoorActsModel" 147 y_M_isDevice b_M_isDevice 1 (some .boolean) 1 := ⟨tb_3 117 rfl rfl, tb_1 7 rfl rfl, tb_3 115 rfl rfl, by decide +kernel, by decide +kernel, by decide +kernel⟩
set_option maxRecDepth 100000 in
theorem s_M_isDevice : Cond.static y_M_isDevice ∈ tb := tb_3 116 rfl rfl
set_option maxRecDepth 100000 in
theorem k_M_158 : zcb "DoorActsModel" 158 y_M_canBe b_M_canBe 9 (some .boolean) 5 := ⟨tb_3 125 rfl rfl, tb_1 7 rfl rfl, tb_3 122 rfl rfl, by decide +kernel, by decide +kernel, by decide +kernel⟩
set_option maxRecDepth 100000 in
theorem n_M_canBe : Cond.instanceMethod y_M_canBe ∈ tb := tb_3 124 rfl rfl
set_option maxRecDepth 100000 in
theorem v_M_canBe : Cond.selects y_M_canBe.cls y_M_canBe y_M_canBe ∈ tb := tb_at 14 rfl rfl
set_option maxRecDepth 100000 in
theorem k_M_162 : zcb "DoorActsModel" 162 y_M_outcome b_M_outcome 10 (some .int) 5 := ⟨tb_3 129 rfl rfl, tb_1 7 rfl rfl, tb_3 126 rfl rfl, by decide +kernel, by decide +kernel, by decide +kernel⟩
set_option maxRecDepth 100000 in
theorem n_M_outcome : Cond.instanceMethod y_M_outcome ∈ tb := tb_3 128 rfl rfl
set_option maxRecDepth 100000 in
theorem v_M_outcome : Cond.selects y_M_outcome.cls y_M_outcome y_M_outcome ∈ tb := tb_at 15 rfl rfl
set_option maxRecDepth 100000 in
theorem k_M_166 : zcb "DoorActsModel" 166 y_M_make b_M_make 10 none 7 := ⟨tb_3 146 rfl rfl, tb_1 7 rfl rfl, tb_3 143 rfl rfl, by decide +kernel, by decide +kernel, by decide +kernel⟩
set_option maxRecDepth 100000 in
theorem n_M_make : Cond.instanceMethod y_M_make ∈ tb := tb_3 145 rfl rfl
set_option maxRecDepth 100000 in
theorem v_M_make : Cond.selects y_M_make.cls y_M_make y_M_make ∈ tb := tb_at 19 rfl rfl
set_option maxRecDepth 100000 in
theorem k_M_125 : zcb "DoorActsModel" 125 y_M_whoTakes b_M_whoTakes 6 (some .int) 3 := ⟨tb_3 133 rfl rfl, tb_1 7 rfl rfl, tb_3 130 rfl rfl, by decide +kernel, by decide +kernel, by decide +kernel⟩
set_option maxRecDepth 100000 in
theorem n_M_whoTakes : Cond.instanceMethod y_M_whoTakes ∈ tb := tb_3 132 rfl rfl
set_option maxRecDepth 100000 in
theorem v_M_whoTakes : Cond.selects y_M_whoTakes.cls y_M_whoTakes y_M_whoTakes ∈ tb := tb_at 16 rfl rfl
set_option maxRecDepth 100000 in
theorem k_M_129 : zcb "DoorActsModel" 129 y_M_isProven b_M_isProven 8 (some .boolean) 4 := ⟨tb_3 137 rfl rfl, tb_1 7 rfl rfl, tb_3 134 rfl rfl, by decide +kernel, by decide +kernel, by decide +kernel⟩
set_option maxRecDepth 100000 in
theorem n_M_isProven : Cond.instanceMethod y_M_isProven ∈ tb := tb_3 136 rfl rfl
set_option maxRecDepth 100000 in
theorem v_M_isProven : Cond.selects y_M_isProven.cls y_M_isProven y_M_isProven ∈ tb := tb_at 17 rfl rfl
set_option maxRecDepth 100000 in
theorem k_M_133 : zcb "DoorActsModel" 133 y_M_due b_M_due 2 (some .long) 1 := ⟨tb_3 141 rfl rfl, tb_1 7 rfl rfl, tb_3 138 rfl rfl, by decide +kernel, by decide +kernel, by decide +kernel⟩
set_option maxRecDepth 100000 in
theorem n_M_due : Cond.instanceMethod y_M_due ∈ tb := tb_3 140 rfl rfl
set_option maxRecDepth 100000 in
theorem v_M_due : Cond.selects y_M_due.cls y_M_due y_M_due ∈ tb := tb_at 18 rfl rfl
set_option maxRecDepth 100000 in
theorem k_M_137 : zcb "DoorActsModel" 137 y_M_hand b_M_hand 7 none 5 := ⟨tb_3 150 rfl rfl, tb_1 7 rfl rfl, tb_3 147 rfl rfl, by decide +kernel, by decide +kernel, by decide +kernel⟩
set_option maxRecDepth 100000 in
theorem n_M_hand : Cond.instanceMethod y_M_hand ∈ tb := tb_3 149 rfl rfl
set_option maxRecDepth 100000 in
theorem v_M_hand : Cond.selects y_M_hand.cls y_M_hand y_M_hand ∈ tb := tb_at 20 rfl rfl
set_option maxRecDepth 100000 in
theorem k_W_9 : zcb "DoorActsLaw" 9 y_D_init b_D_init 2 none 0 := ⟨tb_1 22 rfl rfl, tb_1 1 rfl rfl, tb_1 20 rfl rfl, by decide +kernel, by decide +kernel, by decide +kernel⟩
set_option maxRecDepth 100000 in
theorem n_D_init : Cond.instanceMethod y_D_init ∈ tb := tb_1 21 rfl rfl
set_option maxRecDepth 100000 in
theorem k_W_12 : zcb "DoorActsLaw" 12 y_M_init b_M_init 1 none 0 := ⟨tb_2 222 rfl rfl, tb_1 7 rfl rfl, tb_2 220 rfl rfl, by decide +kernel, by decide +kernel, by decide +kernel⟩
set_option maxRecDepth 100000 in
theorem n_M_init : Cond.instanceMethod y_M_init ∈ tb := tb_2 221 rfl rfl
set_option maxRecDepth 100000 in
theorem k_W_13 : zcb "DoorActsLaw" 13 y_D_item b_D_item 3 (some .int) 2 := ⟨tb_1 110 rfl rfl, tb_1 1 rfl rfl, tb_1 107 rfl rfl, by decide +kernel, by decide +kernel, by decide +kernel⟩
set_option maxRecDepth 100000 in
theorem n_D_item : Cond.instanceMethod y_D_item ∈ tb := tb_1 108 rfl rfl
set_option maxRecDepth 100000 in
theorem v_D_item : Cond.selects y_D_item.cls y_D_item y_D_item ∈ tb := tb_1 109 rfl rfl
set_option maxRecDepth 100000 in
theorem k_W_17 : zcb "DoorActsLaw" 17 y_M_item b_M_item 4 (some .int) 2 := ⟨tb_3 92 rfl rfl, tb_1 7 rfl rfl, tb_3 89 rfl rfl, by decide +kernel, by decide +kernel, by decide +kernel⟩
set_option maxRecDepth 100000 in
theorem n_M_item : Cond.instanceMethod y_M_item ∈ tb := tb_3 90 rfl rfl
set_option maxRecDepth 100000 in
theorem v_M_item : Cond.selects y_M_item.cls y_M_item y_M_item ∈ tb := tb_3 91 rfl rfl
set_option maxRecDepth 100000 in
theorem k_W_18 : zcb "DoorActsLaw" 18 y_D_consent b_D_consent 4 (some .int) 3 := ⟨tb_2 12 rfl rfl, tb_1 1 rfl rfl, tb_2 9 rfl rfl, by decide +kernel, by decide +kernel, by decide +kernel⟩
set_option maxRecDepth 100000 in
theorem n_D_consent : Cond.instanceMethod y_D_consent ∈ tb := tb_2 10 rfl rfl
set_option maxRecDepth 100000 in
theorem v_D_consent : Cond.selects y_D_consent.cls y_D_consent y_D_consent ∈ tb := tb_2 11 rfl rfl
set_option maxRecDepth 100000 in
theorem k_W_22 : zcb "DoorActsLaw" 22 y_M_consent b_M_consent 5 (some .int) 3 := ⟨tb_3 101 rfl rfl, tb_1 7 rfl rfl, tb_3 98 rfl rfl, by decide +kernel, by decide +kernel, by decide +kernel⟩
set_option maxRecDepth 100000 in
theorem n_M_consent : Cond.instanceMethod y_M_consent ∈ tb := tb_3 99 rfl rfl
set_option maxRecDepth 100000 in
theorem v_M_consent : Cond.selects y_M_consent.cls y_M_consent y_M_consent ∈ tb := tb_3 100 rfl rfl
set_option maxRecDepth 100000 in
theorem k_W_25 : zcb "DoorActsLaw" 25 y_D_act b_D_act 14 (some .int) 6 := ⟨tb_2 27 rfl rfl, tb_1 1 rfl rfl, tb_2 24 rfl rfl, by decide +kernel, by decide +kernel, by decide +kernel⟩
set_option maxRecDepth 100000 in
theorem n_D_act : Cond.instanceMethod y_D_act ∈ tb := tb_2 25 rfl rfl
set_option maxRecDepth 100000 in
theorem v_D_act : Cond.selects y_D_act.cls y_D_act y_D_act ∈ tb := tb_2 26 rfl rfl
set_option maxRecDepth 100000 in
theorem k_W_29 : zcb "DoorActsLaw" 29 y_M_act b_M_act 14 (some .int) 6 := ⟨tb_3 110 rfl rfl, tb_1 7 rfl rfl, tb_3 107 rfl rfl, by decide +kernel, by decide +kernel, by decide +kernel⟩
set_option maxRecDepth 100000 in
theorem n_M_act : Cond.instanceMethod y_M_act ∈ tb := tb_3 108 rfl rfl
set_option maxRecDepth 100000 in
theorem v_M_act : Cond.selects y_M_act.cls y_M_act y_M_act ∈ tb := tb_3 109 rfl rfl
set_option maxRecDepth 100000 in
theorem k_W_30 : zcb "DoorActsLaw" 30 y_D_join b_D_join 6 (some .int) 1 := ⟨tb_2 141 rfl rfl, tb_1 1 rfl rfl, tb_2 138 rfl rfl, by decide +kernel, by decide +kernel, by decide +kernel⟩
set_option maxRecDepth 100000 in
theorem n_D_join : Cond.instanceMethod y_D_join ∈ tb := tb_2 139 rfl rfl
set_option maxRecDepth 100000 in
theorem v_D_join : Cond.selects y_D_join.cls y_D_join y_D_join ∈ tb := tb_2 140 rfl rfl
set_option maxRecDepth 100000 in
theorem k_W_34 : zcb "DoorActsLaw" 34 y_M_join b_M_join 6 (some .int) 1 := ⟨tb_3 159 rfl rfl, tb_1 7 rfl rfl, tb_3 156 rfl rfl, by decide +kernel, by decide +kernel, by decide +kernel⟩
set_option maxRecDepth 100000 in
theorem n_M_join : Cond.instanceMethod y_M_join ∈ tb := tb_3 157 rfl rfl
set_option maxRecDepth 100000 in
theorem v_M_join : Cond.selects y_M_join.cls y_M_join y_M_join ∈ tb := tb_3 158 rfl rfl
set_option maxRecDepth 100000 in
theorem k_W_35 : zcb "DoorActsLaw" 35 y_D_clash b_D_clash 4 (some .int) 2 := ⟨tb_2 176 rfl rfl, tb_1 1 rfl rfl, tb_2 173 rfl rfl, by decide +kernel, by decide +kernel, by decide +kernel⟩
set_option maxRecDepth 100000 in
theorem n_D_clash : Cond.instanceMethod y_D_clash ∈ tb := tb_2 174 rfl rfl
set_option maxRecDepth 100000 in
theorem v_D_clash : Cond.selects y_D_clash.cls y_D_clash y_D_clash ∈ tb := tb_2 175 rfl rfl
set_option maxRecDepth 100000 in
theorem k_W_38 : zcb "DoorActsLaw" 38 y_M_clash b_M_clash 3 (some .int) 2 := ⟨tb_3 163 rfl rfl, tb_1 7 rfl rfl, tb_3 160 rfl rfl, by decide +kernel, by decide +kernel, by decide +kernel⟩
set_option maxRecDepth 100000 in
theorem n_M_clash : Cond.instanceMethod y_M_clash ∈ tb := tb_3 161 rfl rfl
set_option maxRecDepth 100000 in
theorem v_M_clash : Cond.selects y_M_clash.cls y_M_clash y_M_clash ∈ tb := tb_3 162 rfl rfl
set_option maxRecDepth 100000 in
theorem k_W_39 : zcb "DoorActsLaw" 39 y_D_cut b_D_cut 3 (some .boolean) 2 := ⟨tb_2 180 rfl rfl, tb_1 1 rfl rfl, tb_2 177 rfl rfl, by decide +kernel, by decide +kernel, by decide +kernel⟩
set_option maxRecDepth 100000 in
theorem n_D_cut : Cond.instanceMethod y_D_cut ∈ tb := tb_2 178 rfl rfl
set_option maxRecDepth 100000 in
theorem v_D_cut : Cond.selects y_D_cut.cls y_D_cut y_D_cut ∈ tb := tb_2 179 rfl rfl
set_option maxRecDepth 100000 in
theorem k_W_43 : zcb "DoorActsLaw" 43 y_M_cut b_M_cut 6 (some .boolean) 2 := ⟨tb_3 155 rfl rfl, tb_1 7 rfl rfl, tb_3 152 rfl rfl, by decide +kernel, by decide +kernel, by decide +kernel⟩
set_option maxRecDepth 100000 in
theorem n_M_cut : Cond.instanceMethod y_M_cut ∈ tb := tb_3 153 rfl rfl
set_option maxRecDepth 100000 in
theorem v_M_cut : Cond.selects y_M_cut.cls y_M_cut y_M_cut ∈ tb := tb_3 154 rfl rfl
set_option maxRecDepth 100000 in
theorem k_W_44 : zcb "DoorActsLaw" 44 y_D_tries b_D_tries 3 (some .int) 1 := ⟨tb_2 195 rfl rfl, tb_1 1 rfl rfl, tb_2 192 rfl rfl, by decide +kernel, by decide +kernel, by decide +kernel⟩
set_option maxRecDepth 100000 in
theorem n_D_tries : Cond.instanceMethod y_D_tries ∈ tb := tb_2 193 rfl rfl
set_option maxRecDepth 100000 in
theorem v_D_tries : Cond.selects y_D_tries.cls y_D_tries y_D_tries ∈ tb := tb_2 194 rfl rfl
set_option maxRecDepth 100000 in
theorem k_W_47 : zcb "DoorActsLaw" 47 y_M_tries b_M_tries 2 (some .int) 1 := ⟨tb_3 167 rfl rfl, tb_1 7 rfl rfl, tb_3 164 rfl rfl, by decide +kernel, by decide +kernel, by decide +kernel⟩
set_option maxRecDepth 100000 in
theorem n_M_tries : Cond.instanceMethod y_M_tries ∈ tb := tb_3 165 rfl rfl
set_option maxRecDepth 100000 in
theorem v_M_tries : Cond.selects y_M_tries.cls y_M_tries y_M_tries ∈ tb := tb_3 166 rfl rfl
set_option maxRecDepth 100000 in
theorem k_W_48 : zcb "DoorActsLaw" 48 y_D_tick b_D_tick 5 (some .int) 1 := ⟨tb_2 199 rfl rfl, tb_1 1 rfl rfl, tb_2 196 rfl rfl, by decide +kernel, by decide +kernel, by decide +kernel⟩
set_option maxRecDepth 100000 in
theorem n_D_tick : Cond.instanceMethod y_D_tick ∈ tb := tb_2 197 rfl rfl
set_option maxRecDepth 100000 in
theorem v_D_tick : Cond.selects y_D_tick.cls y_D_tick y_D_tick ∈ tb := tb_2 198 rfl rfl
set_option maxRecDepth 100000 in
theorem k_W_52 : zcb "DoorActsLaw" 52 y_M_tick b_M_tick 6 (some .int) 1 := ⟨tb_3 171 rfl rfl, tb_1 7 rfl rfl, tb_3 168 rfl rfl, by decide +kernel, by decide +kernel, by decide +kernel⟩
set_option maxRecDepth 100000 in
theorem n_M_tick : Cond.instanceMethod y_M_tick ∈ tb := tb_3 169 rfl rfl
set_option maxRecDepth 100000 in
theorem v_M_tick : Cond.selects y_M_tick.cls y_M_tick y_M_tick ∈ tb := tb_3 170 rfl rfl
set_option maxRecDepth 100000 in
theorem k_W_53 : zcb "DoorActsLaw" 53 y_D_slip b_D_slip 6 (some .int) 2 := ⟨tb_2 208 rfl rfl, tb_1 1 rfl rfl, tb_2 205 rfl rfl, by decide +kernel, by decide +kernel, by decide +kernel⟩
set_option maxRecDepth 100000 in
theorem n_D_slip : Cond.instanceMethod y_D_slip ∈ tb := tb_2 206 rfl rfl
set_option maxRecDepth 100000 in
theorem v_D_slip : Cond.selects y_D_slip.cls y_D_slip y_D_slip ∈ tb := tb_2 207 rfl rfl
set_option maxRecDepth 100000 in
theorem k_W_56 : zcb "DoorActsLaw" 56 y_M_slip b_M_slip 5 (some .int) 2 := ⟨tb_3 176 rfl rfl, tb_1 7 rfl rfl, tb_3 173 rfl rfl, by decide +kernel, by decide +kernel, by decide +kernel⟩
set_option maxRecDepth 100000 in
theorem n_M_slip : Cond.instanceMethod y_M_slip ∈ tb := tb_3 174 rfl rfl
set_option maxRecDepth 100000 in
theorem v_M_slip : Cond.selects y_M_slip.cls y_M_slip y_M_slip ∈ tb := tb_3 175 rfl rfl
set_option maxRecDepth 100000 in
theorem k_W_57 : zcb "DoorActsLaw" 57 y_D_cash b_D_cash 5 (some .int) 2 := ⟨tb_2 213 rfl rfl, tb_1 1 rfl rfl, tb_2 210 rfl rfl, by decide +kernel, by decide +kernel, by decide +kernel⟩
set_option maxRecDepth 100000 in
theorem n_D_cash : Cond.instanceMethod y_D_cash ∈ tb := tb_2 211 rfl rfl
set_option maxRecDepth 100000 in
theorem v_D_cash : Cond.selects y_D_cash.cls y_D_cash y_D_cash ∈ tb := tb_2 212 rfl rfl
set_option maxRecDepth 100000 in
theorem k_W_61 : zcb "DoorActsLaw" 61 y_M_cash b_M_cash 4 (some .int) 2 := ⟨tb_3 180 rfl rfl, tb_1 7 rfl rfl, tb_3 177 rfl rfl, by decide +kernel, by decide +kernel, by decide +kernel⟩
set_option maxRecDepth 100000 in
theorem n_M_cash : Cond.instanceMethod y_M_cash ∈ tb := tb_3 178 rfl rfl
set_option maxRecDepth 100000 in
theorem v_M_cash : Cond.selects y_M_cash.cls y_M_cash y_M_cash ∈ tb := tb_3 179 rfl rfl
set_option maxRecDepth 100000 in
theorem k_W_62 : zcb "DoorActsLaw" 62 y_D_state b_D_state 3 (some .int) 1 := ⟨tb_2 217 rfl rfl, tb_1 1 rfl rfl, tb_2 214 rfl rfl, by decide +kernel, by decide +kernel, by decide +kernel⟩
set_option maxRecDepth 100000 in
theorem n_D_state : Cond.instanceMethod y_D_state ∈ tb := tb_2 215 rfl rfl
set_option maxRecDepth 100000 in
theorem v_D_state : Cond.selects y_D_state.cls y_D_state y_D_state ∈ tb := tb_2 216 rfl rfl
set_option maxRecDepth 100000 in
theorem k_W_65 : zcb "DoorActsLaw" 65 y_M_state b_M_state 2 (some .int) 1 := ⟨tb_3 184 rfl rfl, tb_1 7 rfl rfl, tb_3 181 rfl rfl, by decide +kernel, by decide +kernel, by decide +kernel⟩
set_option maxRecDepth 100000 in
theorem n_M_state : Cond.instanceMethod y_M_state ∈ tb := tb_3 182 rfl rfl
set_option maxRecDepth 100000 in
theorem v_M_state : Cond.selects y_M_state.cls y_M_state y_M_state ∈ tb := tb_3 183 rfl rfl
set_option maxRecDepth 100000 in
theorem oi_i : Cond.instanceMethod objectInit ∈ tb := by decide +kernel
set_option maxRecDepth 100000 in
theorem oi_c : Cond.code objectInit ⟨#[0xb1]⟩ 1 none ∈ tb := by decide +kernel
theorem sw_0 : zswk 0 10 #[59, 92, 135, 242, 265, 298, 347, 370, 423, 456, 519] = True := eq_true (by unfold zswk; decide)
theorem sw_1 : zswk 0 4 #[33, 97, 114, 172, 175] = True := eq_true (by unfold zswk; decide)
theorem sw_2 : zswk 0 4 #[34, 46, 34, 76, 99] = True := eq_true (by unfold zswk; decide)
theorem sw_3 : zswk 0 4 #[35, 46, 60, 87, 90] = True := eq_true (by unfold zswk; decide)
theorem sw_4 : zswk 0 4 #[35, 49, 35, 78, 100] = True := eq_true (by unfold zswk; decide)
theorem sw_5 : zswk 0 4 #[35, 54, 115, 127, 138] = True := eq_true (by unfold zswk; decide)
theorem sw_6 : zswk 1 4 #[32, 43, 52, 60] = True := eq_true (by unfold zswk; decide)
theorem zt_1_8 : zt 1 8 = 9 := rfl
theorem zo_1_8 : zo 1 8 = True := eq_true (by unfold zo; decide)
theorem zt_1_12 : zt 1 12 = 13 := rfl
theorem zo_1_12 : zo 1 12 = True := eq_true (by unfold zo; decide)
theorem zt_1_13 : zt 1 13 = 14 := rfl
theorem zo_1_13 : zo 1 13 = True := eq_true (by unfold zo; decide)
theorem zt_1_15 : zt 1 15 = 16 := rfl
theorem zo_1_15 : zo 1 15 = True := eq_true (by unfold zo; decide)
theorem zt_1_20 : zt 1 20 = 21 := rfl
theorem zo_1_20 : zo 1 20 = True := eq_true (by unfold zo; decide)
theorem zt_1_35 : zt 1 35 = 36 := rfl
theorem zo_1_35 : zo 1 35 = True := eq_true (by unfold zo; decide)
theorem zt_1_46 : zt 1 46 = 47 := rfl
theorem zo_1_46 : zo 1 46 = True := eq_true (by unfold zo; decide)
theorem zt_1_49 : zt 1 49 = 50 := rfl
theorem zo_1_49 : zo 1 49 = True := eq_true (by unfold zo; decide)
theorem zt_1_60 : zt 1 60 = 61 := rfl
theorem zo_1_60 : zo 1 60 = True := eq_true (by unfold zo; decide)
theorem zt_1_78 : zt 1 78 = 79 := rfl
theorem zo_1_78 : zo 1 78 = True := eq_true (by unfold zo; decide)
theorem zt_1_87 : zt 1 87 = 88 := rfl
theorem zo_1_87 : zo 1 87 = True := eq_true (by unfold zo; decide)
theorem zt_1_90 : zt 1 90 = 91 := rfl
theorem zo_1_90 : zo 1 90 = True := eq_true (by unfold zo; decide)
theorem zt_1_93 : zt 1 93 = 94 := rfl
theorem zo_1_93 : zo 1 93 = True := eq_true (by unfold zo; decide)
theorem zt_1_100 : zt 1 100 = 101 := rfl
theorem zo_1_100 : zo 1 100 = True := eq_true (by unfold zo; decide)
theorem zt_1_129 : zt 1 129 = 130 := rfl
theorem zo_1_129 : zo 1 129 = True := eq_true (by unfold zo; decide)
theorem zt_2_7 : zt 2 7 = 9 := rfl
theorem zo_2_7 : zo 2 7 = True := eq_true (by unfold zo; decide)
theorem zt_2_15 : zt 2 15 = 17 := rfl
theorem zo_2_15 : zo 2 15 = True := eq_true (by unfold zo; decide)
theorem zt_2_30 : zt 2 30 = 32 := rfl
theorem zo_2_30 : zo 2 30 = True := eq_true (by unfold zo; decide)
theorem zt_2_32 : zt 2 32 = 34 := rfl
theorem zo_2_32 : zo 2 32 = True := eq_true (by unfold zo; decide)
theorem zt_3_8 : zt 3 8 = 11 := rfl
theorem zo_3_8 : zo 3 8 = True := eq_true (by unfold zo; decide)
theorem zt_3_10 : zt 3 10 = 13 := rfl
theorem zo_3_10 : zo 3 10 = True := eq_true (by unfold zo; decide)
theorem zt_3_14 : zt 3 14 = 17 := rfl
theorem zo_3_14 : zo 3 14 = True := eq_true (by unfold zo; decide)
theorem zt_4_6 : zt 4 6 = 10 := rfl
theorem zo_4_6 : zo 4 6 = True := eq_true (by unfold zo; decide)
theorem zt_4_12 : zt 4 12 = 16 := rfl
theorem zo_4_12 : zo 4 12 = True := eq_true (by unfold zo; decide)
theorem zt_4_13 : zt 4 13 = 17 := rfl
theorem zo_4_13 : zo 4 13 = True := eq_true (by unfold zo; decide)
theorem zt_4_16 : zt 4 16 = 20 := rfl
theorem zo_4_16 : zo 4 16 = True := eq_true (by unfold zo; decide)
theorem zt_5_5 : zt 5 5 = 10 := rfl
theorem zo_5_5 : zo 5 5 = True := eq_true (by unfold zo; decide)
theorem zt_5_6 : zt 5 6 = 11 := rfl
theorem zo_5_6 : zo 5 6 = True := eq_true (by unfold zo; decide)
theorem zt_5_13 : zt 5 13 = 18 := rfl
theorem zo_5_13 : zo 5 13 = True := eq_true (by unfold zo; decide)
theorem zt_5_16 : zt 5 16 = 21 := rfl
theorem zo_5_16 : zo 5 16 = True := eq_true (by unfold zo; decide)
theorem zt_5_23 : zt 5 23 = 28 := rfl
theorem zo_5_23 : zo 5 23 = True := eq_true (by unfold zo; decide)
theorem zt_5_29 : zt 5 29 = 34 := rfl
theorem zo_5_29 : zo 5 29 = True := eq_true (by unfold zo; decide)
theorem zt_5_36 : zt 5 36 = 41 := rfl
theorem zo_5_36 : zo 5 36 = True := eq_true (by unfold zo; decide)
theorem zt_5_44 : zt 5 44 = 49 := rfl
theorem zo_5_44 : zo 5 44 = True := eq_true (by unfold zo; decide)
theorem zt_6_4 : zt 6 4 = 10 := rfl
theorem zo_6_4 : zo 6 4 = True := eq_true (by unfold zo; decide)
theorem zt_6_6 : zt 6 6 = 12 := rfl
theorem zo_6_6 : zo 6 6 = True := eq_true (by unfold zo; decide)
theorem zt_6_10 : zt 6 10 = 16 := rfl
theorem zo_6_10 : zo 6 10 = True := eq_true (by unfold zo; decide)
theorem zt_6_11 : zt 6 11 = 17 := rfl
theorem zo_6_11 : zo 6 11 = True := eq_true (by unfold zo; decide)
theorem zt_6_15 : zt 6 15 = 21 := rfl
theorem zo_6_15 : zo 6 15 = True := eq_true (by unfold zo; decide)
theorem zt_7_6 : zt 7 6 = 13 := rfl
theorem zo_7_6 : zo 7 6 = True := eq_true (by unfold zo; decide)
theorem zt_7_7 : zt 7 7 = 14 := rfl
theorem zo_7_7 : zo 7 7 = True := eq_true (by unfold zo; decide)
theorem zt_7_8 : zt 7 8 = 15 := rfl
theorem zo_7_8 : zo 7 8 = True := eq_true (by unfold zo; decide)
theorem zt_7_13 : zt 7 13 = 20 := rfl
theorem zo_7_13 : zo 7 13 = True := eq_true (by unfold zo; decide)
theorem zt_7_21 : zt 7 21 = 28 := rfl
theorem zo_7_21 : zo 7 21 = True := eq_true (by unfold zo; decide)
theorem zt_8_5 : zt 8 5 = 13 := rfl
theorem zo_8_5 : zo 8 5 = True := eq_true (by unfold zo; decide)
theorem zt_8_8 : zt 8 8 = 16 := rfl
theorem zo_8_8 : zo 8 8 = True := eq_true (by unfold zo; decide)
theorem zt_8_28 : zt 8 28 = 36 := rfl
theorem zo_8_28 : zo 8 28 = True := eq_true (by unfold zo; decide)
theorem zt_9_6 : zt 9 6 = 15 := rfl
theorem zo_9_6 : zo 9 6 = True := eq_true (by unfold zo; decide)
theorem zt_9_15 : zt 9 15 = 24 := rfl
theorem zo_9_15 : zo 9 15 = True := eq_true (by unfold zo; decide)
theorem zt_9_32 : zt 9 32 = 41 := rfl
theorem zo_9_32 : zo 9 32 = True := eq_true (by unfold zo; decide)
theorem zt_9_35 : zt 9 35 = 44 := rfl
theorem zo_9_35 : zo 9 35 = True := eq_true (by unfold zo; decide)
theorem zt_9_54 : zt 9 54 = 63 := rfl
theorem zo_9_54 : zo 9 54 = True := eq_true (by unfold zo; decide)
theorem zt_9_115 : zt 9 115 = 124 := rfl
theorem zo_9_115 : zo 9 115 = True := eq_true (by unfold zo; decide)
theorem zt_9_127 : zt 9 127 = 136 := rfl
theorem zo_9_127 : zo 9 127 = True := eq_true (by unfold zo; decide)
theorem zt_9_138 : zt 9 138 = 147 := rfl
theorem zo_9_138 : zo 9 138 = True := eq_true (by unfold zo; decide)
theorem zt_9_191 : zt 9 191 = 200 := rfl
theorem zo_9_191 : zo 9 191 = True := eq_true (by unfold zo; decide)
theorem zt_10_7 : zt 10 7 = 17 := rfl
theorem zo_10_7 : zo 10 7 = True := eq_true (by unfold zo; decide)
theorem zt_10_11 : zt 10 11 = 21 := rfl
theorem zo_10_11 : zo 10 11 = True := eq_true (by unfold zo; decide)
theorem zt_10_14 : zt 10 14 = 24 := rfl
theorem zo_10_14 : zo 10 14 = True := eq_true (by unfold zo; decide)
theorem zt_10_22 : zt 10 22 = 32 := rfl
theorem zo_10_22 : zo 10 22 = True := eq_true (by unfold zo; decide)
theorem zt_11_4 : zt 11 4 = 15 := rfl
theorem zo_11_4 : zo 11 4 = True := eq_true (by unfold zo; decide)
theorem zt_11_6 : zt 11 6 = 17 := rfl
theorem zo_11_6 : zo 11 6 = True := eq_true (by unfold zo; decide)
theorem zt_11_10 : zt 11 10 = 21 := rfl
theorem zo_11_10 : zo 11 10 = True := eq_true (by unfold zo; decide)
theorem zt_12_10 : zt 12 10 = 22 := rfl
theorem zo_12_10 : zo 12 10 = True := eq_true (by unfold zo; decide)
theorem zt_12_25 : zt 12 25 = 37 := rfl
theorem zo_12_25 : zo 12 25 = True := eq_true (by unfold zo; decide)
theorem zt_12_32 : zt 12 32 = 44 := rfl
theorem zo_12_32 : zo 12 32 = True := eq_true (by unfold zo; decide)
theorem zt_12_43 : zt 12 43 = 55 := rfl
theorem zo_12_43 : zo 12 43 = True := eq_true (by unfold zo; decide)
theorem zt_12_52 : zt 12 52 = 64 := rfl
theorem zo_12_52 : zo 12 52 = True := eq_true (by unfold zo; decide)
theorem zt_12_60 : zt 12 60 = 72 := rfl
theorem zo_12_60 : zo 12 60 = True := eq_true (by unfold zo; decide)
theorem zt_12_68 : zt 12 68 = 80 := rfl
theorem zo_12_68 : zo 12 68 = True := eq_true (by unfold zo; decide)
theorem zt_12_76 : zt 12 76 = 88 := rfl
theorem zo_12_76 : zo 12 76 = True := eq_true (by unfold zo; decide)
theorem zt_13_6 : zt 13 6 = 19 := rfl
theorem zo_13_6 : zo 13 6 = True := eq_true (by unfold zo; decide)
theorem zt_13_14 : zt 13 14 = 27 := rfl
theorem zo_13_14 : zo 13 14 = True := eq_true (by unfold zo; decide)
theorem zt_13_19 : zt 13 19 = 32 := rfl
theorem zo_13_19 : zo 13 19 = True := eq_true (by unfold zo; decide)
theorem zt_14_4 : zt 14 4 = 18 := rfl
theorem zo_14_4 : zo 14 4 = True := eq_true (by unfold zo; decide)
theorem zt_14_5 : zt 14 5 = 19 := rfl
theorem zo_14_5 : zo 14 5 = True := eq_true (by unfold zo; decide)
theorem zt_14_6 : zt 14 6 = 20 := rfl
theorem zo_14_6 : zo 14 6 = True := eq_true (by unfold zo; decide)
theorem zt_14_7 : zt 14 7 = 21 := rfl
theorem zo_14_7 : zo 14 7 = True := eq_true (by unfold zo; decide)
theorem zt_14_16 : zt 14 16 = 30 := rfl
theorem zo_14_16 : zo 14 16 = True := eq_true (by unfold zo; decide)
theorem zt_15_5 : zt 15 5 = 20 := rfl
theorem zo_15_5 : zo 15 5 = True := eq_true (by unfold zo; decide)
theorem zt_15_13 : zt 15 13 = 28 := rfl
theorem zo_15_13 : zo 15 13 = True := eq_true (by unfold zo; decide)
theorem zt_16_5 : zt 16 5 = 21 := rfl
theorem zo_16_5 : zo 16 5 = True := eq_true (by unfold zo; decide)
theorem zt_16_6 : zt 16 6 = 22 := rfl
theorem zo_16_6 : zo 16 6 = True := eq_true (by unfold zo; decide)
theorem zt_16_7 : zt 16 7 = 23 := rfl
theorem zo_16_7 : zo 16 7 = True := eq_true (by unfold zo; decide)
theorem zt_16_11 : zt 16 11 = 27 := rfl
theorem zo_16_11 : zo 16 11 = True := eq_true (by unfold zo; decide)
theorem zt_17_5 : zt 17 5 = 22 := rfl
theorem zo_17_5 : zo 17 5 = True := eq_true (by unfold zo; decide)
theorem zt_17_11 : zt 17 11 = 28 := rfl
theorem zo_17_11 : zo 17 11 = True := eq_true (by unfold zo; decide)
theorem zt_17_28 : zt 17 28 = 45 := rfl
theorem zo_17_28 : zo 17 28 = True := eq_true (by unfold zo; decide)
theorem zt_18_4 : zt 18 4 = 22 := rfl
theorem zo_18_4 : zo 18 4 = True := eq_true (by unfold zo; decide)
theorem zt_18_5 : zt 18 5 = 23 := rfl
theorem zo_18_5 : zo 18 5 = True := eq_true (by unfold zo; decide)
theorem zt_18_11 : zt 18 11 = 29 := rfl
theorem zo_18_11 : zo 18 11 = True := eq_true (by unfold zo; decide)
theorem zt_18_31 : zt 18 31 = 49 := rfl
theorem zo_18_31 : zo 18 31 = True := eq_true (by unfold zo; decide)
theorem zt_18_34 : zt 18 34 = 52 := rfl
theorem zo_18_34 : zo 18 34 = True := eq_true (by unfold zo; decide)
theorem zt_18_46 : zt 18 46 = 64 := rfl
theorem zo_18_46 : zo 18 46 = True := eq_true (by unfold zo; decide)
theorem zt_18_76 : zt 18 76 = 94 := rfl
theorem zo_18_76 : zo 18 76 = True := eq_true (by unfold zo; decide)
theorem zt_18_99 : zt 18 99 = 117 := rfl
theorem zo_18_99 : zo 18 99 = True := eq_true (by unfold zo; decide)
theorem zt_18_143 : zt 18 143 = 161 := rfl
theorem zo_18_143 : zo 18 143 = True := eq_true (by unfold zo; decide)
theorem zt_19_5 : zt 19 5 = 24 := rfl
theorem zo_19_5 : zo 19 5 = True := eq_true (by unfold zo; decide)
theorem zt_19_6 : zt 19 6 = 25 := rfl
theorem zo_19_6 : zo 19 6 = True := eq_true (by unfold zo; decide)
theorem zt_19_17 : zt 19 17 = 36 := rfl
theorem zo_19_17 : zo 19 17 = True := eq_true (by unfold zo; decide)
theorem zt_20_4 : zt 20 4 = 24 := rfl
theorem zo_20_4 : zo 20 4 = True := eq_true (by unfold zo; decide)
theorem zt_20_16 : zt 20 16 = 36 := rfl
theorem zo_20_16 : zo 20 16 = True := eq_true (by unfold zo; decide)
theorem zt_21_6 : zt 21 6 = 27 := rfl
theorem zo_21_6 : zo 21 6 = True := eq_true (by unfold zo; decide)
theorem zt_21_7 : zt 21 7 = 28 := rfl
theorem zo_21_7 : zo 21 7 = True := eq_true (by unfold zo; decide)
theorem zt_21_14 : zt 21 14 = 35 := rfl
theorem zo_21_14 : zo 21 14 = True := eq_true (by unfold zo; decide)
theorem zt_21_16 : zt 21 16 = 37 := rfl
theorem zo_21_16 : zo 21 16 = True := eq_true (by unfold zo; decide)
theorem zt_21_20 : zt 21 20 = 41 := rfl
theorem zo_21_20 : zo 21 20 = True := eq_true (by unfold zo; decide)
theorem zt_22_6 : zt 22 6 = 28 := rfl
theorem zo_22_6 : zo 22 6 = True := eq_true (by unfold zo; decide)
theorem zt_22_7 : zt 22 7 = 29 := rfl
theorem zo_22_7 : zo 22 7 = True := eq_true (by unfold zo; decide)
theorem zt_23_18 : zt 23 18 = 41 := rfl
theorem zo_23_18 : zo 23 18 = True := eq_true (by unfold zo; decide)
theorem zt_23_19 : zt 23 19 = 42 := rfl
theorem zo_23_19 : zo 23 19 = True := eq_true (by unfold zo; decide)
theorem zt_23_34 : zt 23 34 = 57 := rfl
theorem zo_23_34 : zo 23 34 = True := eq_true (by unfold zo; decide)
theorem zt_24_5 : zt 24 5 = 29 := rfl
theorem zo_24_5 : zo 24 5 = True := eq_true (by unfold zo; decide)
theorem zt_24_8 : zt 24 8 = 32 := rfl
theorem zo_24_8 : zo 24 8 = True := eq_true (by unfold zo; decide)
theorem zt_24_11 : zt 24 11 = 35 := rfl
theorem zo_24_11 : zo 24 11 = True := eq_true (by unfold zo; decide)
theorem zt_24_557 : zt 24 557 = 581 := rfl
theorem zo_24_557 : zo 24 557 = True := eq_true (by unfold zo; decide)
theorem zt_25_m23 : zt 25 (-23) = 2 := rfl
theorem zo_25_m23 : zo 25 (-23) = True := eq_true (by unfold zo; decide)
theorem zt_25_4 : zt 25 4 = 29 := rfl
theorem zo_25_4 : zo 25 4 = True := eq_true (by unfold zo; decide)
theorem zt_25_6 : zt 25 6 = 31 := rfl
theorem zo_25_6 : zo 25 6 = True := eq_true (by unfold zo; decide)
theorem zt_25_7 : zt 25 7 = 32 := rfl
theorem zo_25_7 : zo 25 7 = True := eq_true (by unfold zo; decide)
theorem zt_26_6 : zt 26 6 = 32 := rfl
theorem zo_26_6 : zo 26 6 = True := eq_true (by unfold zo; decide)
theorem zt_26_15 : zt 26 15 = 41 := rfl
theorem zo_26_15 : zo 26 15 = True := eq_true (by unfold zo; decide)
theorem zt_26_18 : zt 26 18 = 44 := rfl
theorem zo_26_18 : zo 26 18 = True := eq_true (by unfold zo; decide)
theorem zt_27_16 : zt 27 16 = 43 := rfl
theorem zo_27_16 : zo 27 16 = True := eq_true (by unfold zo; decide)
theorem zt_27_17 : zt 27 17 = 44 := rfl
theorem zo_27_17 : zo 27 17 = True := eq_true (by unfold zo; decide)
theorem zt_27_33 : zt 27 33 = 60 := rfl
theorem zo_27_33 : zo 27 33 = True := eq_true (by unfold zo; decide)
theorem zt_27_97 : zt 27 97 = 124 := rfl
theorem zo_27_97 : zo 27 97 = True := eq_true (by unfold zo; decide)
theorem zt_27_114 : zt 27 114 = 141 := rfl
theorem zo_27_114 : zo 27 114 = True := eq_true (by unfold zo; decide)
theorem zt_27_172 : zt 27 172 = 199 := rfl
theorem zo_27_172 : zo 27 172 = True := eq_true (by unfold zo; decide)
theorem zt_27_175 : zt 27 175 = 202 := rfl
theorem zo_27_175 : zo 27 175 = True := eq_true (by unfold zo; decide)
theorem zt_27_178 : zt 27 178 = 205 := rfl
theorem zo_27_178 : zo 27 178 = True := eq_true (by unfold zo; decide)
theorem zt_28_6 : zt 28 6 = 34 := rfl
theorem zo_28_6 : zo 28 6 = True := eq_true (by unfold zo; decide)
theorem zt_28_8 : zt 28 8 = 36 := rfl
theorem zo_28_8 : zo 28 8 = True := eq_true (by unfold zo; decide)
theorem zt_29_4 : zt 29 4 = 33 := rfl
theorem zo_29_4 : zo 29 4 = True := eq_true (by unfold zo; decide)
theorem zt_29_7 : zt 29 7 = 36 := rfl
theorem zo_29_7 : zo 29 7 = True := eq_true (by unfold zo; decide)
theorem zt_29_13 : zt 29 13 = 42 := rfl
theorem zo_29_13 : zo 29 13 = True := eq_true (by unfold zo; decide)
theorem zt_30_12 : zt 30 12 = 42 := rfl
theorem zo_30_12 : zo 30 12 = True := eq_true (by unfold zo; decide)
theorem zt_31_6 : zt 31 6 = 37 := rfl
theorem zo_31_6 : zo 31 6 = True := eq_true (by unfold zo; decide)
theorem zt_32_27 : zt 32 27 = 59 := rfl
theorem zo_32_27 : zo 32 27 = True := eq_true (by unfold zo; decide)
theorem zt_32_46 : zt 32 46 = 78 := rfl
theorem zo_32_46 : zo 32 46 = True := eq_true (by unfold zo; decide)
theorem zt_33_4 : zt 33 4 = 37 := rfl
theorem zo_33_4 : zo 33 4 = True := eq_true (by unfold zo; decide)
theorem zt_33_6 : zt 33 6 = 39 := rfl
theorem zo_33_6 : zo 33 6 = True := eq_true (by unfold zo; decide)
theorem zt_33_10 : zt 33 10 = 43 := rfl
theorem zo_33_10 : zo 33 10 = True := eq_true (by unfold zo; decide)
theorem zt_33_16 : zt 33 16 = 49 := rfl
theorem zo_33_16 : zo 33 16 = True := eq_true (by unfold zo; decide)
theorem zt_33_59 : zt 33 59 = 92 := rfl
theorem zo_33_59 : zo 33 59 = True := eq_true (by unfold zo; decide)
theorem zt_33_60 : zt 33 60 = 93 := rfl
theorem zo_33_60 : zo 33 60 = True := eq_true (by unfold zo; decide)
theorem zt_33_92 : zt 33 92 = 125 := rfl
theorem zo_33_92 : zo 33 92 = True := eq_true (by unfold zo; decide)
theorem zt_33_135 : zt 33 135 = 168 := rfl
theorem zo_33_135 : zo 33 135 = True := eq_true (by unfold zo; decide)
theorem zt_33_242 : zt 33 242 = 275 := rfl
theorem zo_33_242 : zo 33 242 = True := eq_true (by unfold zo; decide)
theorem zt_33_265 : zt 33 265 = 298 := rfl
theorem zo_33_265 : zo 33 265 = True := eq_true (by unfold zo; decide)
theorem zt_33_298 : zt 33 298 = 331 := rfl
theorem zo_33_298 : zo 33 298 = True := eq_true (by unfold zo; decide)
theorem zt_33_347 : zt 33 347 = 380 := rfl
theorem zo_33_347 : zo 33 347 = True := eq_true (by unfold zo; decide)
theorem zt_33_370 : zt 33 370 = 403 := rfl
theorem zo_33_370 : zo 33 370 = True := eq_true (by unfold zo; decide)
theorem zt_33_423 : zt 33 423 = 456 := rfl
theorem zo_33_423 : zo 33 423 = True := eq_true (by unfold zo; decide)
theorem zt_33_456 : zt 33 456 = 489 := rfl
theorem zo_33_456 : zo 33 456 = True := eq_true (by unfold zo; decide)
theorem zt_33_519 : zt 33 519 = 552 := rfl
theorem zo_33_519 : zo 33 519 = True := eq_true (by unfold zo; decide)
theorem zt_33_542 : zt 33 542 = 575 := rfl
theorem zo_33_542 : zo 33 542 = True := eq_true (by unfold zo; decide)
theorem zt_34_7 : zt 34 7 = 41 := rfl
theorem zo_34_7 : zo 34 7 = True := eq_true (by unfold zo; decide)
theorem zt_34_23 : zt 34 23 = 57 := rfl
theorem zo_34_23 : zo 34 23 = True := eq_true (by unfold zo; decide)
theorem zt_35_8 : zt 35 8 = 43 := rfl
theorem zo_35_8 : zo 35 8 = True := eq_true (by unfold zo; decide)
theorem zt_36_7 : zt 36 7 = 43 := rfl
theorem zo_36_7 : zo 36 7 = True := eq_true (by unfold zo; decide)
theorem zt_36_139 : zt 36 139 = 175 := rfl
theorem zo_36_139 : zo 36 139 = True := eq_true (by unfold zo; decide)
theorem zt_37_14 : zt 37 14 = 51 := rfl
theorem zo_37_14 : zo 37 14 = True := eq_true (by unfold zo; decide)
theorem zt_38_4 : zt 38 4 = 42 := rfl
theorem zo_38_4 : zo 38 4 = True := eq_true (by unfold zo; decide)
theorem zt_38_5 : zt 38 5 = 43 := rfl
theorem zo_38_5 : zo 38 5 = True := eq_true (by unfold zo; decide)
theorem zt_38_6 : zt 38 6 = 44 := rfl
theorem zo_38_6 : zo 38 6 = True := eq_true (by unfold zo; decide)
theorem zt_38_8 : zt 38 8 = 46 := rfl
theorem zo_38_8 : zo 38 8 = True := eq_true (by unfold zo; decide)
theorem zt_38_13 : zt 38 13 = 51 := rfl
theorem zo_38_13 : zo 38 13 = True := eq_true (by unfold zo; decide)
theorem zt_38_26 : zt 38 26 = 64 := rfl
theorem zo_38_26 : zo 38 26 = True := eq_true (by unfold zo; decide)
theorem zt_39_m12 : zt 39 (-12) = 27 := rfl
theorem zo_39_m12 : zo 39 (-12) = True := eq_true (by unfold zo; decide)
theorem zt_39_5 : zt 39 5 = 44 := rfl
theorem zo_39_5 : zo 39 5 = True := eq_true (by unfold zo; decide)
theorem zt_39_6 : zt 39 6 = 45 := rfl
theorem zo_39_6 : zo 39 6 = True := eq_true (by unfold zo; decide)
theorem zt_39_12 : zt 39 12 = 51 := rfl
theorem zo_39_12 : zo 39 12 = True := eq_true (by unfold zo; decide)
theorem zt_39_14 : zt 39 14 = 53 := rfl
theorem zo_39_14 : zo 39 14 = True := eq_true (by unfold zo; decide)
theorem zt_39_23 : zt 39 23 = 62 := rfl
theorem zo_39_23 : zo 39 23 = True := eq_true (by unfold zo; decide)
theorem zt_39_34 : zt 39 34 = 73 := rfl
theorem zo_39_34 : zo 39 34 = True := eq_true (by unfold zo; decide)
theorem zt_40_4 : zt 40 4 = 44 := rfl
theorem zo_40_4 : zo 40 4 = True := eq_true (by unfold zo; decide)
theorem zt_40_5 : zt 40 5 = 45 := rfl
theorem zo_40_5 : zo 40 5 = True := eq_true (by unfold zo; decide)
theorem zt_41_7 : zt 41 7 = 48 := rfl
theorem zo_41_7 : zo 41 7 = True := eq_true (by unfold zo; decide)
theorem zt_41_28 : zt 41 28 = 69 := rfl
theorem zo_41_28 : zo 41 28 = True := eq_true (by unfold zo; decide)
theorem zt_42_8 : zt 42 8 = 50 := rfl
theorem zo_42_8 : zo 42 8 = True := eq_true (by unfold zo; decide)
theorem zt_42_12 : zt 42 12 = 54 := rfl
theorem zo_42_12 : zo 42 12 = True := eq_true (by unfold zo; decide)
theorem zt_43_7 : zt 43 7 = 50 := rfl
theorem zo_43_7 : zo 43 7 = True := eq_true (by unfold zo; decide)
theorem zt_43_8 : zt 43 8 = 51 := rfl
theorem zo_43_8 : zo 43 8 = True := eq_true (by unfold zo; decide)
theorem zt_44_12 : zt 44 12 = 56 := rfl
theorem zo_44_12 : zo 44 12 = True := eq_true (by unfold zo; decide)
theorem zt_45_4 : zt 45 4 = 49 := rfl
theorem zo_45_4 : zo 45 4 = True := eq_true (by unfold zo; decide)
theorem zt_45_33 : zt 45 33 = 78 := rfl
theorem zo_45_33 : zo 45 33 = True := eq_true (by unfold zo; decide)
theorem zt_46_4 : zt 46 4 = 50 := rfl
theorem zo_46_4 : zo 46 4 = True := eq_true (by unfold zo; decide)
theorem zt_46_11 : zt 46 11 = 57 := rfl
theorem zo_46_11 : zo 46 11 = True := eq_true (by unfold zo; decide)
theorem zt_46_13 : zt 46 13 = 59 := rfl
theorem zo_46_13 : zo 46 13 = True := eq_true (by unfold zo; decide)
theorem zt_46_23 : zt 46 23 = 69 := rfl
theorem zo_46_23 : zo 46 23 = True := eq_true (by unfold zo; decide)
theorem zt_47_4 : zt 47 4 = 51 := rfl
theorem zo_47_4 : zo 47 4 = True := eq_true (by unfold zo; decide)
theorem zt_47_8 : zt 47 8 = 55 := rfl
theorem zo_47_8 : zo 47 8 = True := eq_true (by unfold zo; decide)
theorem zt_47_11 : zt 47 11 = 58 := rfl
theorem zo_47_11 : zo 47 11 = True := eq_true (by unfold zo; decide)
theorem zt_47_23 : zt 47 23 = 70 := rfl
theorem zo_47_23 : zo 47 23 = True := eq_true (by unfold zo; decide)
theorem zt_48_7 : zt 48 7 = 55 := rfl
theorem zo_48_7 : zo 48 7 = True := eq_true (by unfold zo; decide)
theorem zt_48_8 : zt 48 8 = 56 := rfl
theorem zo_48_8 : zo 48 8 = True := eq_true (by unfold zo; decide)
theorem zt_48_154 : zt 48 154 = 202 := rfl
theorem zo_48_154 : zo 48 154 = True := eq_true (by unfold zo; decide)
theorem zt_50_7 : zt 50 7 = 57 := rfl
theorem zo_50_7 : zo 50 7 = True := eq_true (by unfold zo; decide)
theorem zt_50_14 : zt 50 14 = 64 := rfl
theorem zo_50_14 : zo 50 14 = True := eq_true (by unfold zo; decide)
theorem zt_51_6 : zt 51 6 = 57 := rfl
theorem zo_51_6 : zo 51 6 = True := eq_true (by unfold zo; decide)
theorem zt_51_7 : zt 51 7 = 58 := rfl
theorem zo_51_7 : zo 51 7 = True := eq_true (by unfold zo; decide)
theorem zt_51_18 : zt 51 18 = 69 := rfl
theorem zo_51_18 : zo 51 18 = True := eq_true (by unfold zo; decide)
theorem zt_51_19 : zt 51 19 = 70 := rfl
theorem zo_51_19 : zo 51 19 = True := eq_true (by unfold zo; decide)
theorem zt_51_21 : zt 51 21 = 72 := rfl
theorem zo_51_21 : zo 51 21 = True := eq_true (by unfold zo; decide)
theorem zt_51_25 : zt 51 25 = 76 := rfl
theorem zo_51_25 : zo 51 25 = True := eq_true (by unfold zo; decide)
theorem zt_52_4 : zt 52 4 = 56 := rfl
theorem zo_52_4 : zo 52 4 = True := eq_true (by unfold zo; decide)
theorem zt_52_6 : zt 52 6 = 58 := rfl
theorem zo_52_6 : zo 52 6 = True := eq_true (by unfold zo; decide)
theorem zt_52_10 : zt 52 10 = 62 := rfl
theorem zo_52_10 : zo 52 10 = True := eq_true (by unfold zo; decide)
theorem zt_52_13 : zt 52 13 = 65 := rfl
theorem zo_52_13 : zo 52 13 = True := eq_true (by unfold zo; decide)
theorem zt_52_35 : zt 52 35 = 87 := rfl
theorem zo_52_35 : zo 52 35 = True := eq_true (by unfold zo; decide)
theorem zt_52_41 : zt 52 41 = 93 := rfl
theorem zo_52_41 : zo 52 41 = True := eq_true (by unfold zo; decide)
theorem zt_52_150 : zt 52 150 = 202 := rfl
theorem zo_52_150 : zo 52 150 = True := eq_true (by unfold zo; decide)
theorem zt_53_9 : zt 53 9 = 62 := rfl
theorem zo_53_9 : zo 53 9 = True := eq_true (by unfold zo; decide)
theorem zt_53_21 : zt 53 21 = 74 := rfl
theorem zo_53_21 : zo 53 21 = True := eq_true (by unfold zo; decide)
theorem zt_54_4 : zt 54 4 = 58 := rfl
theorem zo_54_4 : zo 54 4 = True := eq_true (by unfold zo; decide)
theorem zt_54_19 : zt 54 19 = 73 := rfl
theorem zo_54_19 : zo 54 19 = True := eq_true (by unfold zo; decide)
theorem zt_55_4 : zt 55 4 = 59 := rfl
theorem zo_55_4 : zo 55 4 = True := eq_true (by unfold zo; decide)
theorem zt_55_5 : zt 55 5 = 60 := rfl
theorem zo_55_5 : zo 55 5 = True := eq_true (by unfold zo; decide)
theorem zt_55_6 : zt 55 6 = 61 := rfl
theorem zo_55_6 : zo 55 6 = True := eq_true (by unfold zo; decide)
theorem zt_55_7 : zt 55 7 = 62 := rfl
theorem zo_55_7 : zo 55 7 = True := eq_true (by unfold zo; decide)
theorem zt_56_6 : zt 56 6 = 62 := rfl
theorem zo_56_6 : zo 56 6 = True := eq_true (by unfold zo; decide)
theorem zt_56_22 : zt 56 22 = 78 := rfl
theorem zo_56_22 : zo 56 22 = True := eq_true (by unfold zo; decide)
theorem zt_57_78 : zt 57 78 = 135 := rfl
theorem zo_57_78 : zo 57 78 = True := eq_true (by unfold zo; decide)
theorem zt_59_4 : zt 59 4 = 63 := rfl
theorem zo_59_4 : zo 59 4 = True := eq_true (by unfold zo; decide)
theorem zt_59_7 : zt 59 7 = 66 := rfl
theorem zo_59_7 : zo 59 7 = True := eq_true (by unfold zo; decide)
theorem zt_59_9 : zt 59 9 = 68 := rfl
theorem zo_59_9 : zo 59 9 = True := eq_true (by unfold zo; decide)
theorem zt_59_13 : zt 59 13 = 72 := rfl
theorem zo_59_13 : zo 59 13 = True := eq_true (by unfold zo; decide)
theorem zt_60_6 : zt 60 6 = 66 := rfl
theorem zo_60_6 : zo 60 6 = True := eq_true (by unfold zo; decide)
theorem zt_60_9 : zt 60 9 = 69 := rfl
theorem zo_60_9 : zo 60 9 = True := eq_true (by unfold zo; decide)
theorem zt_60_153 : zt 60 153 = 213 := rfl
theorem zo_60_153 : zo 60 153 = True := eq_true (by unfold zo; decide)
theorem zt_61_6 : zt 61 6 = 67 := rfl
theorem zo_61_6 : zo 61 6 = True := eq_true (by unfold zo; decide)
theorem zt_61_32 : zt 61 32 = 93 := rfl
theorem zo_61_32 : zo 61 32 = True := eq_true (by unfold zo; decide)
theorem zt_62_7 : zt 62 7 = 69 := rfl
theorem zo_62_7 : zo 62 7 = True := eq_true (by unfold zo; decide)
theorem zt_62_8 : zt 62 8 = 70 := rfl
theorem zo_62_8 : zo 62 8 = True := eq_true (by unfold zo; decide)
theorem zt_62_15 : zt 62 15 = 77 := rfl
theorem zo_62_15 : zo 62 15 = True := eq_true (by unfold zo; decide)
theorem zt_63_7 : zt 63 7 = 70 := rfl
theorem zo_63_7 : zo 63 7 = True := eq_true (by unfold zo; decide)
theorem zt_64_5 : zt 64 5 = 69 := rfl
theorem zo_64_5 : zo 64 5 = True := eq_true (by unfold zo; decide)
theorem zt_64_23 : zt 64 23 = 87 := rfl
theorem zo_64_23 : zo 64 23 = True := eq_true (by unfold zo; decide)
theorem zt_65_7 : zt 65 7 = 72 := rfl
theorem zo_65_7 : zo 65 7 = True := eq_true (by unfold zo; decide)
theorem zt_66_4 : zt 66 4 = 70 := rfl
theorem zo_66_4 : zo 66 4 = True := eq_true (by unfold zo; decide)
theorem zt_66_5 : zt 66 5 = 71 := rfl
theorem zo_66_5 : zo 66 5 = True := eq_true (by unfold zo; decide)
theorem zt_66_22 : zt 66 22 = 88 := rfl
theorem zo_66_22 : zo 66 22 = True := eq_true (by unfold zo; decide)
theorem zt_67_5 : zt 67 5 = 72 := rfl
theorem zo_67_5 : zo 67 5 = True := eq_true (by unfold zo; decide)
theorem zt_67_13 : zt 67 13 = 80 := rfl
theorem zo_67_13 : zo 67 13 = True := eq_true (by unfold zo; decide)
theorem zt_69_m62 : zt 69 (-62) = 7 := rfl
theorem zo_69_m62 : zo 69 (-62) = True := eq_true (by unfold zo; decide)
theorem zt_69_4 : zt 69 4 = 73 := rfl
theorem zo_69_4 : zo 69 4 = True := eq_true (by unfold zo; decide)
theorem zt_69_6 : zt 69 6 = 75 := rfl
theorem zo_69_6 : zo 69 6 = True := eq_true (by unfold zo; decide)
theorem zt_69_15 : zt 69 15 = 84 := rfl
theorem zo_69_15 : zo 69 15 = True := eq_true (by unfold zo; decide)
theorem zt_69_24 : zt 69 24 = 93 := rfl
theorem zo_69_24 : zo 69 24 = True := eq_true (by unfold zo; decide)
theorem zt_69_66 : zt 69 66 = 135 := rfl
theorem zo_69_66 : zo 69 66 = True := eq_true (by unfold zo; decide)
theorem zt_70_m40 : zt 70 (-40) = 30 := rfl
theorem zo_70_m40 : zo 70 (-40) = True := eq_true (by unfold zo; decide)
theorem zt_70_7 : zt 70 7 = 77 := rfl
theorem zo_70_7 : zo 70 7 = True := eq_true (by unfold zo; decide)
theorem zt_72_20 : zt 72 20 = 92 := rfl
theorem zo_72_20 : zo 72 20 = True := eq_true (by unfold zo; decide)
theorem zt_72_21 : zt 72 21 = 93 := rfl
theorem zo_72_21 : zo 72 21 = True := eq_true (by unfold zo; decide)
theorem zt_73_m26 : zt 73 (-26) = 47 := rfl
theorem zo_73_m26 : zo 73 (-26) = True := eq_true (by unfold zo; decide)
theorem zt_73_6 : zt 73 6 = 79 := rfl
theorem zo_73_6 : zo 73 6 = True := eq_true (by unfold zo; decide)
theorem zt_74_4 : zt 74 4 = 78 := rfl
theorem zo_74_4 : zo 74 4 = True := eq_true (by unfold zo; decide)
theorem zt_74_23 : zt 74 23 = 97 := rfl
theorem zo_74_23 : zo 74 23 = True := eq_true (by unfold zo; decide)
theorem zt_74_30 : zt 74 30 = 104 := rfl
theorem zo_74_30 : zo 74 30 = True := eq_true (by unfold zo; decide)
theorem zt_75_m22 : zt 75 (-22) = 53 := rfl
theorem zo_75_m22 : zo 75 (-22) = True := eq_true (by unfold zo; decide)
theorem zt_77_m71 : zt 77 (-71) = 6 := rfl
theorem zo_77_m71 : zo 77 (-71) = True := eq_true (by unfold zo; decide)
theorem zt_77_7 : zt 77 7 = 84 := rfl
theorem zo_77_7 : zo 77 7 = True := eq_true (by unfold zo; decide)
theorem zt_77_8 : zt 77 8 = 85 := rfl
theorem zo_77_8 : zo 77 8 = True := eq_true (by unfold zo; decide)
theorem zt_77_15 : zt 77 15 = 92 := rfl
theorem zo_77_15 : zo 77 15 = True := eq_true (by unfold zo; decide)
theorem zt_78_6 : zt 78 6 = 84 := rfl
theorem zo_78_6 : zo 78 6 = True := eq_true (by unfold zo; decide)
theorem zt_78_9 : zt 78 9 = 87 := rfl
theorem zo_78_9 : zo 78 9 = True := eq_true (by unfold zo; decide)
theorem zt_79_9 : zt 79 9 = 88 := rfl
theorem zo_79_9 : zo 79 9 = True := eq_true (by unfold zo; decide)
theorem zt_79_43 : zt 79 43 = 122 := rfl
theorem zo_79_43 : zo 79 43 = True := eq_true (by unfold zo; decide)
theorem zt_81_6 : zt 81 6 = 87 := rfl
theorem zo_81_6 : zo 81 6 = True := eq_true (by unfold zo; decide)
theorem zt_82_5 : zt 82 5 = 87 := rfl
theorem zo_82_5 : zo 82 5 = True := eq_true (by unfold zo; decide)
theorem zt_84_7 : zt 84 7 = 91 := rfl
theorem zo_84_7 : zo 84 7 = True := eq_true (by unfold zo; decide)
theorem zt_85_7 : zt 85 7 = 92 := rfl
theorem zo_85_7 : zo 85 7 = True := eq_true (by unfold zo; decide)
theorem zt_85_8 : zt 85 8 = 93 := rfl
theorem zo_85_8 : zo 85 8 = True := eq_true (by unfold zo; decide)
theorem zt_85_12 : zt 85 12 = 97 := rfl
theorem zo_85_12 : zo 85 12 = True := eq_true (by unfold zo; decide)
theorem zt_85_14 : zt 85 14 = 99 := rfl
theorem zo_85_14 : zo 85 14 = True := eq_true (by unfold zo; decide)
theorem zt_86_6 : zt 86 6 = 92 := rfl
theorem zo_86_6 : zo 86 6 = True := eq_true (by unfold zo; decide)
theorem zt_87_45 : zt 87 45 = 132 := rfl
theorem zo_87_45 : zo 87 45 = True := eq_true (by unfold zo; decide)
theorem zt_88_4 : zt 88 4 = 92 := rfl
theorem zo_88_4 : zo 88 4 = True := eq_true (by unfold zo; decide)
theorem zt_88_8 : zt 88 8 = 96 := rfl
theorem zo_88_8 : zo 88 8 = True := eq_true (by unfold zo; decide)
theorem zt_89_4 : zt 89 4 = 93 := rfl
theorem zo_89_4 : zo 89 4 = True := eq_true (by unfold zo; decide)
theorem zt_90_m63 : zt 90 (-63) = 27 := rfl
theorem zo_90_m63 : zo 90 (-63) = True := eq_true (by unfold zo; decide)
theorem zt_90_6 : zt 90 6 = 96 := rfl
theorem zo_90_6 : zo 90 6 = True := eq_true (by unfold zo; decide)
theorem zt_92_7 : zt 92 7 = 99 := rfl
theorem zo_92_7 : zo 92 7 = True := eq_true (by unfold zo; decide)
theorem zt_92_12 : zt 92 12 = 104 := rfl
theorem zo_92_12 : zo 92 12 = True := eq_true (by unfold zo; decide)
theorem zt_93_6 : zt 93 6 = 99 := rfl
theorem zo_93_6 : zo 93 6 = True := eq_true (by unfold zo; decide)
theorem zt_93_19 : zt 93 19 = 112 := rfl
theorem zo_93_19 : zo 93 19 = True := eq_true (by unfold zo; decide)
theorem zt_93_42 : zt 93 42 = 135 := rfl
theorem zo_93_42 : zo 93 42 = True := eq_true (by unfold zo; decide)
theorem zt_94_6 : zt 94 6 = 100 := rfl
theorem zo_94_6 : zo 94 6 = True := eq_true (by unfold zo; decide)
theorem zt_96_4 : zt 96 4 = 100 := rfl
theorem zo_96_4 : zo 96 4 = True := eq_true (by unfold zo; decide)
theorem zt_96_7 : zt 96 7 = 103 := rfl
theorem zo_96_7 : zo 96 7 = True := eq_true (by unfold zo; decide)
theorem zt_96_9 : zt 96 9 = 105 := rfl
theorem zo_96_9 : zo 96 9 = True := eq_true (by unfold zo; decide)
theorem zt_98_17 : zt 98 17 = 115 := rfl
theorem zo_98_17 : zo 98 17 = True := eq_true (by unfold zo; decide)
theorem zt_98_23 : zt 98 23 = 121 := rfl
theorem zo_98_23 : zo 98 23 = True := eq_true (by unfold zo; decide)
theorem zt_100_4 : zt 100 4 = 104 := rfl
theorem zo_100_4 : zo 100 4 = True := eq_true (by unfold zo; decide)
theorem zt_101_6 : zt 101 6 = 107 := rfl
theorem zo_101_6 : zo 101 6 = True := eq_true (by unfold zo; decide)
theorem zt_102_7 : zt 102 7 = 109 := rfl
theorem zo_102_7 : zo 102 7 = True := eq_true (by unfold zo; decide)
theorem zt_103_18 : zt 103 18 = 121 := rfl
theorem zo_103_18 : zo 103 18 = True := eq_true (by unfold zo; decide)
theorem zt_105_23 : zt 105 23 = 128 := rfl
theorem zo_105_23 : zo 105 23 = True := eq_true (by unfold zo; decide)
theorem zt_106_4 : zt 106 4 = 110 := rfl
theorem zo_106_4 : zo 106 4 = True := eq_true (by unfold zo; decide)
theorem zt_108_7 : zt 108 7 = 115 := rfl
theorem zo_108_7 : zo 108 7 = True := eq_true (by unfold zo; decide)
theorem zt_108_12 : zt 108 12 = 120 := rfl
theorem zo_108_12 : zo 108 12 = True := eq_true (by unfold zo; decide)
theorem zt_108_27 : zt 108 27 = 135 := rfl
theorem zo_108_27 : zo 108 27 = True := eq_true (by unfold zo; decide)
theorem zt_109_104 : zt 109 104 = 213 := rfl
theorem zo_109_104 : zo 109 104 = True := eq_true (by unfold zo; decide)
theorem zt_112_4 : zt 112 4 = 116 := rfl
theorem zo_112_4 : zo 112 4 = True := eq_true (by unfold zo; decide)
theorem zt_113_8 : zt 113 8 = 121 := rfl
theorem zo_113_8 : zo 113 8 = True := eq_true (by unfold zo; decide)
theorem zt_113_15 : zt 113 15 = 128 := rfl
theorem zo_113_15 : zo 113 15 = True := eq_true (by unfold zo; decide)
theorem zt_114_7 : zt 114 7 = 121 := rfl
theorem zo_114_7 : zo 114 7 = True := eq_true (by unfold zo; decide)
theorem zt_118_5 : zt 118 5 = 123 := rfl
theorem zo_118_5 : zo 118 5 = True := eq_true (by unfold zo; decide)
theorem zt_118_6 : zt 118 6 = 124 := rfl
theorem zo_118_6 : zo 118 6 = True := eq_true (by unfold zo; decide)
theorem zt_119_50 : zt 119 50 = 169 := rfl
theorem zo_119_50 : zo 119 50 = True := eq_true (by unfold zo; decide)
theorem zt_120_15 : zt 120 15 = 135 := rfl
theorem zo_120_15 : zo 120 15 = True := eq_true (by unfold zo; decide)
theorem zt_120_39 : zt 120 39 = 159 := rfl
theorem zo_120_39 : zo 120 39 = True := eq_true (by unfold zo; decide)
theorem zt_120_455 : zt 120 455 = 575 := rfl
theorem zo_120_455 : zo 120 455 = True := eq_true (by unfold zo; decide)
theorem zt_121_7 : zt 121 7 = 128 := rfl
theorem zo_121_7 : zo 121 7 = True := eq_true (by unfold zo; decide)
theorem zt_121_92 : zt 121 92 = 213 := rfl
theorem zo_121_92 : zo 121 92 = True := eq_true (by unfold zo; decide)
theorem zt_125_4 : zt 125 4 = 129 := rfl
theorem zo_125_4 : zo 125 4 = True := eq_true (by unfold zo; decide)
theorem zt_127_6 : zt 127 6 = 133 := rfl
theorem zo_127_6 : zo 127 6 = True := eq_true (by unfold zo; decide)
theorem zt_127_32 : zt 127 32 = 159 := rfl
theorem zo_127_32 : zo 127 32 = True := eq_true (by unfold zo; decide)
theorem zt_129_19 : zt 129 19 = 148 := rfl
theorem zo_129_19 : zo 129 19 = True := eq_true (by unfold zo; decide)
theorem zt_131_7 : zt 131 7 = 138 := rfl
theorem zo_131_7 : zo 131 7 = True := eq_true (by unfold zo; decide)
theorem zt_132_6 : zt 132 6 = 138 := rfl
theorem zo_132_6 : zo 132 6 = True := eq_true (by unfold zo; decide)
theorem zt_133_80 : zt 133 80 = 213 := rfl
theorem zo_133_80 : zo 133 80 = True := eq_true (by unfold zo; decide)
theorem zt_135_5 : zt 135 5 = 140 := rfl
theorem zo_135_5 : zo 135 5 = True := eq_true (by unfold zo; decide)
theorem zt_135_7 : zt 135 7 = 142 := rfl
theorem zo_135_7 : zo 135 7 = True := eq_true (by unfold zo; decide)
theorem zt_139_4 : zt 139 4 = 143 := rfl
theorem zo_139_4 : zo 139 4 = True := eq_true (by unfold zo; decide)
theorem zt_139_20 : zt 139 20 = 159 := rfl
theorem zo_139_20 : zo 139 20 = True := eq_true (by unfold zo; decide)
theorem zt_142_6 : zt 142 6 = 148 := rfl
theorem zo_142_6 : zo 142 6 = True := eq_true (by unfold zo; decide)
theorem zt_144_7 : zt 144 7 = 151 := rfl
theorem zo_144_7 : zo 144 7 = True := eq_true (by unfold zo; decide)
theorem zt_144_69 : zt 144 69 = 213 := rfl
theorem zo_144_69 : zo 144 69 = True := eq_true (by unfold zo; decide)
theorem zt_148_5 : zt 148 5 = 153 := rfl
theorem zo_148_5 : zo 148 5 = True := eq_true (by unfold zo; decide)
theorem zt_149_30 : zt 149 30 = 179 := rfl
theorem zo_149_30 : zo 149 30 = True := eq_true (by unfold zo; decide)
theorem zt_152_7 : zt 152 7 = 159 := rfl
theorem zo_152_7 : zo 152 7 = True := eq_true (by unfold zo; decide)
theorem zt_156_4 : zt 156 4 = 160 := rfl
theorem zo_156_4 : zo 156 4 = True := eq_true (by unfold zo; decide)
theorem zt_159_24 : zt 159 24 = 183 := rfl
theorem zo_159_24 : zo 159 24 = True := eq_true (by unfold zo; decide)
theorem zt_163_412 : zt 163 412 = 575 := rfl
theorem zo_163_412 : zo 163 412 = True := eq_true (by unfold zo; decide)
theorem zt_164_7 : zt 164 7 = 171 := rfl
theorem zo_164_7 : zo 164 7 = True := eq_true (by unfold zo; decide)
theorem zt_165_6 : zt 165 6 = 171 := rfl
theorem zo_165_6 : zo 165 6 = True := eq_true (by unfold zo; decide)
theorem zt_168_4 : zt 168 4 = 172 := rfl
theorem zo_168_4 : zo 168 4 = True := eq_true (by unfold zo; decide)
theorem zt_172_m143 : zt 172 (-143) = 29 := rfl
theorem zo_172_m143 : zo 172 (-143) = True := eq_true (by unfold zo; decide)
theorem zt_174_6 : zt 174 6 = 180 := rfl
theorem zo_174_6 : zo 174 6 = True := eq_true (by unfold zo; decide)
theorem zt_176_7 : zt 176 7 = 183 := rfl
theorem zo_176_7 : zo 176 7 = True := eq_true (by unfold zo; decide)
theorem zt_180_4 : zt 180 4 = 184 := rfl
theorem zo_180_4 : zo 180 4 = True := eq_true (by unfold zo; decide)
theorem zt_180_33 : zt 180 33 = 213 := rfl
theorem zo_180_33 : zo 180 33 = True := eq_true (by unfold zo; decide)
theorem zt_186_17 : zt 186 17 = 203 := rfl
theorem zo_186_17 : zo 186 17 = True := eq_true (by unfold zo; decide)
theorem zt_188_8 : zt 188 8 = 196 := rfl
theorem zo_188_8 : zo 188 8 = True := eq_true (by unfold zo; decide)
theorem zt_193_5 : zt 193 5 = 198 := rfl
theorem zo_193_5 : zo 193 5 = True := eq_true (by unfold zo; decide)
theorem zt_197_6 : zt 197 6 = 203 := rfl
theorem zo_197_6 : zo 197 6 = True := eq_true (by unfold zo; decide)
theorem zt_197_16 : zt 197 16 = 213 := rfl
theorem zo_197_16 : zo 197 16 = True := eq_true (by unfold zo; decide)
theorem zt_199_m154 : zt 199 (-154) = 45 := rfl
theorem zo_199_m154 : zo 199 (-154) = True := eq_true (by unfold zo; decide)
theorem zt_201_7 : zt 201 7 = 208 := rfl
theorem zo_201_7 : zo 201 7 = True := eq_true (by unfold zo; decide)
theorem zt_205_6 : zt 205 6 = 211 := rfl
theorem zo_205_6 : zo 205 6 = True := eq_true (by unfold zo; decide)
theorem zt_209_14 : zt 209 14 = 223 := rfl
theorem zo_209_14 : zo 209 14 = True := eq_true (by unfold zo; decide)
theorem zt_211_23 : zt 211 23 = 234 := rfl
theorem zo_211_23 : zo 211 23 = True := eq_true (by unfold zo; decide)
theorem zt_216_11 : zt 216 11 = 227 := rfl
theorem zo_216_11 : zo 216 11 = True := eq_true (by unfold zo; decide)
theorem zt_219_6 : zt 219 6 = 225 := rfl
theorem zo_219_6 : zo 219 6 = True := eq_true (by unfold zo; decide)
theorem zt_227_7 : zt 227 7 = 234 := rfl
theorem zo_227_7 : zo 227 7 = True := eq_true (by unfold zo; decide)
theorem zt_231_5 : zt 231 5 = 236 := rfl
theorem zo_231_5 : zo 231 5 = True := eq_true (by unfold zo; decide)
theorem zt_254_69 : zt 254 69 = 323 := rfl
theorem zo_254_69 : zo 254 69 = True := eq_true (by unfold zo; decide)
theorem zt_270_305 : zt 270 305 = 575 := rfl
theorem zo_270_305 : zo 270 305 = True := eq_true (by unfold zo; decide)
theorem zt_293_282 : zt 293 282 = 575 := rfl
theorem zo_293_282 : zo 293 282 = True := eq_true (by unfold zo; decide)
theorem zt_326_249 : zt 326 249 = 575 := rfl
theorem zo_326_249 : zo 326 249 = True := eq_true (by unfold zo; decide)
theorem zt_342_7 : zt 342 7 = 349 := rfl
theorem zo_342_7 : zo 342 7 = True := eq_true (by unfold zo; decide)
theorem zt_346_4 : zt 346 4 = 350 := rfl
theorem zo_346_4 : zo 346 4 = True := eq_true (by unfold zo; decide)
theorem zt_364_7 : zt 364 7 = 371 := rfl
theorem zo_364_7 : zo 364 7 = True := eq_true (by unfold zo; decide)
theorem zt_368_4 : zt 368 4 = 372 := rfl
theorem zo_368_4 : zo 368 4 = True := eq_true (by unfold zo; decide)
theorem zt_375_200 : zt 375 200 = 575 := rfl
theorem zo_375_200 : zo 375 200 = True := eq_true (by unfold zo; decide)
theorem zt_398_177 : zt 398 177 = 575 := rfl
theorem zo_398_177 : zo 398 177 = True := eq_true (by unfold zo; decide)
theorem zt_451_124 : zt 451 124 = 575 := rfl
theorem zo_451_124 : zo 451 124 = True := eq_true (by unfold zo; decide)
theorem zt_484_91 : zt 484 91 = 575 := rfl
theorem zo_484_91 : zo 484 91 = True := eq_true (by unfold zo; decide)
theorem zt_547_28 : zt 547 28 = 575 := rfl
theorem zo_547_28 : zo 547 28 = True := eq_true (by unfold zo; decide)
theorem zt_570_5 : zt 570 5 = 575 := rfl
theorem zo_570_5 : zo 570 5 = True := eq_true (by unfold zo; decide)
theorem zt_578_m560 : zt 578 (-560) = 18 := rfl
theorem zo_578_m560 : zo 578 (-560) = True := eq_true (by unfold zo; decide)
theorem cb_m23 : (Int8.ofInt (-23)).toInt32 = (-23) := by decide +kernel
theorem cb_m22 : (Int8.ofInt (-22)).toInt32 = (-22) := by decide +kernel
theorem cb_m21 : (Int8.ofInt (-21)).toInt32 = (-21) := by decide +kernel
theorem cb_m14 : (Int8.ofInt (-14)).toInt32 = (-14) := by decide +kernel
theorem cb_m13 : (Int8.ofInt (-13)).toInt32 = (-13) := by decide +kernel
theorem cb_m12 : (Int8.ofInt (-12)).toInt32 = (-12) := by decide +kernel
theorem cb_m11 : (Int8.ofInt (-11)).toInt32 = (-11) := by decide +kernel
theorem cb_6 : (Int8.ofInt 6).toInt32 = 6 := by decide +kernel
theorem cb_7 : (Int8.ofInt 7).toInt32 = 7 := by decide +kernel
theorem cb_8 : (Int8.ofInt 8).toInt32 = 8 := by decide +kernel
theorem cb_9 : (Int8.ofInt 9).toInt32 = 9 := by decide +kernel
theorem cb_10 : (Int8.ofInt 10).toInt32 = 10 := by decide +kernel
theorem cb_15 : (Int8.ofInt 15).toInt32 = 15 := by decide +kernel
theorem cb_30 : (Int8.ofInt 30).toInt32 = 30 := by decide +kernel
theorem cb_32 : (Int8.ofInt 32).toInt32 = 32 := by decide +kernel
theorem cb_60 : (Int8.ofInt 60).toInt32 = 60 := by decide +kernel
theorem cb_61 : (Int8.ofInt 61).toInt32 = 61 := by decide +kernel
theorem cb_100 : (Int8.ofInt 100).toInt32 = 100 := by decide +kernel
theorem cb_101 : (Int8.ofInt 101).toInt32 = 101 := by decide +kernel
theorem cs_240 : (Int16.ofInt 240).toInt32 = 240 := by decide +kernel
theorem cs_250 : (Int16.ofInt 250).toInt32 = 250 := by decide +kernel
theorem cs_399 : (Int16.ofInt 399).toInt32 = 399 := by decide +kernel
theorem cs_488 : (Int16.ofInt 488).toInt32 = 488 := by decide +kernel
theorem cs_512 : (Int16.ofInt 512).toInt32 = 512 := by decide +kernel
theorem cs_549 : (Int16.ofInt 549).toInt32 = 549 := by decide +kernel
theorem cs_4200 : (Int16.ofInt 4200).toInt32 = 4200 := by decide +kernel
theorem ci_m1 : Int32.ofInt (-1) = (-1) := by decide +kernel
theorem ci_0 : Int32.ofInt 0 = 0 := by decide +kernel
theorem ci_1 : Int32.ofInt 1 = 1 := by decide +kernel
theorem ci_2 : Int32.ofInt 2 = 2 := by decide +kernel
theorem ci_3 : Int32.ofInt 3 = 3 := by decide +kernel
theorem ci_4 : Int32.ofInt 4 = 4 := by decide +kernel
theorem ci_5 : Int32.ofInt 5 = 5 := by decide +kernel
theorem cl_0 : Int64.ofNat ((0 : Fin 2) : Nat) = 0 := by decide +kernel
theorem cl_1 : Int64.ofNat ((1 : Fin 2) : Nat) = 1 := by decide +kernel
theorem za_0 {i : Nat} : lv_args i [] = [] := rfl
theorem za_i {i : Nat} {x : Int32} {vs : List Value} : lv_args i (.int x :: vs) = (i, .int x) :: lv_args (i + 1) vs := rfl
theorem za_r {i x : Nat} {vs : List Value} : lv_args i (.ref x :: vs) = (i, .ref x) :: lv_args (i + 1) vs := rfl
theorem za_n {i : Nat} {vs : List Value} : lv_args i (.null :: vs) = (i, .null) :: lv_args (i + 1) vs := rfl
theorem za_l {i : Nat} {x : Int64} {vs : List Value} : lv_args i (.long x :: vs) = (i, .long x) :: lv_args (i + 2) vs := rfl
theorem zk_0 {dA : Nat → ClassId} : (∃ (t : Nat) (ty : FieldType), (kt dA)[t]? = some (dA 0, ty)) = True := eq_true ⟨0, _, rfl⟩
theorem zk_1 {dA : Nat → ClassId} : (∃ (t : Nat) (ty : FieldType), (kt dA)[t]? = some (dA 1, ty)) = True := eq_true ⟨1, _, rfl⟩
theorem zk_2 {dA : Nat → ClassId} : (∃ (t : Nat) (ty : FieldType), (kt dA)[t]? = some (dA 2, ty)) = True := eq_true ⟨2, _, rfl⟩
theorem zk_3 {dA : Nat → ClassId} : (∃ (t : Nat) (ty : FieldType), (kt dA)[t]? = some (dA 3, ty)) = True := eq_true ⟨3, _, rfl⟩
theorem zk_4 {dA : Nat → ClassId} : (∃ (t : Nat) (ty : FieldType), (kt dA)[t]? = some (dA 4, ty)) = True := eq_true ⟨4, _, rfl⟩
theorem zq_1 {dA : Nat → ClassId} : (∃ (t : Nat) (C : String), (kt dA)[t]? = some (dA 1, .object C)) = True := eq_true ⟨1, _, rfl⟩
theorem zq_2 {dA : Nat → ClassId} : (∃ (t : Nat) (C : String), (kt dA)[t]? = some (dA 2, .object C)) = True := eq_true ⟨2, _, rfl⟩
end
section
/-! LEAVES. -/
def zb (p : Prop) [Decidable p] : Int32 := if p then 1 else 0
theorem zb_t {p : Prop} [Decidable p] (h : p) : zb p = 1 := if_pos h
theorem zb_f {p : Prop} [Decidable p] (h : ¬ p) : zb p = 0 := if_neg h
theorem zb_01 (p : Prop) [Decidable p] : zb p = 0 ∨ zb p = 1 := by
  by_cases h : p
  · exact Or.inr (zb_t h)
  · exact Or.inl (zb_f h)
theorem zb_e0 {p : Prop} [Decidable p] : (zb p = 0) = (¬ p) := by
  by_cases h : p
  · rw [zb_t h]; exact propext ⟨fun q => absurd q (by decide), fun q => absurd h q⟩
  · rw [zb_f h]; exact propext ⟨fun _ => h, fun _ => rfl⟩
set_option maxHeartbeats 4000000 in
set_option maxRecDepth 100000 in
/-- isPerson -/
theorem c_D_isPerson (l : Launch) (D : va_G) (dA : Nat → ClassId) (z : Nat) (M : zVw) (p0 : Int32) : zMet l y_D_isPerson b_D_isPerson 1 (some .boolean) 0 0 0 0 D dA z [.int p0] M (fun v M' => M' = M ∧ v = some (.int (zb (0 ≤ p0 ∧ p0 < 100)))) := by
  refine z_of 2 false (by decide) (fun h => by first | rfl | cases h) (Nat.le_of_ble_eq_true rfl) trivial ?_
  intro p e s m args below meth c C hR
  refine zgo (cut := fun _ => false) 60 C lk_D hR ?_
  simp only [zs_iconst, zs_bipush, zs_iload_n, zs_if_lt, zs_icmp_ge, zs_goto, zs_ireturn, zx_iv, zx_is, zx_it, zx_nw, zx_na, zx_an, zx_cc, zx_gs, zx_as, zx_ae, zx_ac, zx_at, zr_seg, zr_t, zr_f, zr_tp, zr_fp, zr_lg, zr_lr, zr_lr0, zr_wi, zr_wr, zr_wn, zr_wl, zr_vo, zr_so, zr_sI, zr_sL, zr_sA, zr_sN, zr_in, zr_rd, zr_wr2, zr_kf, zr_k0, zr_k1, zr_k2, zr_k3, zr_k3n, zr_k10, zr_k11, zr_k12, zr_k13, zr_k13n, zr_ai, zr_af, zr_aw, zr_aL, zr_Lf, zr_Lw, zr_l2, zr_l20, zr_al, zr_an, zr_aq, zr_ag, zr_rfs, zr_rfn, zr_r1, zr_r2, zr_w0, zr_w1, zr_tl, zr_40, zr_41, zr_42, zr_43, d_D_isPerson_0, d_D_isPerson_1, zt_1_13, zo_1_13, d_D_isPerson_4, d_D_isPerson_5, cb_100, d_D_isPerson_7, zt_7_7, zo_7_7, d_D_isPerson_10, ci_1, d_D_isPerson_11, zt_11_4, zo_11_4, d_D_isPerson_14, ci_0, d_D_isPerson_15, za_0, za_i, za_r, za_n, za_l, zu_s, zu_u, Nat.reduceAdd, Nat.reduceLT, Nat.reduceBEq, Nat.zero_add, Bool.false_or, Bool.or_false, Bool.true_or, Bool.or_true, Bool.false_and, Bool.and_false, Bool.true_and, Bool.and_true, true_and, and_true, true_or, or_true, eq_self, Nat.le_refl, List.getElem?_cons_succ, List.getElem?_cons_zero, List.set_cons_succ, List.set_cons_zero, zk_0, zk_1, zk_2, zk_3, zk_4, zq_1, zq_2, Option.isSome_some, Option.getD_some, Option.toList_some, Option.toList_none, List.cons_append, List.nil_append]
  clear C hR
  (repeat' first | apply And.intro | intro _) <;> first | (rw [zb_t (by (simp only [Int32.lt_iff_toInt_lt, Int32.le_iff_toInt_le, ← Int32.toInt_inj, Int32.reduceToInt] at *; omega))]; done) | (rw [zb_f (by (simp only [Int32.lt_iff_toInt_lt, Int32.le_iff_toInt_le, ← Int32.toInt_inj, Int32.reduceToInt] at *; omega))]; done)
set_option maxHeartbeats 4000000 in
set_option maxRecDepth 100000 in
/-- isDevice -/
theorem c_D_isDevice (l : Launch) (D : va_G) (dA : Nat → ClassId) (z : Nat) (M : zVw) (p0 : Int32) : zMet l y_D_isDevice b_D_isDevice 1 (some .boolean) 0 0 0 0 D dA z [.int p0] M (fun v M' => M' = M ∧ v = some (.int (zb (0 ≤ p0 ∧ p0 < 8)))) := by
  refine z_of 2 false (by decide) (fun h => by first | rfl | cases h) (Nat.le_of_ble_eq_true rfl) trivial ?_
  intro p e s m args below meth c C hR
  refine zgo (cut := fun _ => false) 60 C lk_D hR ?_
  simp only [zs_iconst, zs_bipush, zs_iload_n, zs_if_lt, zs_icmp_ge, zs_goto, zs_ireturn, zx_iv, zx_is, zx_it, zx_nw, zx_na, zx_an, zx_cc, zx_gs, zx_as, zx_ae, zx_ac, zx_at, zr_seg, zr_t, zr_f, zr_tp, zr_fp, zr_lg, zr_lr, zr_lr0, zr_wi, zr_wr, zr_wn, zr_wl, zr_vo, zr_so, zr_sI, zr_sL, zr_sA, zr_sN, zr_in, zr_rd, zr_wr2, zr_kf, zr_k0, zr_k1, zr_k2, zr_k3, zr_k3n, zr_k10, zr_k11, zr_k12, zr_k13, zr_k13n, zr_ai, zr_af, zr_aw, zr_aL, zr_Lf, zr_Lw, zr_l2, zr_l20, zr_al, zr_an, zr_aq, zr_ag, zr_rfs, zr_rfn, zr_r1, zr_r2, zr_w0, zr_w1, zr_tl, zr_40, zr_41, zr_42, zr_43, d_D_isDevice_0, d_D_isDevice_1, zt_1_13, zo_1_13, d_D_isDevice_4, d_D_isDevice_5, cb_8, d_D_isDevice_7, zt_7_7, zo_7_7, d_D_isDevice_10, ci_1, d_D_isDevice_11, zt_11_4, zo_11_4, d_D_isDevice_14, ci_0, d_D_isDevice_15, za_0, za_i, za_r, za_n, za_l, zu_s, zu_u, Nat.reduceAdd, Nat.reduceLT, Nat.reduceBEq, Nat.zero_add, Bool.false_or, Bool.or_false, Bool.true_or, Bool.or_true, Bool.false_and, Bool.and_false, Bool.true_and, Bool.and_true, true_and, and_true, true_or, or_true, eq_self, Nat.le_refl, List.getElem?_cons_succ, List.getElem?_cons_zero, List.set_cons_succ, List.set_cons_zero, zk_0, zk_1, zk_2, zk_3, zk_4, zq_1, zq_2, Option.isSome_some, Option.getD_some, Option.toList_some, Option.toList_none, List.cons_append, List.nil_append]
  clear C hR
  (repeat' first | apply And.intro | intro _) <;> first | (rw [zb_t (by (simp only [Int32.lt_iff_toInt_lt, Int32.le_iff_toInt_le, ← Int32.toInt_inj, Int32.reduceToInt] at *; omega))]; done) | (rw [zb_f (by (simp only [Int32.lt_iff_toInt_lt, Int32.le_iff_toInt_le, ← Int32.toInt_inj, Int32.reduceToInt] at *; omega))]; done)
set_option maxHeartbeats 4000000 in
set_option maxRecDepth 100000 in
/-- the reference's isDevice -/
theorem c_M_isDevice (l : Launch) (D : va_G) (dA : Nat → ClassId) (z : Nat) (M : zVw) (p0 : Int32) : zMet l y_M_isDevice b_M_isDevice 1 (some .boolean) 0 0 0 0 D dA z [.int p0] M (fun v M' => M' = M ∧ v = some (.int (zb (0 ≤ p0 ∧ p0 < 8)))) := by
  refine z_of 2 false (by decide) (fun h => by first | rfl | cases h) (Nat.le_of_ble_eq_true rfl) trivial ?_
  intro p e s m args below meth c C hR
  refine zgo (cut := fun _ => false) 60 C lk_M hR ?_
  simp only [zs_iconst, zs_bipush, zs_iload_n, zs_if_lt, zs_icmp_ge, zs_goto, zs_ireturn, zx_iv, zx_is, zx_it, zx_nw, zx_na, zx_an, zx_cc, zx_gs, zx_as, zx_ae, zx_ac, zx_at, zr_seg, zr_t, zr_f, zr_tp, zr_fp, zr_lg, zr_lr, zr_lr0, zr_wi, zr_wr, zr_wn, zr_wl, zr_vo, zr_so, zr_sI, zr_sL, zr_sA, zr_sN, zr_in, zr_rd, zr_wr2, zr_kf, zr_k0, zr_k1, zr_k2, zr_k3, zr_k3n, zr_k10, zr_k11, zr_k12, zr_k13, zr_k13n, zr_ai, zr_af, zr_aw, zr_aL, zr_Lf, zr_Lw, zr_l2, zr_l20, zr_al, zr_an, zr_aq, zr_ag, zr_rfs, zr_rfn, zr_r1, zr_r2, zr_w0, zr_w1, zr_tl, zr_40, zr_41, zr_42, zr_43, d_M_isDevice_0, d_M_isDevice_1, zt_1_13, zo_1_13, d_M_isDevice_4, d_M_isDevice_5, cb_8, d_M_isDevice_7, zt_7_7, zo_7_7, d_M_isDevice_10, ci_1, d_M_isDevice_11, zt_11_4, zo_11_4, d_M_isDevice_14, ci_0, d_M_isDevice_15, za_0, za_i, za_r, za_n, za_l, zu_s, zu_u, Nat.reduceAdd, Nat.reduceLT, Nat.reduceBEq, Nat.zero_add, Bool.false_or, Bool.or_false, Bool.true_or, Bool.or_true, Bool.false_and, Bool.and_false, Bool.true_and, Bool.and_true, true_and, and_true, true_or, or_true, eq_self, Nat.le_refl, List.getElem?_cons_succ, List.getElem?_cons_zero, List.set_cons_succ, List.set_cons_zero, zk_0, zk_1, zk_2, zk_3, zk_4, zq_1, zq_2, Option.isSome_some, Option.getD_some, Option.toList_some, Option.toList_none, List.cons_append, List.nil_append]
  clear C hR
  (repeat' first | apply And.intro | intro _) <;> first | (rw [zb_t (by (simp only [Int32.lt_iff_toInt_lt, Int32.le_iff_toInt_le, ← Int32.toInt_inj, Int32.reduceToInt] at *; omega))]; done) | (rw [zb_f (by (simp only [Int32.lt_iff_toInt_lt, Int32.le_iff_toInt_le, ← Int32.toInt_inj, Int32.reduceToInt] at *; omega))]; done)
/-- the facts of an item: state, stateBefore, damaged, cards, cardDay, keptTo, handDevice, handDay, taker, slip, latestDevice -/
def fA (F : Nat → Int32) : va_E := .inr (5, [.int (F 0), .int (F 1), .int (F 2), .int (F 3), .int (F 4), .int (F 5), .int (F 6), .int (F 7), .int (F 8), .int (F 9), .int (F 10)])
set_option maxHeartbeats 4000000 in
set_option maxRecDepth 100000 in
/-- Facts.isHandedOver -/
theorem c_F_isHandedOver (l : Launch) (D : va_G) (dA : Nat → ClassId) (z : Nat) (M : zVw) (h : Nat) (F : Nat → Int32) (hM : M h = some (fA F)) : zMet l y_F_isHandedOver b_F_isHandedOver 1 (some .boolean) 0 0 0 0 D dA z [.ref h] M (fun v M' => M' = M ∧ v = some (.int (zb (3 ≤ F 0 ∧ F 0 ≤ 6)))) := by
  refine z_of 2 false (by decide) (fun h => by first | rfl | cases h) (Nat.le_of_ble_eq_true rfl) trivial ?_
  intro p e s m args below meth c C hR
  refine zgo (cut := fun _ => false) 60 C lk_F hR ?_
  simp only [zs_iconst, zs_bipush, zs_aload_n, zs_icmp_lt, zs_icmp_gt, zs_goto, zs_get, zs_ireturn, zx_iv, zx_is, zx_it, zx_nw, zx_na, zx_an, zx_cc, zx_gs, zx_as, zx_ae, zx_ac, zx_at, zr_seg, zr_t, zr_f, zr_tp, zr_fp, zr_lg, zr_lr, zr_lr0, zr_wi, zr_wr, zr_wn, zr_wl, zr_vo, zr_so, zr_sI, zr_sL, zr_sA, zr_sN, zr_in, zr_rd, zr_wr2, zr_kf, zr_k0, zr_k1, zr_k2, zr_k3, zr_k3n, zr_k10, zr_k11, zr_k12, zr_k13, zr_k13n, zr_ai, zr_af, zr_aw, zr_aL, zr_Lf, zr_Lw, zr_l2, zr_l20, zr_al, zr_an, zr_aq, zr_ag, zr_rfs, zr_rfn, zr_r1, zr_r2, zr_w0, zr_w1, zr_tl, zr_40, zr_41, zr_42, zr_43, d_F_isHandedOver_0, d_F_isHandedOver_1, fl_F_9, d_F_isHandedOver_4, ci_3, d_F_isHandedOver_5, zt_5_16, zo_5_16, d_F_isHandedOver_8, d_F_isHandedOver_9, d_F_isHandedOver_12, cb_6, d_F_isHandedOver_14, zt_14_7, zo_14_7, d_F_isHandedOver_17, ci_1, d_F_isHandedOver_18, zt_18_4, zo_18_4, d_F_isHandedOver_21, ci_0, d_F_isHandedOver_22, za_0, za_i, za_r, za_n, za_l, zu_s, zu_u, Nat.reduceAdd, Nat.reduceLT, Nat.reduceBEq, Nat.zero_add, Bool.false_or, Bool.or_false, Bool.true_or, Bool.or_true, Bool.false_and, Bool.and_false, Bool.true_and, Bool.and_true, true_and, and_true, true_or, or_true, eq_self, Nat.le_refl, List.getElem?_cons_succ, List.getElem?_cons_zero, List.set_cons_succ, List.set_cons_zero, zk_0, zk_1, zk_2, zk_3, zk_4, zq_1, zq_2, Option.isSome_some, Option.getD_some, Option.toList_some, Option.toList_none, List.cons_append, List.nil_append, hM, fA]
  clear C hR
  (repeat' first | apply And.intro | intro _) <;> first | (rw [zb_t (by (simp only [Int32.lt_iff_toInt_lt, Int32.le_iff_toInt_le, ← Int32.toInt_inj, Int32.reduceToInt] at *; omega))]; done) | (rw [zb_f (by (simp only [Int32.lt_iff_toInt_lt, Int32.le_iff_toInt_le, ← Int32.toInt_inj, Int32.reduceToInt] at *; omega))]; done)
end
section
/-! FACTS, ACTS, CLASHES: the class's small objects. -/
theorem zc_ge {x y : Int64} : (0 ≤ lg_cmp x y) = (y ≤ x) := propext (lg_cmp_ge x y)
theorem zc_lt {x y : Int64} : (lg_cmp x y < 0) = (x < y) := by
  unfold lg_cmp
  simp only [gt_iff_lt, Int64.lt_iff_toInt_lt, ← Int64.toInt_inj]
  split
  · exact propext ⟨fun h => absurd h (by decide), fun h => absurd h (by omega)⟩
  · split
    · exact propext ⟨fun h => absurd h (by decide), fun h => absurd h (by omega)⟩
    · exact propext ⟨fun _ => by omega, fun _ => by decide⟩
theorem zc_gt {x y : Int64} : (0 < lg_cmp x y) = (y < x) := by
  unfold lg_cmp
  split
  · rename_i h; exact propext ⟨fun _ => h, fun _ => by decide⟩
  · rename_i h
    split
    · exact propext ⟨fun q => absurd q (by decide), fun q => absurd q h⟩
    · exact propext ⟨fun q => absurd q (by decide), fun q => absurd q h⟩
theorem zc_le {x y : Int64} : (lg_cmp x y ≤ 0) = (x ≤ y) := by
  unfold lg_cmp
  simp only [gt_iff_lt, Int64.lt_iff_toInt_lt, Int64.le_iff_toInt_le, ← Int64.toInt_inj]
  split
  · exact propext ⟨fun h => absurd h (by decide), fun h => absurd h (by omega)⟩
  · split
    · exact propext ⟨fun _ => by omega, fun _ => by decide⟩
    · exact propext ⟨fun _ => by omega, fun _ => by decide⟩
/-- an act: device, kind, who, outcome, day at 1 .. 5; its item's address -/
def aA (it : Nat) (A : Nat → Int32) : va_E := .inr (1, [.ref it, .int (A 1), .int (A 2), .int (A 3), .int (A 4), .int (A 5)])
def f0 : Nat → Int32 := fun k => if k = 6 ∨ k = 8 ∨ k = 10 then -1 else 0
def fCard (F : Nat → Int32) (day : Int32) : Nat → Int32 := if F 0 = 0 then upd (upd (upd F 3 (F 3 + 1)) 0 1) 4 day else upd (upd (upd F 3 (F 3 + 1)) 0 2) 5 (day + 7)
def fHand (F A : Nat → Int32) : Nat → Int32 := upd (upd (upd (upd (upd F 1 (F 0)) 0 (3 + A 4 - 1)) 6 (A 1)) 7 (A 5)) 8 (A 3)
def fChange (F A : Nat → Int32) : Nat → Int32 :=
  if A 2 = 1 then fCard (upd F 10 (A 1)) (A 5) else if A 2 = 2 then upd (upd F 10 (A 1)) 0 7 else if A 2 = 3 then upd (upd F 10 (A 1)) 2 1 else if A 2 = 4 then upd (upd (upd F 10 (A 1)) 0 (F 1)) 9 0 else fHand (upd F 10 (A 1)) A
abbrev fAllow (F : Nat → Int32) (kind dev day : Int32) : Prop :=
  (kind = 0 ∧ F 0 ≤ 2) ∨ (kind = 2 ∧ F 0 ≤ 2) ∨ (kind = 1 ∧ (F 0 = 0 ∨ (F 0 = 1 ∧ F 4 < day))) ∨ (kind = 3 ∧ F 0 < 7 ∧ F 2 = 0) ∨ (kind = 4 ∧ (3 ≤ F 0 ∧ F 0 ≤ 6) ∧ F 6 = dev ∧ F 7 = day) ∨ ((kind < 0 ∨ 4 < kind) ∧ F 0 ≤ 1)
theorem fA_aA {M : zVw} {h a it : Nat} {F A : Nat → Int32} (h1 : M h = some (fA F)) (h2 : M a = some (aA it A)) : a ≠ h := by
  intro q
  rw [q, h1] at h2
  simp [fA, aA] at h2
set_option maxHeartbeats 4000000 in
set_option maxRecDepth 100000 in
/-- new Facts() -/
theorem c_F_init (l : Launch) (D : va_G) (dA : Nat → ClassId) (z : Nat) (M : zVw) (h : Nat) (F : Nat → Int32) (hM : M h = some (fA F)) : zMet l y_F_init b_F_init 1 none 1 40 0 0 D dA z [.ref h] M (fun v M' => v = none ∧ M' = zu M h (fA f0)) := by
  refine z_of 0 true (by decide) (fun h => by first | rfl | cases h) (Nat.le_of_ble_eq_true rfl) trivial ?_
  intro p e s m args below meth c C hR
  refine zgo (cut := fun _ => false) 60 C lk_F hR ?_
  simp only [zs_iconst, zs_aload_n, zs_put, zs_return, zx_iv, zx_is, zx_it, zx_nw, zx_na, zx_an, zx_cc, zx_gs, zx_as, zx_ae, zx_ac, zx_at, zr_seg, zr_t, zr_f, zr_tp, zr_fp, zr_lg, zr_lr, zr_lr0, zr_wi, zr_wr, zr_wn, zr_wl, zr_vo, zr_so, zr_sI, zr_sL, zr_sA, zr_sN, zr_in, zr_rd, zr_wr2, zr_kf, zr_k0, zr_k1, zr_k2, zr_k3, zr_k3n, zr_k10, zr_k11, zr_k12, zr_k13, zr_k13n, zr_ai, zr_af, zr_aw, zr_aL, zr_Lf, zr_Lw, zr_l2, zr_l20, zr_al, zr_an, zr_aq, zr_ag, zr_rfs, zr_rfn, zr_r1, zr_r2, zr_w0, zr_w1, zr_tl, zr_40, zr_41, zr_42, zr_43, d_F_init_0, d_F_init_1, d_F_init_4, d_F_init_5, ci_0, d_F_init_6, fl_F_9, d_F_init_9, d_F_init_10, d_F_init_11, fl_F_15, d_F_init_14, d_F_init_15, d_F_init_16, fl_F_18, d_F_init_19, d_F_init_20, d_F_init_21, fl_F_22, d_F_init_24, d_F_init_25, d_F_init_26, fl_F_25, d_F_init_29, d_F_init_30, d_F_init_31, fl_F_28, d_F_init_34, d_F_init_35, ci_m1, d_F_init_36, fl_F_31, d_F_init_39, d_F_init_40, d_F_init_41, fl_F_34, d_F_init_44, d_F_init_45, d_F_init_46, fl_F_37, d_F_init_49, d_F_init_50, d_F_init_51, fl_F_40, d_F_init_54, d_F_init_55, d_F_init_56, fl_F_43, d_F_init_59, za_0, za_i, za_r, za_n, za_l, zu_s, zu_u, Nat.reduceAdd, Nat.reduceLT, Nat.reduceBEq, Nat.zero_add, Bool.false_or, Bool.or_false, Bool.true_or, Bool.or_true, Bool.false_and, Bool.and_false, Bool.true_and, Bool.and_true, true_and, and_true, true_or, or_true, eq_self, Nat.le_refl, List.getElem?_cons_succ, List.getElem?_cons_zero, List.set_cons_succ, List.set_cons_zero, zk_0, zk_1, zk_2, zk_3, zk_4, zq_1, zq_2, Option.isSome_some, Option.getD_some, Option.toList_some, Option.toList_none, List.cons_append, List.nil_append, hM, fA]
  refine zJ_obj C d_F_init_1 (by decide +kernel) oi_i oi_c (by decide) (by decide) ?_
  refine zgo (cut := fun _ => false) 80 C lk_F hR ?_
  simp only [zs_iconst, zs_aload_n, zs_put, zs_return, zx_iv, zx_is, zx_it, zx_nw, zx_na, zx_an, zx_cc, zx_gs, zx_as, zx_ae, zx_ac, zx_at, zr_seg, zr_t, zr_f, zr_tp, zr_fp, zr_lg, zr_lr, zr_lr0, zr_wi, zr_wr, zr_wn, zr_wl, zr_vo, zr_so, zr_sI, zr_sL, zr_sA, zr_sN, zr_in, zr_rd, zr_wr2, zr_kf, zr_k0, zr_k1, zr_k2, zr_k3, zr_k3n, zr_k10, zr_k11, zr_k12, zr_k13, zr_k13n, zr_ai, zr_af, zr_aw, zr_aL, zr_Lf, zr_Lw, zr_l2, zr_l20, zr_al, zr_an, zr_aq, zr_ag, zr_rfs, zr_rfn, zr_r1, zr_r2, zr_w0, zr_w1, zr_tl, zr_40, zr_41, zr_42, zr_43, d_F_init_0, d_F_init_1, d_F_init_4, d_F_init_5, ci_0, d_F_init_6, fl_F_9, d_F_init_9, d_F_init_10, d_F_init_11, fl_F_15, d_F_init_14, d_F_init_15, d_F_init_16, fl_F_18, d_F_init_19, d_F_init_20, d_F_init_21, fl_F_22, d_F_init_24, d_F_init_25, d_F_init_26, fl_F_25, d_F_init_29, d_F_init_30, d_F_init_31, fl_F_28, d_F_init_34, d_F_init_35, ci_m1, d_F_init_36, fl_F_31, d_F_init_39, d_F_init_40, d_F_init_41, fl_F_34, d_F_init_44, d_F_init_45, d_F_init_46, fl_F_37, d_F_init_49, d_F_init_50, d_F_init_51, fl_F_40, d_F_init_54, d_F_init_55, d_F_init_56, fl_F_43, d_F_init_59, za_0, za_i, za_r, za_n, za_l, zu_s, zu_u, Nat.reduceAdd, Nat.reduceLT, Nat.reduceBEq, Nat.zero_add, Bool.false_or, Bool.or_false, Bool.true_or, Bool.or_true, Bool.false_and, Bool.and_false, Bool.true_and, Bool.and_true, true_and, and_true, true_or, or_true, eq_self, Nat.le_refl, List.getElem?_cons_succ, List.getElem?_cons_zero, List.set_cons_succ, List.set_cons_zero, zk_0, zk_1, zk_2, zk_3, zk_4, zq_1, zq_2, Option.isSome_some, Option.getD_some, Option.toList_some, Option.toList_none, List.cons_append, List.nil_append, hM, fA]
  rfl
set_option maxHeartbeats 4000000 in
set_option maxRecDepth 100000 in
/-- Facts.copyFrom -/
theorem c_F_copyFrom (l : Launch) (D : va_G) (dA : Nat → ClassId) (z : Nat) (M : zVw) (h o : Nat) (F G : Nat → Int32) (hM : M h = some (fA F)) (hO : M o = some (fA G)) (hne : o ≠ h) (hb : G 2 = 0 ∨ G 2 = 1) : zMet l y_F_copyFrom b_F_copyFrom 2 none 0 0 0 0 D dA z [.ref h, .ref o] M (fun v M' => v = none ∧ M' = zu M h (fA G)) := by
  refine z_of 0 false (by decide) (fun h => by first | rfl | cases h) (Nat.le_of_ble_eq_true rfl) trivial ?_
  intro p e s m args below meth c C hR
  refine zgo (cut := fun _ => false) 80 C lk_F hR ?_
  simp only [zs_aload_n, zs_get, zs_put, zs_return, zx_iv, zx_is, zx_it, zx_nw, zx_na, zx_an, zx_cc, zx_gs, zx_as, zx_ae, zx_ac, zx_at, zr_seg, zr_t, zr_f, zr_tp, zr_fp, zr_lg, zr_lr, zr_lr0, zr_wi, zr_wr, zr_wn, zr_wl, zr_vo, zr_so, zr_sI, zr_sL, zr_sA, zr_sN, zr_in, zr_rd, zr_wr2, zr_kf, zr_k0, zr_k1, zr_k2, zr_k3, zr_k3n, zr_k10, zr_k11, zr_k12, zr_k13, zr_k13n, zr_ai, zr_af, zr_aw, zr_aL, zr_Lf, zr_Lw, zr_l2, zr_l20, zr_al, zr_an, zr_aq, zr_ag, zr_rfs, zr_rfn, zr_r1, zr_r2, zr_w0, zr_w1, zr_tl, zr_40, zr_41, zr_42, zr_43, d_F_copyFrom_0, d_F_copyFrom_1, d_F_copyFrom_2, fl_F_9, d_F_copyFrom_5, d_F_copyFrom_8, d_F_copyFrom_9, d_F_copyFrom_10, fl_F_15, d_F_copyFrom_13, d_F_copyFrom_16, d_F_copyFrom_17, d_F_copyFrom_18, fl_F_18, d_F_copyFrom_21, d_F_copyFrom_24, d_F_copyFrom_25, d_F_copyFrom_26, fl_F_22, d_F_copyFrom_29, d_F_copyFrom_32, d_F_copyFrom_33, d_F_copyFrom_34, fl_F_25, d_F_copyFrom_37, d_F_copyFrom_40, d_F_copyFrom_41, d_F_copyFrom_42, fl_F_28, d_F_copyFrom_45, d_F_copyFrom_48, d_F_copyFrom_49, d_F_copyFrom_50, fl_F_31, d_F_copyFrom_53, d_F_copyFrom_56, d_F_copyFrom_57, d_F_copyFrom_58, fl_F_34, d_F_copyFrom_61, d_F_copyFrom_64, d_F_copyFrom_65, d_F_copyFrom_66, fl_F_37, d_F_copyFrom_69, d_F_copyFrom_72, d_F_copyFrom_73, d_F_copyFrom_74, fl_F_40, d_F_copyFrom_77, d_F_copyFrom_80, d_F_copyFrom_81, d_F_copyFrom_82, fl_F_43, d_F_copyFrom_85, d_F_copyFrom_88, za_0, za_i, za_r, za_n, za_l, zu_s, zu_u, Nat.reduceAdd, Nat.reduceLT, Nat.reduceBEq, Nat.zero_add, Bool.false_or, Bool.or_false, Bool.true_or, Bool.or_true, Bool.false_and, Bool.and_false, Bool.true_and, Bool.and_true, true_and, and_true, true_or, or_true, eq_self, Nat.le_refl, List.getElem?_cons_succ, List.getElem?_cons_zero, List.set_cons_succ, List.set_cons_zero, zk_0, zk_1, zk_2, zk_3, zk_4, zq_1, zq_2, Option.isSome_some, Option.getD_some, Option.toList_some, Option.toList_none, List.cons_append, List.nil_append, hM, hO, fA, zu_n hne, hb]
set_option maxHeartbeats 4000000 in
set_option maxRecDepth 100000 in
/-- Facts.leaveCard -/
theorem c_F_leaveCard (l : Launch) (D : va_G) (dA : Nat → ClassId) (z : Nat) (M : zVw) (h : Nat) (F : Nat → Int32) (day : Int32) (hM : M h = some (fA F)) : zMet l y_F_leaveCard b_F_leaveCard 2 none 0 0 0 0 D dA z [.ref h, .int day] M (fun v M' => v = none ∧ M' = zu M h (fA (fCard F day))) := by
  refine z_of 0 false (by decide) (fun h => by first | rfl | cases h) (Nat.le_of_ble_eq_true rfl) trivial ?_
  intro p e s m args below meth c C hR
  refine zgo (cut := fun _ => false) 80 C lk_F hR ?_
  simp only [zs_iconst, zs_bipush, zs_iload_n, zs_aload_n, zs_iadd, zs_dup0, zs_dup1, zs_dup2, zs_if_ne, zs_goto, zs_get, zs_put, zs_return, zx_iv, zx_is, zx_it, zx_nw, zx_na, zx_an, zx_cc, zx_gs, zx_as, zx_ae, zx_ac, zx_at, zr_seg, zr_t, zr_f, zr_tp, zr_fp, zr_lg, zr_lr, zr_lr0, zr_wi, zr_wr, zr_wn, zr_wl, zr_vo, zr_so, zr_sI, zr_sL, zr_sA, zr_sN, zr_in, zr_rd, zr_wr2, zr_kf, zr_k0, zr_k1, zr_k2, zr_k3, zr_k3n, zr_k10, zr_k11, zr_k12, zr_k13, zr_k13n, zr_ai, zr_af, zr_aw, zr_aL, zr_Lf, zr_Lw, zr_l2, zr_l20, zr_al, zr_an, zr_aq, zr_ag, zr_rfs, zr_rfn, zr_r1, zr_r2, zr_w0, zr_w1, zr_tl, zr_40, zr_41, zr_42, zr_43, d_F_leaveCard_0, d_F_leaveCard_1, d_F_leaveCard_2, fl_F_22, d_F_leaveCard_5, ci_1, d_F_leaveCard_6, d_F_leaveCard_7, d_F_leaveCard_10, d_F_leaveCard_11, fl_F_9, d_F_leaveCard_14, zt_14_16, zo_14_16, d_F_leaveCard_17, d_F_leaveCard_18, d_F_leaveCard_19, d_F_leaveCard_22, d_F_leaveCard_23, d_F_leaveCard_24, fl_F_25, d_F_leaveCard_27, zt_27_16, zo_27_16, d_F_leaveCard_30, d_F_leaveCard_31, ci_2, d_F_leaveCard_32, d_F_leaveCard_35, d_F_leaveCard_36, d_F_leaveCard_37, cb_7, d_F_leaveCard_39, d_F_leaveCard_40, fl_F_28, d_F_leaveCard_43, za_0, za_i, za_r, za_n, za_l, zu_s, zu_u, Nat.reduceAdd, Nat.reduceLT, Nat.reduceBEq, Nat.zero_add, Bool.false_or, Bool.or_false, Bool.true_or, Bool.or_true, Bool.false_and, Bool.and_false, Bool.true_and, Bool.and_true, true_and, and_true, true_or, or_true, eq_self, Nat.le_refl, List.getElem?_cons_succ, List.getElem?_cons_zero, List.set_cons_succ, List.set_cons_zero, zk_0, zk_1, zk_2, zk_3, zk_4, zq_1, zq_2, Option.isSome_some, Option.getD_some, Option.toList_some, Option.toList_none, List.cons_append, List.nil_append, hM, fA]
  refine ⟨fun hk => ?_, fun hk => ?_⟩
  · unfold fCard; rw [if_neg hk]; rfl
  · unfold fCard; rw [if_pos hk]; rfl
set_option maxHeartbeats 4000000 in
set_option maxRecDepth 100000 in
/-- Facts.handOver -/
theorem c_F_handOver (l : Launch) (D : va_G) (dA : Nat → ClassId) (z : Nat) (M : zVw) (h a it : Nat) (F A : Nat → Int32) (hM : M h = some (fA F)) (hA : M a = some (aA it A)) : zMet l y_F_handOver b_F_handOver 2 none 0 0 0 0 D dA z [.ref h, .ref a] M (fun v M' => v = none ∧ M' = zu M h (fA (fHand F A))) := by
  have hne := fA_aA hM hA
  refine z_of 0 false (by decide) (fun h => by first | rfl | cases h) (Nat.le_of_ble_eq_true rfl) trivial ?_
  intro p e s m args below meth c C hR
  refine zgo (cut := fun _ => false) 80 C lk_F hR ?_
  simp only [zs_iconst, zs_aload_n, zs_iadd, zs_isub, zs_get, zs_put, zs_return, zx_iv, zx_is, zx_it, zx_nw, zx_na, zx_an, zx_cc, zx_gs, zx_as, zx_ae, zx_ac, zx_at, zr_seg, zr_t, zr_f, zr_tp, zr_fp, zr_lg, zr_lr, zr_lr0, zr_wi, zr_wr, zr_wn, zr_wl, zr_vo, zr_so, zr_sI, zr_sL, zr_sA, zr_sN, zr_in, zr_rd, zr_wr2, zr_kf, zr_k0, zr_k1, zr_k2, zr_k3, zr_k3n, zr_k10, zr_k11, zr_k12, zr_k13, zr_k13n, zr_ai, zr_af, zr_aw, zr_aL, zr_Lf, zr_Lw, zr_l2, zr_l20, zr_al, zr_an, zr_aq, zr_ag, zr_rfs, zr_rfn, zr_r1, zr_r2, zr_w0, zr_w1, zr_tl, zr_40, zr_41, zr_42, zr_43, d_F_handOver_0, d_F_handOver_1, d_F_handOver_2, fl_F_9, d_F_handOver_5, fl_F_15, d_F_handOver_8, d_F_handOver_9, ci_3, d_F_handOver_10, d_F_handOver_11, fl_F_69, d_F_handOver_14, d_F_handOver_15, ci_1, d_F_handOver_16, d_F_handOver_17, d_F_handOver_20, d_F_handOver_21, d_F_handOver_22, fl_F_50, d_F_handOver_25, fl_F_31, d_F_handOver_28, d_F_handOver_29, d_F_handOver_30, fl_F_58, d_F_handOver_33, fl_F_34, d_F_handOver_36, d_F_handOver_37, d_F_handOver_38, fl_F_72, d_F_handOver_41, fl_F_37, d_F_handOver_44, za_0, za_i, za_r, za_n, za_l, zu_s, zu_u, Nat.reduceAdd, Nat.reduceLT, Nat.reduceBEq, Nat.zero_add, Bool.false_or, Bool.or_false, Bool.true_or, Bool.or_true, Bool.false_and, Bool.and_false, Bool.true_and, Bool.and_true, true_and, and_true, true_or, or_true, eq_self, Nat.le_refl, List.getElem?_cons_succ, List.getElem?_cons_zero, List.set_cons_succ, List.set_cons_zero, zk_0, zk_1, zk_2, zk_3, zk_4, zq_1, zq_2, Option.isSome_some, Option.getD_some, Option.toList_some, Option.toList_none, List.cons_append, List.nil_append, hM, hA, fA, aA, zu_n hne]
  rfl
set_option maxHeartbeats 4000000 in
set_option maxRecDepth 100000 in
/-- Facts.goBackBy -/
theorem c_F_goBackBy (l : Launch) (D : va_G) (dA : Nat → ClassId) (z : Nat) (M : zVw) (h : Nat) (F : Nat → Int32) (day : Int64) (hM : M h = some (fA F)) : zMet l y_F_goBackBy b_F_goBackBy 3 (some .boolean) 0 0 0 0 D dA z [.ref h, .long day] M (fun v M' => ((F 0 = 2 ∧ (F 5).toInt64 < day) ∧ v = some (.int 1) ∧ M' = zu M h (fA (upd (upd F 0 8) 10 (-1)))) ∨ (¬ (F 0 = 2 ∧ (F 5).toInt64 < day) ∧ v = some (.int 0) ∧ M' = M)) := by
  refine z_of 2 false (by decide) (fun h => by first | rfl | cases h) (Nat.le_of_ble_eq_true rfl) trivial ?_
  intro p e s m args below meth c C hR
  refine zgo (cut := fun _ => false) 80 C lk_F hR ?_
  simp only [zs_iconst, zs_bipush, zs_lload_n, zs_aload_n, zs_lcmp, zs_i2l, zs_if_lt, zs_icmp_ne, zs_get, zs_put, zs_ireturn, zx_iv, zx_is, zx_it, zx_nw, zx_na, zx_an, zx_cc, zx_gs, zx_as, zx_ae, zx_ac, zx_at, zr_seg, zr_t, zr_f, zr_tp, zr_fp, zr_lg, zr_lr, zr_lr0, zr_wi, zr_wr, zr_wn, zr_wl, zr_vo, zr_so, zr_sI, zr_sL, zr_sA, zr_sN, zr_in, zr_rd, zr_wr2, zr_kf, zr_k0, zr_k1, zr_k2, zr_k3, zr_k3n, zr_k10, zr_k11, zr_k12, zr_k13, zr_k13n, zr_ai, zr_af, zr_aw, zr_aL, zr_Lf, zr_Lw, zr_l2, zr_l20, zr_al, zr_an, zr_aq, zr_ag, zr_rfs, zr_rfn, zr_r1, zr_r2, zr_w0, zr_w1, zr_tl, zr_40, zr_41, zr_42, zr_43, d_F_goBackBy_0, d_F_goBackBy_1, fl_F_9, d_F_goBackBy_4, ci_2, d_F_goBackBy_5, zt_5_13, zo_5_13, d_F_goBackBy_8, d_F_goBackBy_9, fl_F_28, d_F_goBackBy_12, d_F_goBackBy_13, d_F_goBackBy_14, d_F_goBackBy_15, zt_15_5, zo_15_5, d_F_goBackBy_18, ci_0, d_F_goBackBy_19, d_F_goBackBy_20, d_F_goBackBy_21, cb_8, d_F_goBackBy_23, d_F_goBackBy_26, d_F_goBackBy_27, ci_m1, d_F_goBackBy_28, fl_F_43, d_F_goBackBy_31, ci_1, d_F_goBackBy_32, za_0, za_i, za_r, za_n, za_l, zu_s, zu_u, Nat.reduceAdd, Nat.reduceLT, Nat.reduceBEq, Nat.zero_add, Bool.false_or, Bool.or_false, Bool.true_or, Bool.or_true, Bool.false_and, Bool.and_false, Bool.true_and, Bool.and_true, true_and, and_true, true_or, or_true, eq_self, Nat.le_refl, List.getElem?_cons_succ, List.getElem?_cons_zero, List.set_cons_succ, List.set_cons_zero, zk_0, zk_1, zk_2, zk_3, zk_4, zq_1, zq_2, Option.isSome_some, Option.getD_some, Option.toList_some, Option.toList_none, List.cons_append, List.nil_append, hM, fA, zc_lt]
  refine ⟨fun hk => Or.inr fun q => hk q.1, fun hk => ⟨fun hd => Or.inl ⟨⟨hk, hd⟩, rfl⟩, fun hd => Or.inr fun q => hd q.2⟩⟩
set_option maxHeartbeats 4000000 in
set_option maxRecDepth 100000 in
/-- Facts.allow -/
theorem c_F_allow (l : Launch) (D : va_G) (dA : Nat → ClassId) (z : Nat) (M : zVw) (h : Nat) (F : Nat → Int32) (kind dev day : Int32) (hM : M h = some (fA F)) : zMet l y_F_allow b_F_allow 4 (some .boolean) 1 20 0 0 D dA z [.ref h, .int kind, .int dev, .int day] M (fun v M' => M' = M ∧ v = some (.int (zb (fAllow F kind dev day)))) := by
  refine z_of 2 false (by decide) (fun h => by first | rfl | cases h) (Nat.le_of_ble_eq_true rfl) trivial ?_
  intro p e s m args below meth c C hR
  have hMu := hM
  unfold fA at hMu
  refine zgo (cut := fun _ => false) 80 C lk_F hR ?_
  simp only [zs_iconst, zs_bipush, zs_iload_n, zs_aload_n, zs_if_eq, zs_if_ne, zs_icmp_ne, zs_icmp_ge, zs_icmp_gt, zs_icmp_le, zs_goto, zs_tsw, zs_get, zs_ireturn, zx_iv, zx_is, zx_it, zx_nw, zx_na, zx_an, zx_cc, zx_gs, zx_as, zx_ae, zx_ac, zx_at, zr_seg, zr_t, zr_f, zr_tp, zr_fp, zr_lg, zr_lr, zr_lr0, zr_wi, zr_wr, zr_wn, zr_wl, zr_vo, zr_so, zr_sI, zr_sL, zr_sA, zr_sN, zr_in, zr_rd, zr_wr2, zr_kf, zr_k0, zr_k1, zr_k2, zr_k3, zr_k3n, zr_k10, zr_k11, zr_k12, zr_k13, zr_k13n, zr_ai, zr_af, zr_aw, zr_aL, zr_Lf, zr_Lw, zr_l2, zr_l20, zr_al, zr_an, zr_aq, zr_ag, zr_rfs, zr_rfn, zr_r1, zr_r2, zr_w0, zr_w1, zr_tl, zr_40, zr_41, zr_42, zr_43, d_F_allow_0, d_F_allow_1, sw_0, sw_1, sw_2, sw_3, sw_4, sw_5, sw_6, Int.reduceAdd, Int.zero_add, zt_1_129, zo_1_129, zt_1_35, zo_1_35, zt_1_49, zo_1_49, zt_1_78, zo_1_78, zt_1_100, zo_1_100, d_F_allow_36, d_F_allow_37, fl_F_9, d_F_allow_40, ci_2, d_F_allow_41, zt_41_7, zo_41_7, d_F_allow_44, ci_1, d_F_allow_45, zt_45_4, zo_45_4, d_F_allow_48, ci_0, d_F_allow_49, d_F_allow_50, d_F_allow_51, d_F_allow_54, zt_54_19, zo_54_19, d_F_allow_57, d_F_allow_58, d_F_allow_61, d_F_allow_62, zt_62_15, zo_62_15, d_F_allow_65, d_F_allow_66, d_F_allow_67, fl_F_25, d_F_allow_70, zt_70_7, zo_70_7, d_F_allow_73, d_F_allow_74, zt_74_4, zo_74_4, d_F_allow_77, d_F_allow_78, d_F_allow_79, d_F_allow_80, d_F_allow_83, cb_7, d_F_allow_85, zt_85_14, zo_85_14, d_F_allow_88, d_F_allow_89, fl_F_18, d_F_allow_92, zt_92_7, zo_92_7, d_F_allow_95, d_F_allow_96, zt_96_4, zo_96_4, d_F_allow_99, d_F_allow_100, d_F_allow_101, d_F_allow_102, d_F_allow_105, zt_105_23, zo_105_23, d_F_allow_108, d_F_allow_109, fl_F_31, d_F_allow_112, d_F_allow_113, zt_113_15, zo_113_15, d_F_allow_116, d_F_allow_117, fl_F_34, d_F_allow_120, d_F_allow_121, zt_121_7, zo_121_7, d_F_allow_124, d_F_allow_125, zt_125_4, zo_125_4, d_F_allow_128, d_F_allow_129, d_F_allow_130, d_F_allow_131, d_F_allow_134, d_F_allow_135, zt_135_7, zo_135_7, d_F_allow_138, d_F_allow_139, zt_139_4, zo_139_4, d_F_allow_142, d_F_allow_143, za_0, za_i, za_r, za_n, za_l, zu_s, zu_u, Nat.reduceAdd, Nat.reduceLT, Nat.reduceBEq, Nat.zero_add, Bool.false_or, Bool.or_false, Bool.true_or, Bool.or_true, Bool.false_and, Bool.and_false, Bool.true_and, Bool.and_true, true_and, and_true, true_or, or_true, eq_self, Nat.le_refl, List.getElem?_cons_succ, List.getElem?_cons_zero, List.set_cons_succ, List.set_cons_zero, zk_0, zk_1, zk_2, zk_3, zk_4, zq_1, zq_2, Option.isSome_some, Option.getD_some, Option.toList_some, Option.toList_none, List.cons_append, List.nil_append, hMu]
  refine ⟨?_, ?_, ?_, ?_, ?_, fun hk => ?_⟩
  · clear C hR; (repeat' first | apply And.intro | intro _) <;> first | (rw [zb_t (by (simp only [Int32.lt_iff_toInt_lt, Int32.le_iff_toInt_le, ← Int32.toInt_inj, Int32.reduceToInt, fAllow] at *; omega))]; done) | (rw [zb_f (by (simp only [Int32.lt_iff_toInt_lt, Int32.le_iff_toInt_le, ← Int32.toInt_inj, Int32.reduceToInt, fAllow] at *; omega))]; done)
  · clear C hR; (repeat' first | apply And.intro | intro _) <;> first | (rw [zb_t (by (simp only [Int32.lt_iff_toInt_lt, Int32.le_iff_toInt_le, ← Int32.toInt_inj, Int32.reduceToInt, fAllow] at *; omega))]; done) | (rw [zb_f (by (simp only [Int32.lt_iff_toInt_lt, Int32.le_iff_toInt_le, ← Int32.toInt_inj, Int32.reduceToInt, fAllow] at *; omega))]; done)
  · clear C hR; (repeat' first | apply And.intro | intro _) <;> first | (rw [zb_t (by (simp only [Int32.lt_iff_toInt_lt, Int32.le_iff_toInt_le, ← Int32.toInt_inj, Int32.reduceToInt, fAllow] at *; omega))]; done) | (rw [zb_f (by (simp only [Int32.lt_iff_toInt_lt, Int32.le_iff_toInt_le, ← Int32.toInt_inj, Int32.reduceToInt, fAllow] at *; omega))]; done)
  · clear C hR; (repeat' first | apply And.intro | intro _) <;> first | (rw [zb_t (by (simp only [Int32.lt_iff_toInt_lt, Int32.le_iff_toInt_le, ← Int32.toInt_inj, Int32.reduceToInt, fAllow] at *; omega))]; done) | (rw [zb_f (by (simp only [Int32.lt_iff_toInt_lt, Int32.le_iff_toInt_le, ← Int32.toInt_inj, Int32.reduceToInt, fAllow] at *; omega))]; done)
  · clear C hR; (repeat' first | apply And.intro | intro _) <;> first | (rw [zb_t (by (simp only [Int32.lt_iff_toInt_lt, Int32.le_iff_toInt_le, ← Int32.toInt_inj, Int32.reduceToInt, fAllow] at *; omega))]; done) | (rw [zb_f (by (simp only [Int32.lt_iff_toInt_lt, Int32.le_iff_toInt_le, ← Int32.toInt_inj, Int32.reduceToInt, fAllow] at *; omega))]; done)
  refine zJ_callV (As := []) (rest := []) C d_F_allow_102 (c_F_isHandedOver l D dA z M h F hM) k_F_46 n_F_isHandedOver v_F_isHandedOver hM rfl rfl ⟨by decide, by decide⟩ ⟨by decide, by decide⟩ rfl (by decide) ?_
  rintro v M' ⟨rfl, rfl⟩
  refine zgo (cut := fun _ => false) 80 C lk_F hR ?_
  simp only [zs_iconst, zs_bipush, zs_iload_n, zs_aload_n, zs_if_eq, zs_if_ne, zs_icmp_ne, zs_icmp_ge, zs_icmp_gt, zs_icmp_le, zs_goto, zs_tsw, zs_get, zs_ireturn, zx_iv, zx_is, zx_it, zx_nw, zx_na, zx_an, zx_cc, zx_gs, zx_as, zx_ae, zx_ac, zx_at, zr_seg, zr_t, zr_f, zr_tp, zr_fp, zr_lg, zr_lr, zr_lr0, zr_wi, zr_wr, zr_wn, zr_wl, zr_vo, zr_so, zr_sI, zr_sL, zr_sA, zr_sN, zr_in, zr_rd, zr_wr2, zr_kf, zr_k0, zr_k1, zr_k2, zr_k3, zr_k3n, zr_k10, zr_k11, zr_k12, zr_k13, zr_k13n, zr_ai, zr_af, zr_aw, zr_aL, zr_Lf, zr_Lw, zr_l2, zr_l20, zr_al, zr_an, zr_aq, zr_ag, zr_rfs, zr_rfn, zr_r1, zr_r2, zr_w0, zr_w1, zr_tl, zr_40, zr_41, zr_42, zr_43, d_F_allow_0, d_F_allow_1, sw_0, sw_1, sw_2, sw_3, sw_4, sw_5, sw_6, Int.reduceAdd, Int.zero_add, zt_1_129, zo_1_129, zt_1_35, zo_1_35, zt_1_49, zo_1_49, zt_1_78, zo_1_78, zt_1_100, zo_1_100, d_F_allow_36, d_F_allow_37, fl_F_9, d_F_allow_40, ci_2, d_F_allow_41, zt_41_7, zo_41_7, d_F_allow_44, ci_1, d_F_allow_45, zt_45_4, zo_45_4, d_F_allow_48, ci_0, d_F_allow_49, d_F_allow_50, d_F_allow_51, d_F_allow_54, zt_54_19, zo_54_19, d_F_allow_57, d_F_allow_58, d_F_allow_61, d_F_allow_62, zt_62_15, zo_62_15, d_F_allow_65, d_F_allow_66, d_F_allow_67, fl_F_25, d_F_allow_70, zt_70_7, zo_70_7, d_F_allow_73, d_F_allow_74, zt_74_4, zo_74_4, d_F_allow_77, d_F_allow_78, d_F_allow_79, d_F_allow_80, d_F_allow_83, cb_7, d_F_allow_85, zt_85_14, zo_85_14, d_F_allow_88, d_F_allow_89, fl_F_18, d_F_allow_92, zt_92_7, zo_92_7, d_F_allow_95, d_F_allow_96, zt_96_4, zo_96_4, d_F_allow_99, d_F_allow_100, d_F_allow_101, d_F_allow_102, d_F_allow_105, zt_105_23, zo_105_23, d_F_allow_108, d_F_allow_109, fl_F_31, d_F_allow_112, d_F_allow_113, zt_113_15, zo_113_15, d_F_allow_116, d_F_allow_117, fl_F_34, d_F_allow_120, d_F_allow_121, zt_121_7, zo_121_7, d_F_allow_124, d_F_allow_125, zt_125_4, zo_125_4, d_F_allow_128, d_F_allow_129, d_F_allow_130, d_F_allow_131, d_F_allow_134, d_F_allow_135, zt_135_7, zo_135_7, d_F_allow_138, d_F_allow_139, zt_139_4, zo_139_4, d_F_allow_142, d_F_allow_143, za_0, za_i, za_r, za_n, za_l, zu_s, zu_u, Nat.reduceAdd, Nat.reduceLT, Nat.reduceBEq, Nat.zero_add, Bool.false_or, Bool.or_false, Bool.true_or, Bool.or_true, Bool.false_and, Bool.and_false, Bool.true_and, Bool.and_true, true_and, and_true, true_or, or_true, eq_self, Nat.le_refl, List.getElem?_cons_succ, List.getElem?_cons_zero, List.set_cons_succ, List.set_cons_zero, zk_0, zk_1, zk_2, zk_3, zk_4, zq_1, zq_2, Option.isSome_some, Option.getD_some, Option.toList_some, Option.toList_none, List.cons_append, List.nil_append, hMu, zb_e0]
  clear C hR
  (repeat' first | apply And.intro | intro _) <;> first | (rw [zb_t (by (simp only [Int32.lt_iff_toInt_lt, Int32.le_iff_toInt_le, ← Int32.toInt_inj, Int32.reduceToInt, fAllow] at *; omega))]; done) | (rw [zb_f (by (simp only [Int32.lt_iff_toInt_lt, Int32.le_iff_toInt_le, ← Int32.toInt_inj, Int32.reduceToInt, fAllow] at *; omega))]; done)
set_option maxHeartbeats 4000000 in
set_option maxRecDepth 100000 in
/-- Facts.change -/
theorem c_F_change (l : Launch) (D : va_G) (dA : Nat → ClassId) (z : Nat) (M : zVw) (h a it : Nat) (F A : Nat → Int32) (hM : M h = some (fA F)) (hA : M a = some (aA it A)) : zMet l y_F_change b_F_change 2 none 1 21 0 0 D dA z [.ref h, .ref a] M (fun v M' => v = none ∧ M' = zu M h (fA (fChange F A))) := by
  have hne := fA_aA hM hA
  refine z_of 0 false (by decide) (fun h => by first | rfl | cases h) (Nat.le_of_ble_eq_true rfl) trivial ?_
  intro p e s m args below meth c C hR
  have hMu := hM
  have hAu := hA
  unfold fA at hMu
  unfold aA at hAu
  refine zgo (cut := fun _ => false) 80 C lk_F hR ?_
  simp only [zs_iconst, zs_bipush, zs_aload_n, zs_goto, zs_tsw, zs_get, zs_put, zs_return, zx_iv, zx_is, zx_it, zx_nw, zx_na, zx_an, zx_cc, zx_gs, zx_as, zx_ae, zx_ac, zx_at, zr_seg, zr_t, zr_f, zr_tp, zr_fp, zr_lg, zr_lr, zr_lr0, zr_wi, zr_wr, zr_wn, zr_wl, zr_vo, zr_so, zr_sI, zr_sL, zr_sA, zr_sN, zr_in, zr_rd, zr_wr2, zr_kf, zr_k0, zr_k1, zr_k2, zr_k3, zr_k3n, zr_k10, zr_k11, zr_k12, zr_k13, zr_k13n, zr_ai, zr_af, zr_aw, zr_aL, zr_Lf, zr_Lw, zr_l2, zr_l20, zr_al, zr_an, zr_aq, zr_ag, zr_rfs, zr_rfn, zr_r1, zr_r2, zr_w0, zr_w1, zr_tl, zr_40, zr_41, zr_42, zr_43, d_F_change_0, d_F_change_1, d_F_change_2, fl_F_50, d_F_change_5, fl_F_43, d_F_change_8, d_F_change_9, fl_F_55, d_F_change_12, sw_0, sw_1, sw_2, sw_3, sw_4, sw_5, sw_6, Int.reduceAdd, Int.zero_add, zt_12_76, zo_12_76, zt_12_32, zo_12_32, zt_12_43, zo_12_43, zt_12_52, zo_12_52, zt_12_60, zo_12_60, d_F_change_44, d_F_change_45, d_F_change_46, fl_F_58, d_F_change_49, d_F_change_52, zt_52_41, zo_52_41, d_F_change_55, d_F_change_56, cb_7, d_F_change_58, fl_F_9, d_F_change_61, zt_61_32, zo_61_32, d_F_change_64, d_F_change_65, ci_1, d_F_change_66, fl_F_18, d_F_change_69, zt_69_24, zo_69_24, d_F_change_72, d_F_change_73, d_F_change_74, fl_F_15, d_F_change_77, d_F_change_80, d_F_change_81, ci_0, d_F_change_82, fl_F_40, d_F_change_85, zt_85_8, zo_85_8, d_F_change_88, d_F_change_89, d_F_change_90, d_F_change_93, za_0, za_i, za_r, za_n, za_l, zu_s, zu_u, Nat.reduceAdd, Nat.reduceLT, Nat.reduceBEq, Nat.zero_add, Bool.false_or, Bool.or_false, Bool.true_or, Bool.or_true, Bool.false_and, Bool.and_false, Bool.true_and, Bool.and_true, true_and, and_true, true_or, or_true, eq_self, Nat.le_refl, List.getElem?_cons_succ, List.getElem?_cons_zero, List.set_cons_succ, List.set_cons_zero, zk_0, zk_1, zk_2, zk_3, zk_4, zq_1, zq_2, Option.isSome_some, Option.getD_some, Option.toList_some, Option.toList_none, List.cons_append, List.nil_append, hMu, hAu, zu_n hne]
  refine ⟨fun hk => ?_, fun hk => ?_, fun hk => ?_, fun hk => ?_, fun hk => ?_⟩
  · have e1 : ¬ A 2 = 1 := by clear hR C; (simp only [Int32.lt_iff_toInt_lt, Int32.le_iff_toInt_le, ← Int32.toInt_inj, Int32.reduceToInt] at *; omega)
    have e2 : ¬ A 2 = 2 := by clear hR C; (simp only [Int32.lt_iff_toInt_lt, Int32.le_iff_toInt_le, ← Int32.toInt_inj, Int32.reduceToInt] at *; omega)
    have e3 : ¬ A 2 = 3 := by clear hR C; (simp only [Int32.lt_iff_toInt_lt, Int32.le_iff_toInt_le, ← Int32.toInt_inj, Int32.reduceToInt] at *; omega)
    have e4 : ¬ A 2 = 4 := by clear hR C; (simp only [Int32.lt_iff_toInt_lt, Int32.le_iff_toInt_le, ← Int32.toInt_inj, Int32.reduceToInt] at *; omega)
    refine zJ_callV (As := [.ref a]) (rest := []) C d_F_change_90 (c_F_handOver l D dA z (zu M h (fA (upd F 10 (A 1)))) h a it (upd F 10 (A 1)) A (zu_s _ _ _) (by rw [zu_n hne]; exact hA)) k_F_65 n_F_handOver v_F_handOver (zu_s _ _ _) rfl rfl ⟨by decide, by decide⟩ ⟨by decide, by decide⟩ rfl (by decide) ?_
    rintro v M' ⟨rfl, rfl⟩
    refine zgo (cut := fun _ => false) 80 C lk_F hR ?_
    simp only [zs_iconst, zs_bipush, zs_aload_n, zs_goto, zs_tsw, zs_get, zs_put, zs_return, zx_iv, zx_is, zx_it, zx_nw, zx_na, zx_an, zx_cc, zx_gs, zx_as, zx_ae, zx_ac, zx_at, zr_seg, zr_t, zr_f, zr_tp, zr_fp, zr_lg, zr_lr, zr_lr0, zr_wi, zr_wr, zr_wn, zr_wl, zr_vo, zr_so, zr_sI, zr_sL, zr_sA, zr_sN, zr_in, zr_rd, zr_wr2, zr_kf, zr_k0, zr_k1, zr_k2, zr_k3, zr_k3n, zr_k10, zr_k11, zr_k12, zr_k13, zr_k13n, zr_ai, zr_af, zr_aw, zr_aL, zr_Lf, zr_Lw, zr_l2, zr_l20, zr_al, zr_an, zr_aq, zr_ag, zr_rfs, zr_rfn, zr_r1, zr_r2, zr_w0, zr_w1, zr_tl, zr_40, zr_41, zr_42, zr_43, d_F_change_0, d_F_change_1, d_F_change_2, fl_F_50, d_F_change_5, fl_F_43, d_F_change_8, d_F_change_9, fl_F_55, d_F_change_12, sw_0, sw_1, sw_2, sw_3, sw_4, sw_5, sw_6, Int.reduceAdd, Int.zero_add, zt_12_76, zo_12_76, zt_12_32, zo_12_32, zt_12_43, zo_12_43, zt_12_52, zo_12_52, zt_12_60, zo_12_60, d_F_change_44, d_F_change_45, d_F_change_46, fl_F_58, d_F_change_49, d_F_change_52, zt_52_41, zo_52_41, d_F_change_55, d_F_change_56, cb_7, d_F_change_58, fl_F_9, d_F_change_61, zt_61_32, zo_61_32, d_F_change_64, d_F_change_65, ci_1, d_F_change_66, fl_F_18, d_F_change_69, zt_69_24, zo_69_24, d_F_change_72, d_F_change_73, d_F_change_74, fl_F_15, d_F_change_77, d_F_change_80, d_F_change_81, ci_0, d_F_change_82, fl_F_40, d_F_change_85, zt_85_8, zo_85_8, d_F_change_88, d_F_change_89, d_F_change_90, d_F_change_93, za_0, za_i, za_r, za_n, za_l, zu_s, zu_u, Nat.reduceAdd, Nat.reduceLT, Nat.reduceBEq, Nat.zero_add, Bool.false_or, Bool.or_false, Bool.true_or, Bool.or_true, Bool.false_and, Bool.and_false, Bool.true_and, Bool.and_true, true_and, and_true, true_or, or_true, eq_self, Nat.le_refl, List.getElem?_cons_succ, List.getElem?_cons_zero, List.set_cons_succ, List.set_cons_zero, zk_0, zk_1, zk_2, zk_3, zk_4, zq_1, zq_2, Option.isSome_some, Option.getD_some, Option.toList_some, Option.toList_none, List.cons_append, List.nil_append]
    unfold fChange
    rw [if_neg e1, if_neg e2, if_neg e3, if_neg e4]
  · have e1 : A 2 = 1 := by clear hR C; (simp only [Int32.lt_iff_toInt_lt, Int32.le_iff_toInt_le, ← Int32.toInt_inj, Int32.reduceToInt] at *; omega)
    refine zJ_callV (As := [.int (A 5)]) (rest := []) C d_F_change_49 (c_F_leaveCard l D dA z (zu M h (fA (upd F 10 (A 1)))) h (upd F 10 (A 1)) (A 5) (zu_s _ _ _)) k_F_61 n_F_leaveCard v_F_leaveCard (zu_s _ _ _) rfl rfl ⟨by decide, by decide⟩ ⟨by decide, by decide⟩ rfl (by decide) ?_
    rintro v M' ⟨rfl, rfl⟩
    refine zgo (cut := fun _ => false) 80 C lk_F hR ?_
    simp only [zs_iconst, zs_bipush, zs_aload_n, zs_goto, zs_tsw, zs_get, zs_put, zs_return, zx_iv, zx_is, zx_it, zx_nw, zx_na, zx_an, zx_cc, zx_gs, zx_as, zx_ae, zx_ac, zx_at, zr_seg, zr_t, zr_f, zr_tp, zr_fp, zr_lg, zr_lr, zr_lr0, zr_wi, zr_wr, zr_wn, zr_wl, zr_vo, zr_so, zr_sI, zr_sL, zr_sA, zr_sN, zr_in, zr_rd, zr_wr2, zr_kf, zr_k0, zr_k1, zr_k2, zr_k3, zr_k3n, zr_k10, zr_k11, zr_k12, zr_k13, zr_k13n, zr_ai, zr_af, zr_aw, zr_aL, zr_Lf, zr_Lw, zr_l2, zr_l20, zr_al, zr_an, zr_aq, zr_ag, zr_rfs, zr_rfn, zr_r1, zr_r2, zr_w0, zr_w1, zr_tl, zr_40, zr_41, zr_42, zr_43, d_F_change_0, d_F_change_1, d_F_change_2, fl_F_50, d_F_change_5, fl_F_43, d_F_change_8, d_F_change_9, fl_F_55, d_F_change_12, sw_0, sw_1, sw_2, sw_3, sw_4, sw_5, sw_6, Int.reduceAdd, Int.zero_add, zt_12_76, zo_12_76, zt_12_32, zo_12_32, zt_12_43, zo_12_43, zt_12_52, zo_12_52, zt_12_60, zo_12_60, d_F_change_44, d_F_change_45, d_F_change_46, fl_F_58, d_F_change_49, d_F_change_52, zt_52_41, zo_52_41, d_F_change_55, d_F_change_56, cb_7, d_F_change_58, fl_F_9, d_F_change_61, zt_61_32, zo_61_32, d_F_change_64, d_F_change_65, ci_1, d_F_change_66, fl_F_18, d_F_change_69, zt_69_24, zo_69_24, d_F_change_72, d_F_change_73, d_F_change_74, fl_F_15, d_F_change_77, d_F_change_80, d_F_change_81, ci_0, d_F_change_82, fl_F_40, d_F_change_85, zt_85_8, zo_85_8, d_F_change_88, d_F_change_89, d_F_change_90, d_F_change_93, za_0, za_i, za_r, za_n, za_l, zu_s, zu_u, Nat.reduceAdd, Nat.reduceLT, Nat.reduceBEq, Nat.zero_add, Bool.false_or, Bool.or_false, Bool.true_or, Bool.or_true, Bool.false_and, Bool.and_false, Bool.true_and, Bool.and_true, true_and, and_true, true_or, or_true, eq_self, Nat.le_refl, List.getElem?_cons_succ, List.getElem?_cons_zero, List.set_cons_succ, List.set_cons_zero, zk_0, zk_1, zk_2, zk_3, zk_4, zq_1, zq_2, Option.isSome_some, Option.getD_some, Option.toList_some, Option.toList_none, List.cons_append, List.nil_append]
    unfold fChange
    rw [if_pos e1]
  · have e1 : ¬ A 2 = 1 := by clear hR C; (simp only [Int32.lt_iff_toInt_lt, Int32.le_iff_toInt_le, ← Int32.toInt_inj, Int32.reduceToInt] at *; omega)
    have e2 : A 2 = 2 := by clear hR C; (simp only [Int32.lt_iff_toInt_lt, Int32.le_iff_toInt_le, ← Int32.toInt_inj, Int32.reduceToInt] at *; omega)
    unfold fChange
    rw [if_neg e1, if_pos e2]
    rfl
  · have e1 : ¬ A 2 = 1 := by clear hR C; (simp only [Int32.lt_iff_toInt_lt, Int32.le_iff_toInt_le, ← Int32.toInt_inj, Int32.reduceToInt] at *; omega)
    have e2 : ¬ A 2 = 2 := by clear hR C; (simp only [Int32.lt_iff_toInt_lt, Int32.le_iff_toInt_le, ← Int32.toInt_inj, Int32.reduceToInt] at *; omega)
    have e3 : A 2 = 3 := by clear hR C; (simp only [Int32.lt_iff_toInt_lt, Int32.le_iff_toInt_le, ← Int32.toInt_inj, Int32.reduceToInt] at *; omega)
    unfold fChange
    rw [if_neg e1, if_neg e2, if_pos e3]
    rfl
  · have e1 : ¬ A 2 = 1 := by clear hR C; (simp only [Int32.lt_iff_toInt_lt, Int32.le_iff_toInt_le, ← Int32.toInt_inj, Int32.reduceToInt] at *; omega)
    have e2 : ¬ A 2 = 2 := by clear hR C; (simp only [Int32.lt_iff_toInt_lt, Int32.le_iff_toInt_le, ← Int32.toInt_inj, Int32.reduceToInt] at *; omega)
    have e3 : ¬ A 2 = 3 := by clear hR C; (simp only [Int32.lt_iff_toInt_lt, Int32.le_iff_toInt_le, ← Int32.toInt_inj, Int32.reduceToInt] at *; omega)
    have e4 : A 2 = 4 := by clear hR C; (simp only [Int32.lt_iff_toInt_lt, Int32.le_iff_toInt_le, ← Int32.toInt_inj, Int32.reduceToInt] at *; omega)
    unfold fChange
    rw [if_neg e1, if_neg e2, if_neg e3, if_pos e4]
    rfl
set_option maxHeartbeats 4000000 in
set_option maxRecDepth 100000 in
/-- new Act(..) -/
theorem c_A_init (l : Launch) (D : va_G) (dA : Nat → ClassId) (z : Nat) (M : zVw) (h it : Nat) (dev kind who out day : Int32) (hM : M h = some (.inr (1, [.null, .int 0, .int 0, .int 0, .int 0, .int 0]))) : zMet l y_A_init b_A_init 7 none 1 40 0 0 D dA z [.ref h, .ref it, .int dev, .int kind, .int who, .int out, .int day] M (fun v M' => v = none ∧ M' = zu M h (.inr (1, [.ref it, .int dev, .int kind, .int who, .int out, .int day]))) := by
  refine z_of 0 true (by decide) (fun h => by first | rfl | cases h) (Nat.le_of_ble_eq_true rfl) trivial ?_
  intro p e s m args below meth c C hR
  refine zgo (cut := fun _ => false) 60 C lk_A hR ?_
  simp only [zs_iload_n, zs_iload, zs_aload_n, zs_put, zs_return, zx_iv, zx_is, zx_it, zx_nw, zx_na, zx_an, zx_cc, zx_gs, zx_as, zx_ae, zx_ac, zx_at, zr_seg, zr_t, zr_f, zr_tp, zr_fp, zr_lg, zr_lr, zr_lr0, zr_wi, zr_wr, zr_wn, zr_wl, zr_vo, zr_so, zr_sI, zr_sL, zr_sA, zr_sN, zr_in, zr_rd, zr_wr2, zr_kf, zr_k0, zr_k1, zr_k2, zr_k3, zr_k3n, zr_k10, zr_k11, zr_k12, zr_k13, zr_k13n, zr_ai, zr_af, zr_aw, zr_aL, zr_Lf, zr_Lw, zr_l2, zr_l20, zr_al, zr_an, zr_aq, zr_ag, zr_rfs, zr_rfn, zr_r1, zr_r2, zr_w0, zr_w1, zr_tl, zr_40, zr_41, zr_42, zr_43, d_A_init_0, d_A_init_1, d_A_init_4, d_A_init_5, d_A_init_6, fl_A_7, d_A_init_9, d_A_init_10, d_A_init_11, fl_A_13, d_A_init_14, d_A_init_15, d_A_init_16, fl_A_17, d_A_init_19, d_A_init_20, d_A_init_22, fl_A_20, d_A_init_25, d_A_init_26, d_A_init_28, fl_A_23, d_A_init_31, d_A_init_32, d_A_init_34, fl_A_26, d_A_init_37, za_0, za_i, za_r, za_n, za_l, zu_s, zu_u, Nat.reduceAdd, Nat.reduceLT, Nat.reduceBEq, Nat.zero_add, Bool.false_or, Bool.or_false, Bool.true_or, Bool.or_true, Bool.false_and, Bool.and_false, Bool.true_and, Bool.and_true, true_and, and_true, true_or, or_true, eq_self, Nat.le_refl, List.getElem?_cons_succ, List.getElem?_cons_zero, List.set_cons_succ, List.set_cons_zero, zk_0, zk_1, zk_2, zk_3, zk_4, zq_1, zq_2, Option.isSome_some, Option.getD_some, Option.toList_some, Option.toList_none, List.cons_append, List.nil_append, hM]
  refine zJ_obj C d_A_init_1 (by decide +kernel) oi_i oi_c (by decide) (by decide) ?_
  refine zgo (cut := fun _ => false) 80 C lk_A hR ?_
  simp only [zs_iload_n, zs_iload, zs_aload_n, zs_put, zs_return, zx_iv, zx_is, zx_it, zx_nw, zx_na, zx_an, zx_cc, zx_gs, zx_as, zx_ae, zx_ac, zx_at, zr_seg, zr_t, zr_f, zr_tp, zr_fp, zr_lg, zr_lr, zr_lr0, zr_wi, zr_wr, zr_wn, zr_wl, zr_vo, zr_so, zr_sI, zr_sL, zr_sA, zr_sN, zr_in, zr_rd, zr_wr2, zr_kf, zr_k0, zr_k1, zr_k2, zr_k3, zr_k3n, zr_k10, zr_k11, zr_k12, zr_k13, zr_k13n, zr_ai, zr_af, zr_aw, zr_aL, zr_Lf, zr_Lw, zr_l2, zr_l20, zr_al, zr_an, zr_aq, zr_ag, zr_rfs, zr_rfn, zr_r1, zr_r2, zr_w0, zr_w1, zr_tl, zr_40, zr_41, zr_42, zr_43, d_A_init_0, d_A_init_1, d_A_init_4, d_A_init_5, d_A_init_6, fl_A_7, d_A_init_9, d_A_init_10, d_A_init_11, fl_A_13, d_A_init_14, d_A_init_15, d_A_init_16, fl_A_17, d_A_init_19, d_A_init_20, d_A_init_22, fl_A_20, d_A_init_25, d_A_init_26, d_A_init_28, fl_A_23, d_A_init_31, d_A_init_32, d_A_init_34, fl_A_26, d_A_init_37, za_0, za_i, za_r, za_n, za_l, zu_s, zu_u, Nat.reduceAdd, Nat.reduceLT, Nat.reduceBEq, Nat.zero_add, Bool.false_or, Bool.or_false, Bool.true_or, Bool.or_true, Bool.false_and, Bool.and_false, Bool.true_and, Bool.and_true, true_and, and_true, true_or, or_true, eq_self, Nat.le_refl, List.getElem?_cons_succ, List.getElem?_cons_zero, List.set_cons_succ, List.set_cons_zero, zk_0, zk_1, zk_2, zk_3, zk_4, zq_1, zq_2, Option.isSome_some, Option.getD_some, Option.toList_some, Option.toList_none, List.cons_append, List.nil_append, hM]
set_option maxHeartbeats 4000000 in
set_option maxRecDepth 100000 in
/-- new Clash(..) -/
theorem c_C_init (l : Launch) (D : va_G) (dA : Nat → ClassId) (z : Nat) (M : zVw) (h : Nat) (a b c0 : Int32) (hM : M h = some (.inr (2, [.int 0, .int 0, .int 0]))) : zMet l y_C_init b_C_init 4 none 1 40 0 0 D dA z [.ref h, .int a, .int b, .int c0] M (fun v M' => v = none ∧ M' = zu M h (.inr (2, [.int a, .int b, .int c0]))) := by
  refine z_of 0 true (by decide) (fun h => by first | rfl | cases h) (Nat.le_of_ble_eq_true rfl) trivial ?_
  intro p e s m args below meth c C hR
  refine zgo (cut := fun _ => false) 60 C lk_C hR ?_
  simp only [zs_iload_n, zs_aload_n, zs_put, zs_return, zx_iv, zx_is, zx_it, zx_nw, zx_na, zx_an, zx_cc, zx_gs, zx_as, zx_ae, zx_ac, zx_at, zr_seg, zr_t, zr_f, zr_tp, zr_fp, zr_lg, zr_lr, zr_lr0, zr_wi, zr_wr, zr_wn, zr_wl, zr_vo, zr_so, zr_sI, zr_sL, zr_sA, zr_sN, zr_in, zr_rd, zr_wr2, zr_kf, zr_k0, zr_k1, zr_k2, zr_k3, zr_k3n, zr_k10, zr_k11, zr_k12, zr_k13, zr_k13n, zr_ai, zr_af, zr_aw, zr_aL, zr_Lf, zr_Lw, zr_l2, zr_l20, zr_al, zr_an, zr_aq, zr_ag, zr_rfs, zr_rfn, zr_r1, zr_r2, zr_w0, zr_w1, zr_tl, zr_40, zr_41, zr_42, zr_43, d_C_init_0, d_C_init_1, d_C_init_4, d_C_init_5, d_C_init_6, fl_C_7, d_C_init_9, d_C_init_10, d_C_init_11, fl_C_13, d_C_init_14, d_C_init_15, d_C_init_16, fl_C_16, d_C_init_19, za_0, za_i, za_r, za_n, za_l, zu_s, zu_u, Nat.reduceAdd, Nat.reduceLT, Nat.reduceBEq, Nat.zero_add, Bool.false_or, Bool.or_false, Bool.true_or, Bool.or_true, Bool.false_and, Bool.and_false, Bool.true_and, Bool.and_true, true_and, and_true, true_or, or_true, eq_self, Nat.le_refl, List.getElem?_cons_succ, List.getElem?_cons_zero, List.set_cons_succ, List.set_cons_zero, zk_0, zk_1, zk_2, zk_3, zk_4, zq_1, zq_2, Option.isSome_some, Option.getD_some, Option.toList_some, Option.toList_none, List.cons_append, List.nil_append, hM]
  refine zJ_obj C d_C_init_1 (by decide +kernel) oi_i oi_c (by decide) (by decide) ?_
  refine zgo (cut := fun _ => false) 80 C lk_C hR ?_
  simp only [zs_iload_n, zs_aload_n, zs_put, zs_return, zx_iv, zx_is, zx_it, zx_nw, zx_na, zx_an, zx_cc, zx_gs, zx_as, zx_ae, zx_ac, zx_at, zr_seg, zr_t, zr_f, zr_tp, zr_fp, zr_lg, zr_lr, zr_lr0, zr_wi, zr_wr, zr_wn, zr_wl, zr_vo, zr_so, zr_sI, zr_sL, zr_sA, zr_sN, zr_in, zr_rd, zr_wr2, zr_kf, zr_k0, zr_k1, zr_k2, zr_k3, zr_k3n, zr_k10, zr_k11, zr_k12, zr_k13, zr_k13n, zr_ai, zr_af, zr_aw, zr_aL, zr_Lf, zr_Lw, zr_l2, zr_l20, zr_al, zr_an, zr_aq, zr_ag, zr_rfs, zr_rfn, zr_r1, zr_r2, zr_w0, zr_w1, zr_tl, zr_40, zr_41, zr_42, zr_43, d_C_init_0, d_C_init_1, d_C_init_4, d_C_init_5, d_C_init_6, fl_C_7, d_C_init_9, d_C_init_10, d_C_init_11, fl_C_13, d_C_init_14, d_C_init_15, d_C_init_16, fl_C_16, d_C_init_19, za_0, za_i, za_r, za_n, za_l, zu_s, zu_u, Nat.reduceAdd, Nat.reduceLT, Nat.reduceBEq, Nat.zero_add, Bool.false_or, Bool.or_false, Bool.true_or, Bool.or_true, Bool.false_and, Bool.and_false, Bool.true_and, Bool.and_true, true_and, and_true, true_or, or_true, eq_self, Nat.le_refl, List.getElem?_cons_succ, List.getElem?_cons_zero, List.set_cons_succ, List.set_cons_zero, zk_0, zk_1, zk_2, zk_3, zk_4, zq_1, zq_2, Option.isSome_some, Option.getD_some, Option.toList_some, Option.toList_none, List.cons_append, List.nil_append, hM]
end
section
/-! ROWS for the library's own code: the empty array, class objects, arraycopy, references compared. -/
section ZJDK
variable {p : Program} {l : Launch} {e : Env} {R : Room} {s : State} {m : MethodId} {args : Array Value} {below : List Frame} {meth : Method} {c : Code} {Q : State → Prop} {own : String} {cc : ByteArray} {nL z : Nat} {D : va_G} {dA : Nat → ClassId} {ini : Bool} {pc k n x : Nat} {loc : List (Nat × Value)} {M : zVw} {rest : List Value}
theorem zJ_alen0 (C : zC p s m args meth c own cc nL z D dA ini) (hd : decode cc pc = .ok (.arraylength, 1)) (kk : zJ p l e R s m args below meth c Q nL z D (pc + 1) loc (.int 0 :: rest) M k n) : zJ p l e R s m args below meth c Q nL z D pc loc (.ref (dA 100) :: rest) M k n := by
  intro H locs ls hv hz hS hl
  exact va_tlen C.1 C.2.1 C.2.2.2.2.2.2.2.2.2.2.1 hS (by decide) hd (kk H locs ls hv hz hS hl)
theorem zJ_gs (C : zC p s m args meth c own cc nL z D dA ini) (hd : decode cc pc = .ok (.getstatic x, 3)) (hw : Cond.fieldLink own x "java/util/ArrayList" "DEFAULTCAPACITY_EMPTY_ELEMENTDATA" "[Ljava/lang/Object;" ∈ tb) (kk : zJ p l e R s m args below meth c Q nL z D (pc + 3) loc (.ref (dA 100) :: rest) M k n) : zJ p l e R s m args below meth c Q nL z D pc loc rest M k n := by
  intro H locs ls hv hz hS hl
  exact va_gets C.1 C.2.1 C.2.2.2.2.2.2.2.2.2.1 hS C.2.2.2.1 (C.2.2.2.2.1 _ hw) (fun _ h => h) hd (kk H locs ls hv hz hS hl)
theorem zJ_acE {a b : Nat} {off : Int} (C : zC p s m args meth c own cc nL z D dA ini) (hd : decode cc pc = .ok (.if_acmp .eq off, 3)) (ho : zo pc off) (kt : a = b → zJ p l e R s m args below meth c Q nL z D (zt pc off) loc rest M k n) (kf : ¬ a = b → zJ p l e R s m args below meth c Q nL z D (pc + 3) loc rest M k n) : zJ p l e R s m args below meth c Q nL z D pc loc (.ref b :: .ref a :: rest) M k n := by
  intro H locs ls hv hz hS hl
  exact lv_acmp_eq (rx := some a) (ry := some b) C.1 C.2.1 hd (zt_ok ho) (fun h => kt (Option.some.inj h) H locs ls hv hz hS hl) (fun h => kf (fun q => h (by rw [q])) H locs ls hv hz hS hl)
theorem zJ_acN {a b : Nat} {off : Int} (C : zC p s m args meth c own cc nL z D dA ini) (hd : decode cc pc = .ok (.if_acmp .ne off, 3)) (ho : zo pc off) (kt : ¬ a = b → zJ p l e R s m args below meth c Q nL z D (zt pc off) loc rest M k n) (kf : a = b → zJ p l e R s m args below meth c Q nL z D (pc + 3) loc rest M k n) : zJ p l e R s m args below meth c Q nL z D pc loc (.ref b :: .ref a :: rest) M k n := by
  intro H locs ls hv hz hS hl
  exact lv_acmp_ne (rx := some a) (ry := some b) C.1 C.2.1 hd (zt_ok ho) (fun h => kt (fun q => h (by rw [q])) H locs ls hv hz hS hl) (fun h => kf (Option.some.inj h) H locs ls hv hz hS hl)
theorem zJ_ldM (C : zC p s m args meth c own cc nL z D dA ini) (hd : decode cc pc = .ok (.ldc x, 2)) (hw : Cond.classLink own x "[Ljava/lang/Object;" ∈ tb) (kk : zJ p l e R s m args below meth c Q nL z D (pc + 2) loc (.ref (dA 101) :: rest) M k n) : zJ p l e R s m args below meth c Q nL z D pc loc rest M k n := by
  intro H locs ls hv hz hS hl
  exact va_ldcM C.1 C.2.1 C.2.2.2.1 (C.2.2.2.2.1 _ hw) C.2.2.2.2.2.2.2.2.2.2.2.1 hd (kk H locs ls hv hz hS hl)
theorem zJ_gC {a nn : Nat} {g : Nat → Option Nat} (C : zC p s m args meth c own cc nL z D dA ini) (hd : decode cc pc = .ok (.invokevirtual x, 3)) (hw : Cond.methodLink own x ⟨"java/lang/Object", "getClass", "()Ljava/lang/Class;"⟩ ∈ tb) (ha : M a = some (.inl (dA 2, nn, .inr (.inr (.inr (.inr g)))))) (hf : 1 ≤ R.frames) (hlo : (rest.map fun v => v.category).sum + 14 ≤ R.locals)
    (kk : zJ p l e R s m args below meth c Q nL z D (pc + 3) loc (.ref (dA 101) :: rest) M k n) : zJ p l e R s m args below meth c Q nL z D pc loc (.ref a :: rest) M k n := by
  intro H locs ls hv hz hS hl
  have h1 : H[a]? = some (vp_cell (dA 2) (nn, .inr (.inr (.inr (.inr g))))) := hv a _ ha
  have hRA := (C.2.2.2.2.2.2.1.2 2 (dA 2, .object "java/lang/Object") rfl).2
  exact va_getC (C := "[Ljava/lang/Object;") C.1 C.2.1 (by rw [C.2.2.1, hl.1]) C.2.2.2.1 (C.2.2.2.2.1 _ hw) (va_Nw.use rfl (C.2.2.2.2.2.2.2.2.2.2.2.2.1 _ (by decide +kernel))) (C.2.2.2.2.1 _ (by decide +kernel)) (C.2.2.2.2.1 _ (by decide +kernel)) (C.2.2.2.2.1 _ (by decide +kernel)) C.2.2.2.2.2.2.2.2.2.2.2.1 ⟨_, h1, rfl, va_nmO hRA (by decide +kernel)⟩ hf hlo hd (kk H locs ls hv hz hS hl)
/-- all that an array of Objects holds are objects of the list's classes -/
def zEl (M : zVw) (n : Nat) (g : Nat → Option Nat) : Prop := ∀ i, i < n → ∀ y, g i = some y → ∃ (ci : Nat) (fs : List Value) (r : vw_C), M y = some (.inr (ci, fs)) ∧ kc[ci]? = some r ∧ Cond.castable r.1 "java/lang/Object" ∈ tx
theorem zJ_cp {a0 a n0 n1 N : Nat} {f g : Nat → Option Nat} {i : Int32} (C : zC p s m args meth c own cc nL z D dA ini) (hd : decode cc pc = .ok (.invokestatic x, 3)) (hw : Cond.methodLink own x arraycopyName ∈ tb) (ha0 : M a0 = some (.inl (dA 2, n0, .inr (.inr (.inr (.inr f)))))) (ha : M a = some (.inl (dA 2, n1, .inr (.inr (.inr (.inr g)))))) (hi : i = nI N) (hN : N < 1000000) (h0 : N ≤ n0) (h1 : N ≤ n1) (hel : zEl M N f) (hf : 1 ≤ R.frames) (hlo : (rest.map fun v => v.category).sum + (nativeFrameWords "java/lang/System" "arraycopy" 5 + 11) ≤ R.locals)
    (kk : zJ p l e R s m args below meth c Q nL z D (pc + 3) loc rest (zu M a (.inl (dA 2, n1, .inr (.inr (.inr (.inr (va_cpy f g 0 0 N))))))) k n) : zJ p l e R s m args below meth c Q nL z D pc loc (.int i :: .int 0 :: .ref a :: .int 0 :: .ref a0 :: rest) M k n := by
  intro H locs ls hv hz hS hl
  subst hi
  obtain ⟨ws, hP, hD, hin, hset, -⟩ := zv_ws hv hz
  obtain ⟨j0, hj0⟩ := hin a0 _ ha0
  obtain ⟨j, hj⟩ := hin a _ ha
  have e0 : (0 : Int32).toNatClampNeg = 0 := by decide
  have eN : (nI N).toNatClampNeg = N := nI_clamp (by omega)
  refine va_copyM C.1 C.2.1 (by rw [C.2.2.1, hl.1]) C.2.2.2.1 (C.2.2.2.2.1 _ hw) (C.2.2.2.2.1 _ (by decide +kernel)) (C.2.2.2.2.1 _ (by decide +kernel)) (C.2.2.2.2.1 _ (by decide +kernel)) C.2.2.2.2.2.2.1 hP hD hS j0 j 2 2 hj0 hj rfl rfl (by decide) (by decide) (nI_pos (by omega)) (by rw [e0, eN]; omega) (by rw [e0, eN]; omega) ?_ hf hlo hd (fun H1 locs1 hP1 hD1 hS1 => ?_)
  · intro q hq y hy
    rw [eN] at hq
    rw [e0, Nat.zero_add] at hy
    obtain ⟨ci, fs, r, y1, y2, y3⟩ := hel q hq y hy
    obtain ⟨j2, hj2⟩ := hin y _ y1
    exact va_rAny C.2.2.2.2.2.2.1 hP hj2 y2 (vb_asgC (C.2.2.2.2.2.2.2.2.2.2.2.2.1 _ y3))
  · rw [e0, eN] at hP1
    exact kk H1 locs1 ls (hset j a _ _ H1 hj hP1) (zhd_u hz (hz a _ ha)) hS1 hl
theorem zJ_asN {a nn : Nat} {i : Int32} {g : Nat → Option Nat} (C : zC p s m args meth c own cc nL z D dA ini) (hd : decode cc pc = .ok (.aastore, 1)) (ha : M a = some (.inl (dA 2, nn, .inr (.inr (.inr (.inr g)))))) (hi : vp_in i nn)
    (kk : zJ p l e R s m args below meth c Q nL z D (pc + 1) loc rest (zu M a (.inl (dA 2, nn, .inr (.inr (.inr (.inr (va_up g i.toNatClampNeg none))))))) k n) : zJ p l e R s m args below meth c Q nL z D pc loc (.null :: .int i :: .ref a :: rest) M k n := by
  intro H locs ls hv hz hS hl
  obtain ⟨ws, hP, hD, hin, hset, -⟩ := zv_ws hv hz
  obtain ⟨j, hj⟩ := hin a _ ha
  exact va_astqN C.1 C.2.1 C.2.2.2.2.2.2.1 hP hD hS j 2 hj rfl hi hd (fun H1 locs1 hP1 hD1 hS1 => kk H1 locs1 ls (hset j a _ _ H1 hj hP1) (zhd_u hz (hz a _ ha)) hS1 hl)
theorem zJ_max {a b : Int32} (C : zC p s m args meth c own cc nL z D dA ini) (hd : decode cc pc = .ok (.invokestatic x, 3)) (hw : Cond.methodLink own x Lib.Math.max.name ∈ tb) (hf : 1 ≤ R.frames) (hlo : (rest.map fun v => v.category).sum + 13 ≤ R.locals) (hc : k ≤ R.cells ∧ n ≤ R.slots) (kk : zJ p l e R s m args below meth c Q nL z D (pc + 3) loc (.int (if a < b then b else a) :: rest) M k n) : zJ p l e R s m args below meth c Q nL z D pc loc (.int b :: .int a :: rest) M k n := by
  intro H locs ls hv hz hS hl
  exact va_mmax C.1 C.2.1 (by rw [C.2.2.1, hl.1]) C.2.2.2.1 (C.2.2.2.2.1 _ hw) (C.2.2.2.2.1 _ (by decide +kernel)) (C.2.2.2.2.1 _ (by decide +kernel)) (C.2.2.2.2.1 _ (by decide +kernel)) hf hlo hc.1 hc.2 hd (kk H locs ls hv hz hS hl)
theorem zJ_min {a b : Int32} (C : zC p s m args meth c own cc nL z D dA ini) (hd : decode cc pc = .ok (.invokestatic x, 3)) (hw : Cond.methodLink own x Lib.Math.min.name ∈ tb) (hf : 1 ≤ R.frames) (hlo : (rest.map fun v => v.category).sum + 13 ≤ R.locals) (hc : k ≤ R.cells ∧ n ≤ R.slots) (kk : zJ p l e R s m args below meth c Q nL z D (pc + 3) loc (.int (if b < a then b else a) :: rest) M k n) : zJ p l e R s m args below meth c Q nL z D pc loc (.int b :: .int a :: rest) M k n := by
  intro H locs ls hv hz hS hl
  exact va_mmin C.1 C.2.1 (by rw [C.2.2.1, hl.1]) C.2.2.2.1 (C.2.2.2.2.1 _ hw) (C.2.2.2.2.1 _ (by decide +kernel)) (C.2.2.2.2.1 _ (by decide +kernel)) (C.2.2.2.2.1 _ (by decide +kernel)) hf hlo hc.1 hc.2 hd (kk H locs ls hv hz hS hl)
theorem zEl_u {q L : Nat} {g : Nat → Option Nat} {e0 : va_E} (h : zEl M L g) (hq : M q = none) : zEl (zu M q e0) L g := by
  intro i hi y hy
  obtain ⟨ci, fs, r, h1, h2⟩ := h i hi y hy
  have hne : y ≠ q := fun e => by rw [e, hq] at h1; cases h1
  exact ⟨ci, fs, r, by rw [zu_n hne]; exact h1, h2⟩
end ZJDK
end
section
/-! THE LIBRARY'S LIST. -/
def zOa (dA : Nat → ClassId) (cap : Nat) (g : Nat → Option Nat) : va_E := .inl (dA 2, cap, .inr (.inr (.inr (.inr g))))
def zLi (ed n : Nat) (mo : Int32) : va_E := .inr (7, [.ref ed, .int (nI n), .int mo])
theorem zu_c {M : zVw} {a b : Nat} {x y w : va_E} (h : b ≠ a) : zu (zu (zu M a x) b y) a w = zu (zu M b y) a w := by
  funext q
  unfold zu
  by_cases h1 : q = a
  · rw [if_pos h1, if_pos h1]
  · rw [if_neg h1, if_neg h1, if_neg h1]
set_option maxHeartbeats 4000000 in
set_option maxRecDepth 100000 in
theorem c_P_checkIndex (l : Launch) (D : va_G) (dA : Nat → ClassId) (z : Nat) (M : zVw) (i n : Int32) (h0 : ¬ i < 0) (h1 : i < n) : zMet l y_P_checkIndex b_P_checkIndex 3 (some .int) 1 40 0 0 D dA z [.int i, .int n, .null] M (fun v M' => M' = M ∧ v = some (.int i)) := by
  refine z_of 1 false (by decide) (fun h => by first | rfl | cases h) (Nat.le_of_ble_eq_true rfl) trivial ?_
  intro p e s m args below meth c C hR
  refine zgo (cut := fun _ => false) 60 C lk_P hR ?_
  simp only [zs_iload_n, zs_aload_n, zs_if_lt, zs_icmp_lt, zs_ireturn, zx_iv, zx_is, zx_it, zx_nw, zx_na, zx_an, zx_cc, zx_gs, zx_as, zx_ae, zx_ac, zx_at, zr_seg, zr_t, zr_f, zr_tp, zr_fp, zr_lg, zr_lr, zr_lr0, zr_wi, zr_wr, zr_wn, zr_wl, zr_vo, zr_so, zr_sI, zr_sL, zr_sA, zr_sN, zr_in, zr_rd, zr_wr2, zr_kf, zr_k0, zr_k1, zr_k2, zr_k3, zr_k3n, zr_k10, zr_k11, zr_k12, zr_k13, zr_k13n, zr_ai, zr_af, zr_aw, zr_aL, zr_Lf, zr_Lw, zr_l2, zr_l20, zr_al, zr_an, zr_aq, zr_ag, zr_rfs, zr_rfn, zr_r1, zr_r2, zr_w0, zr_w1, zr_tl, zr_40, zr_41, zr_42, zr_43, d_P_checkIndex_0, d_P_checkIndex_1, zt_1_8, zo_1_8, d_P_checkIndex_4, d_P_checkIndex_5, d_P_checkIndex_6, zt_6_10, zo_6_10, d_P_checkIndex_9, d_P_checkIndex_10, d_P_checkIndex_11, d_P_checkIndex_12, d_P_checkIndex_15, d_P_checkIndex_16, d_P_checkIndex_17, za_0, za_i, za_r, za_n, za_l, zu_s, zu_u, Nat.reduceAdd, Nat.reduceLT, Nat.reduceBEq, Nat.zero_add, Bool.false_or, Bool.or_false, Bool.true_or, Bool.or_true, Bool.false_and, Bool.and_false, Bool.true_and, Bool.and_true, true_and, and_true, true_or, or_true, eq_self, Nat.le_refl, List.getElem?_cons_succ, List.getElem?_cons_zero, List.set_cons_succ, List.set_cons_zero, zk_0, zk_1, zk_2, zk_3, zk_4, zq_1, zq_2, Option.isSome_some, Option.getD_some, Option.toList_some, Option.toList_none, List.cons_append, List.nil_append]
  exact ⟨fun h => absurd h h0, fun _ => ⟨fun _ => trivial, fun h => absurd h1 h⟩⟩
set_option maxHeartbeats 4000000 in
set_option maxRecDepth 100000 in
theorem c_Ob_checkIndex (l : Launch) (D : va_G) (dA : Nat → ClassId) (z : Nat) (M : zVw) (i n : Int32) (h0 : ¬ i < 0) (h1 : i < n) : zMet l y_Ob_checkIndex b_Ob_checkIndex 2 (some .int) 2 62 0 0 D dA z [.int i, .int n] M (fun v M' => M' = M ∧ v = some (.int i)) := by
  refine z_of 1 false (by decide) (fun h => by first | rfl | cases h) (Nat.le_of_ble_eq_true rfl) trivial ?_
  intro p e s m args below meth c C hR
  refine zgo (cut := fun _ => false) 60 C lk_Ob hR ?_
  simp only [zs_null, zs_iload_n, zs_ireturn, zx_iv, zx_is, zx_it, zx_nw, zx_na, zx_an, zx_cc, zx_gs, zx_as, zx_ae, zx_ac, zx_at, zr_seg, zr_t, zr_f, zr_tp, zr_fp, zr_lg, zr_lr, zr_lr0, zr_wi, zr_wr, zr_wn, zr_wl, zr_vo, zr_so, zr_sI, zr_sL, zr_sA, zr_sN, zr_in, zr_rd, zr_wr2, zr_kf, zr_k0, zr_k1, zr_k2, zr_k3, zr_k3n, zr_k10, zr_k11, zr_k12, zr_k13, zr_k13n, zr_ai, zr_af, zr_aw, zr_aL, zr_Lf, zr_Lw, zr_l2, zr_l20, zr_al, zr_an, zr_aq, zr_ag, zr_rfs, zr_rfn, zr_r1, zr_r2, zr_w0, zr_w1, zr_tl, zr_40, zr_41, zr_42, zr_43, d_Ob_checkIndex_0, d_Ob_checkIndex_1, d_Ob_checkIndex_2, d_Ob_checkIndex_3, d_Ob_checkIndex_6, za_0, za_i, za_r, za_n, za_l, zu_s, zu_u, Nat.reduceAdd, Nat.reduceLT, Nat.reduceBEq, Nat.zero_add, Bool.false_or, Bool.or_false, Bool.true_or, Bool.or_true, Bool.false_and, Bool.and_false, Bool.true_and, Bool.and_true, true_and, and_true, true_or, or_true, eq_self, Nat.le_refl, List.getElem?_cons_succ, List.getElem?_cons_zero, List.set_cons_succ, List.set_cons_zero, zk_0, zk_1, zk_2, zk_3, zk_4, zq_1, zq_2, Option.isSome_some, Option.getD_some, Option.toList_some, Option.toList_none, List.cons_append, List.nil_append]
  refine zJ_callS (As := [.int i, .int n, .null]) (rest := []) C d_Ob_checkIndex_3 (c_P_checkIndex l D dA z M i n h0 h1) k_Ob_105 s_P_checkIndex ⟨by decide, by decide⟩ ⟨by decide, by decide⟩ rfl (by decide) ?_
  rintro v M' ⟨rfl, rfl⟩
  refine zgo (cut := fun _ => false) 60 C lk_Ob hR ?_
  simp only [zs_null, zs_iload_n, zs_ireturn, zx_iv, zx_is, zx_it, zx_nw, zx_na, zx_an, zx_cc, zx_gs, zx_as, zx_ae, zx_ac, zx_at, zr_seg, zr_t, zr_f, zr_tp, zr_fp, zr_lg, zr_lr, zr_lr0, zr_wi, zr_wr, zr_wn, zr_wl, zr_vo, zr_so, zr_sI, zr_sL, zr_sA, zr_sN, zr_in, zr_rd, zr_wr2, zr_kf, zr_k0, zr_k1, zr_k2, zr_k3, zr_k3n, zr_k10, zr_k11, zr_k12, zr_k13, zr_k13n, zr_ai, zr_af, zr_aw, zr_aL, zr_Lf, zr_Lw, zr_l2, zr_l20, zr_al, zr_an, zr_aq, zr_ag, zr_rfs, zr_rfn, zr_r1, zr_r2, zr_w0, zr_w1, zr_tl, zr_40, zr_41, zr_42, zr_43, d_Ob_checkIndex_0, d_Ob_checkIndex_1, d_Ob_checkIndex_2, d_Ob_checkIndex_3, d_Ob_checkIndex_6, za_0, za_i, za_r, za_n, za_l, zu_s, zu_u, Nat.reduceAdd, Nat.reduceLT, Nat.reduceBEq, Nat.zero_add, Bool.false_or, Bool.or_false, Bool.true_or, Bool.or_true, Bool.false_and, Bool.and_false, Bool.true_and, Bool.and_true, true_and, and_true, true_or, or_true, eq_self, Nat.le_refl, List.getElem?_cons_succ, List.getElem?_cons_zero, List.set_cons_succ, List.set_cons_zero, zk_0, zk_1, zk_2, zk_3, zk_4, zq_1, zq_2, Option.isSome_some, Option.getD_some, Option.toList_some, Option.toList_none, List.cons_append, List.nil_append]
set_option maxHeartbeats 4000000 in
set_option maxRecDepth 100000 in
theorem c_L_size (l : Launch) (D : va_G) (dA : Nat → ClassId) (z : Nat) (M : zVw) (a ed n : Nat) (mo : Int32) (hM : M a = some (zLi ed n mo)) : zMet l y_L_size b_L_size 1 (some .int) 0 0 0 0 D dA z [.ref a] M (fun v M' => M' = M ∧ v = some (.int (nI n))) := by
  refine z_of 1 false (by decide) (fun h => by first | rfl | cases h) (Nat.le_of_ble_eq_true rfl) trivial ?_
  intro p e s m args below meth c C hR
  refine zgo (cut := fun _ => false) 60 C lk_L hR ?_
  simp only [zs_aload_n, zs_get, zs_ireturn, zx_iv, zx_is, zx_it, zx_nw, zx_na, zx_an, zx_cc, zx_gs, zx_as, zx_ae, zx_ac, zx_at, zr_seg, zr_t, zr_f, zr_tp, zr_fp, zr_lg, zr_lr, zr_lr0, zr_wi, zr_wr, zr_wn, zr_wl, zr_vo, zr_so, zr_sI, zr_sL, zr_sA, zr_sN, zr_in, zr_rd, zr_wr2, zr_kf, zr_k0, zr_k1, zr_k2, zr_k3, zr_k3n, zr_k10, zr_k11, zr_k12, zr_k13, zr_k13n, zr_ai, zr_af, zr_aw, zr_aL, zr_Lf, zr_Lw, zr_l2, zr_l20, zr_al, zr_an, zr_aq, zr_ag, zr_rfs, zr_rfn, zr_r1, zr_r2, zr_w0, zr_w1, zr_tl, zr_40, zr_41, zr_42, zr_43, d_L_size_0, d_L_size_1, fl_L_48, d_L_size_4, za_0, za_i, za_r, za_n, za_l, zu_s, zu_u, Nat.reduceAdd, Nat.reduceLT, Nat.reduceBEq, Nat.zero_add, Bool.false_or, Bool.or_false, Bool.true_or, Bool.or_true, Bool.false_and, Bool.and_false, Bool.true_and, Bool.and_true, true_and, and_true, true_or, or_true, eq_self, Nat.le_refl, List.getElem?_cons_succ, List.getElem?_cons_zero, List.set_cons_succ, List.set_cons_zero, zk_0, zk_1, zk_2, zk_3, zk_4, zq_1, zq_2, Option.isSome_some, Option.getD_some, Option.toList_some, Option.toList_none, List.cons_append, List.nil_append, hM, zLi]
set_option maxHeartbeats 4000000 in
set_option maxRecDepth 100000 in
theorem c_L_elementData (l : Launch) (D : va_G) (dA : Nat → ClassId) (z : Nat) (M : zVw) (a ed n cap j q : Nat) (mo : Int32) (g : Nat → Option Nat) (hM : M a = some (zLi ed n mo)) (hE : M ed = some (zOa dA cap g)) (hj : j < cap) (hc : cap < 2 ^ 31) (hq : g j = some q) : zMet l y_L_elementData b_L_elementData 2 (some (.object "java/lang/Object")) 0 0 0 0 D dA z [.ref a, .int (nI j)] M (fun v M' => M' = M ∧ v = some (.ref q)) := by
  have hin : vp_in (nI j) cap := vp_in_nI hj hc
  have ej : (nI j).toNatClampNeg = j := nI_clamp (by omega)
  refine z_of 3 false (by decide) (fun h => by first | rfl | cases h) (Nat.le_of_ble_eq_true rfl) trivial ?_
  intro p e s m args below meth c C hR
  refine zgo (cut := fun _ => false) 60 C lk_L hR ?_
  simp only [zs_iload_n, zs_aload_n, zs_get, zs_aaload, zs_areturn0, zs_areturn1, zx_iv, zx_is, zx_it, zx_nw, zx_na, zx_an, zx_cc, zx_gs, zx_as, zx_ae, zx_ac, zx_at, zr_seg, zr_t, zr_f, zr_tp, zr_fp, zr_lg, zr_lr, zr_lr0, zr_wi, zr_wr, zr_wn, zr_wl, zr_vo, zr_so, zr_sI, zr_sL, zr_sA, zr_sN, zr_in, zr_rd, zr_wr2, zr_kf, zr_k0, zr_k1, zr_k2, zr_k3, zr_k3n, zr_k10, zr_k11, zr_k12, zr_k13, zr_k13n, zr_ai, zr_af, zr_aw, zr_aL, zr_Lf, zr_Lw, zr_l2, zr_l20, zr_al, zr_an, zr_aq, zr_ag, zr_rfs, zr_rfn, zr_r1, zr_r2, zr_w0, zr_w1, zr_tl, zr_40, zr_41, zr_42, zr_43, d_L_elementData_0, d_L_elementData_1, fl_L_9, d_L_elementData_4, d_L_elementData_5, d_L_elementData_6, za_0, za_i, za_r, za_n, za_l, zu_s, zu_u, Nat.reduceAdd, Nat.reduceLT, Nat.reduceBEq, Nat.zero_add, Bool.false_or, Bool.or_false, Bool.true_or, Bool.or_true, Bool.false_and, Bool.and_false, Bool.true_and, Bool.and_true, true_and, and_true, true_or, or_true, eq_self, Nat.le_refl, List.getElem?_cons_succ, List.getElem?_cons_zero, List.set_cons_succ, List.set_cons_zero, zk_0, zk_1, zk_2, zk_3, zk_4, zq_1, zq_2, Option.isSome_some, Option.getD_some, Option.toList_some, Option.toList_none, List.cons_append, List.nil_append, hM, hE, zLi, zOa, ej, hq, hin]
set_option maxHeartbeats 4000000 in
set_option maxRecDepth 100000 in
theorem c_L_get (l : Launch) (D : va_G) (dA : Nat → ClassId) (z : Nat) (M : zVw) (a ed n cap j q : Nat) (mo : Int32) (g : Nat → Option Nat) (hM : M a = some (zLi ed n mo)) (hE : M ed = some (zOa dA cap g)) (hj : j < n) (hn : n ≤ cap) (hc : cap < 2 ^ 31) (hq : g j = some q) : zMet l y_L_get b_L_get 2 (some (.object "java/lang/Object")) 3 83 0 0 D dA z [.ref a, .int (nI j)] M (fun v M' => M' = M ∧ v = some (.ref q)) := by
  refine z_of 3 false (by decide) (fun h => by first | rfl | cases h) (Nat.le_of_ble_eq_true rfl) trivial ?_
  intro p e s m args below meth c C hR
  refine zgo (cut := fun _ => false) 60 C lk_L hR ?_
  simp only [zs_iload_n, zs_aload_n, zs_pop0, zs_pop1, zs_pop2, zs_get, zs_areturn0, zs_areturn1, zx_iv, zx_is, zx_it, zx_nw, zx_na, zx_an, zx_cc, zx_gs, zx_as, zx_ae, zx_ac, zx_at, zr_seg, zr_t, zr_f, zr_tp, zr_fp, zr_lg, zr_lr, zr_lr0, zr_wi, zr_wr, zr_wn, zr_wl, zr_vo, zr_so, zr_sI, zr_sL, zr_sA, zr_sN, zr_in, zr_rd, zr_wr2, zr_kf, zr_k0, zr_k1, zr_k2, zr_k3, zr_k3n, zr_k10, zr_k11, zr_k12, zr_k13, zr_k13n, zr_ai, zr_af, zr_aw, zr_aL, zr_Lf, zr_Lw, zr_l2, zr_l20, zr_al, zr_an, zr_aq, zr_ag, zr_rfs, zr_rfn, zr_r1, zr_r2, zr_w0, zr_w1, zr_tl, zr_40, zr_41, zr_42, zr_43, d_L_get_0, d_L_get_1, d_L_get_2, fl_L_48, d_L_get_5, d_L_get_8, d_L_get_9, d_L_get_10, d_L_get_11, d_L_get_14, za_0, za_i, za_r, za_n, za_l, zu_s, zu_u, Nat.reduceAdd, Nat.reduceLT, Nat.reduceBEq, Nat.zero_add, Bool.false_or, Bool.or_false, Bool.true_or, Bool.or_true, Bool.false_and, Bool.and_false, Bool.true_and, Bool.and_true, true_and, and_true, true_or, or_true, eq_self, Nat.le_refl, List.getElem?_cons_succ, List.getElem?_cons_zero, List.set_cons_succ, List.set_cons_zero, zk_0, zk_1, zk_2, zk_3, zk_4, zq_1, zq_2, Option.isSome_some, Option.getD_some, Option.toList_some, Option.toList_none, List.cons_append, List.nil_append, hM, zLi]
  refine zJ_callS (As := [.int (nI j), .int (nI n)]) (rest := []) C d_L_get_5 (c_Ob_checkIndex l D dA z M (nI j) (nI n) (nI_pos (by omega)) (nI_lt hj (by omega))) k_L_118 s_Ob_checkIndex ⟨by decide, by decide⟩ ⟨by decide, by decide⟩ rfl (by decide) ?_
  rintro v M' ⟨rfl, rfl⟩
  refine zgo (cut := fun _ => false) 60 C lk_L hR ?_
  simp only [zs_iload_n, zs_aload_n, zs_pop0, zs_pop1, zs_pop2, zs_get, zs_areturn0, zs_areturn1, zx_iv, zx_is, zx_it, zx_nw, zx_na, zx_an, zx_cc, zx_gs, zx_as, zx_ae, zx_ac, zx_at, zr_seg, zr_t, zr_f, zr_tp, zr_fp, zr_lg, zr_lr, zr_lr0, zr_wi, zr_wr, zr_wn, zr_wl, zr_vo, zr_so, zr_sI, zr_sL, zr_sA, zr_sN, zr_in, zr_rd, zr_wr2, zr_kf, zr_k0, zr_k1, zr_k2, zr_k3, zr_k3n, zr_k10, zr_k11, zr_k12, zr_k13, zr_k13n, zr_ai, zr_af, zr_aw, zr_aL, zr_Lf, zr_Lw, zr_l2, zr_l20, zr_al, zr_an, zr_aq, zr_ag, zr_rfs, zr_rfn, zr_r1, zr_r2, zr_w0, zr_w1, zr_tl, zr_40, zr_41, zr_42, zr_43, d_L_get_0, d_L_get_1, d_L_get_2, fl_L_48, d_L_get_5, d_L_get_8, d_L_get_9, d_L_get_10, d_L_get_11, d_L_get_14, za_0, za_i, za_r, za_n, za_l, zu_s, zu_u, Nat.reduceAdd, Nat.reduceLT, Nat.reduceBEq, Nat.zero_add, Bool.false_or, Bool.or_false, Bool.true_or, Bool.or_true, Bool.false_and, Bool.and_false, Bool.true_and, Bool.and_true, true_and, and_true, true_or, or_true, eq_self, Nat.le_refl, List.getElem?_cons_succ, List.getElem?_cons_zero, List.set_cons_succ, List.set_cons_zero, zk_0, zk_1, zk_2, zk_3, zk_4, zq_1, zq_2, Option.isSome_some, Option.getD_some, Option.toList_some, Option.toList_none, List.cons_append, List.nil_append, hM, zLi]
  refine zJ_callV (As := [.int (nI j)]) (rest := []) C d_L_get_11 (c_L_elementData l D dA z M' a ed n cap j q mo g hM hE (by omega) hc hq) k_L_123 n_L_elementData v_L_elementData hM rfl rfl ⟨by decide, by decide⟩ ⟨by decide, by decide⟩ rfl (by decide) ?_
  rintro v M'' ⟨rfl, rfl⟩
  refine zgo (cut := fun _ => false) 60 C lk_L hR ?_
  simp only [zs_iload_n, zs_aload_n, zs_pop0, zs_pop1, zs_pop2, zs_get, zs_areturn0, zs_areturn1, zx_iv, zx_is, zx_it, zx_nw, zx_na, zx_an, zx_cc, zx_gs, zx_as, zx_ae, zx_ac, zx_at, zr_seg, zr_t, zr_f, zr_tp, zr_fp, zr_lg, zr_lr, zr_lr0, zr_wi, zr_wr, zr_wn, zr_wl, zr_vo, zr_so, zr_sI, zr_sL, zr_sA, zr_sN, zr_in, zr_rd, zr_wr2, zr_kf, zr_k0, zr_k1, zr_k2, zr_k3, zr_k3n, zr_k10, zr_k11, zr_k12, zr_k13, zr_k13n, zr_ai, zr_af, zr_aw, zr_aL, zr_Lf, zr_Lw, zr_l2, zr_l20, zr_al, zr_an, zr_aq, zr_ag, zr_rfs, zr_rfn, zr_r1, zr_r2, zr_w0, zr_w1, zr_tl, zr_40, zr_41, zr_42, zr_43, d_L_get_0, d_L_get_1, d_L_get_2, fl_L_48, d_L_get_5, d_L_get_8, d_L_get_9, d_L_get_10, d_L_get_11, d_L_get_14, za_0, za_i, za_r, za_n, za_l, zu_s, zu_u, Nat.reduceAdd, Nat.reduceLT, Nat.reduceBEq, Nat.zero_add, Bool.false_or, Bool.or_false, Bool.true_or, Bool.or_true, Bool.false_and, Bool.and_false, Bool.true_and, Bool.and_true, true_and, and_true, true_or, or_true, eq_self, Nat.le_refl, List.getElem?_cons_succ, List.getElem?_cons_zero, List.set_cons_succ, List.set_cons_zero, zk_0, zk_1, zk_2, zk_3, zk_4, zq_1, zq_2, Option.isSome_some, Option.getD_some, Option.toList_some, Option.toList_none, List.cons_append, List.nil_append]
set_option maxHeartbeats 4000000 in
set_option maxRecDepth 100000 in
theorem c_AC_init (l : Launch) (D : va_G) (dA : Nat → ClassId) (z : Nat) (M : zVw) (a : Nat) (q : va_E) (hM : M a = some q) : zMet l y_AC_init b_AC_init 1 none 1 40 0 0 D dA z [.ref a] M (fun v M' => M' = M ∧ v = none) := by
  refine z_of 0 true (by decide) (fun h => by first | rfl | cases h) (Nat.le_of_ble_eq_true rfl) trivial ?_
  intro p e s m args below meth c C hR
  refine zgo (cut := fun _ => false) 60 C lk_AC hR ?_
  simp only [zs_aload_n, zs_return, zx_iv, zx_is, zx_it, zx_nw, zx_na, zx_an, zx_cc, zx_gs, zx_as, zx_ae, zx_ac, zx_at, zr_seg, zr_t, zr_f, zr_tp, zr_fp, zr_lg, zr_lr, zr_lr0, zr_wi, zr_wr, zr_wn, zr_wl, zr_vo, zr_so, zr_sI, zr_sL, zr_sA, zr_sN, zr_in, zr_rd, zr_wr2, zr_kf, zr_k0, zr_k1, zr_k2, zr_k3, zr_k3n, zr_k10, zr_k11, zr_k12, zr_k13, zr_k13n, zr_ai, zr_af, zr_aw, zr_aL, zr_Lf, zr_Lw, zr_l2, zr_l20, zr_al, zr_an, zr_aq, zr_ag, zr_rfs, zr_rfn, zr_r1, zr_r2, zr_w0, zr_w1, zr_tl, zr_40, zr_41, zr_42, zr_43, d_AC_init_0, d_AC_init_1, d_AC_init_4, za_0, za_i, za_r, za_n, za_l, zu_s, zu_u, Nat.reduceAdd, Nat.reduceLT, Nat.reduceBEq, Nat.zero_add, Bool.false_or, Bool.or_false, Bool.true_or, Bool.or_true, Bool.false_and, Bool.and_false, Bool.true_and, Bool.and_true, true_and, and_true, true_or, or_true, eq_self, Nat.le_refl, List.getElem?_cons_succ, List.getElem?_cons_zero, List.set_cons_succ, List.set_cons_zero, zk_0, zk_1, zk_2, zk_3, zk_4, zq_1, zq_2, Option.isSome_some, Option.getD_some, Option.toList_some, Option.toList_none, List.cons_append, List.nil_append]
  refine zJ_obj C d_AC_init_1 (by decide +kernel) oi_i oi_c (by decide) (by decide) ?_
  refine zgo (cut := fun _ => false) 80 C lk_AC hR ?_
  simp only [zs_aload_n, zs_return, zx_iv, zx_is, zx_it, zx_nw, zx_na, zx_an, zx_cc, zx_gs, zx_as, zx_ae, zx_ac, zx_at, zr_seg, zr_t, zr_f, zr_tp, zr_fp, zr_lg, zr_lr, zr_lr0, zr_wi, zr_wr, zr_wn, zr_wl, zr_vo, zr_so, zr_sI, zr_sL, zr_sA, zr_sN, zr_in, zr_rd, zr_wr2, zr_kf, zr_k0, zr_k1, zr_k2, zr_k3, zr_k3n, zr_k10, zr_k11, zr_k12, zr_k13, zr_k13n, zr_ai, zr_af, zr_aw, zr_aL, zr_Lf, zr_Lw, zr_l2, zr_l20, zr_al, zr_an, zr_aq, zr_ag, zr_rfs, zr_rfn, zr_r1, zr_r2, zr_w0, zr_w1, zr_tl, zr_40, zr_41, zr_42, zr_43, d_AC_init_0, d_AC_init_1, d_AC_init_4, za_0, za_i, za_r, za_n, za_l, zu_s, zu_u, Nat.reduceAdd, Nat.reduceLT, Nat.reduceBEq, Nat.zero_add, Bool.false_or, Bool.or_false, Bool.true_or, Bool.or_true, Bool.false_and, Bool.and_false, Bool.true_and, Bool.and_true, true_and, and_true, true_or, or_true, eq_self, Nat.le_refl, List.getElem?_cons_succ, List.getElem?_cons_zero, List.set_cons_succ, List.set_cons_zero, zk_0, zk_1, zk_2, zk_3, zk_4, zq_1, zq_2, Option.isSome_some, Option.getD_some, Option.toList_some, Option.toList_none, List.cons_append, List.nil_append]
set_option maxHeartbeats 4000000 in
set_option maxRecDepth 100000 in
theorem c_AL_init (l : Launch) (D : va_G) (dA : Nat → ClassId) (z : Nat) (M : zVw) (a : Nat) (v0 v1 v2 : Value) (hM : M a = some (.inr (7, [v0, v1, v2]))) : zMet l y_AL_init b_AL_init 1 none 2 60 0 0 D dA z [.ref a] M (fun v M' => M' = zu M a (.inr (7, [v0, v1, .int 0])) ∧ v = none) := by
  refine z_of 0 true (by decide) (fun h => by first | rfl | cases h) (Nat.le_of_ble_eq_true rfl) trivial ?_
  intro p e s m args below meth c C hR
  refine zgo (cut := fun _ => false) 60 C lk_AL hR ?_
  simp only [zs_iconst, zs_aload_n, zs_put, zs_return, zx_iv, zx_is, zx_it, zx_nw, zx_na, zx_an, zx_cc, zx_gs, zx_as, zx_ae, zx_ac, zx_at, zr_seg, zr_t, zr_f, zr_tp, zr_fp, zr_lg, zr_lr, zr_lr0, zr_wi, zr_wr, zr_wn, zr_wl, zr_vo, zr_so, zr_sI, zr_sL, zr_sA, zr_sN, zr_in, zr_rd, zr_wr2, zr_kf, zr_k0, zr_k1, zr_k2, zr_k3, zr_k3n, zr_k10, zr_k11, zr_k12, zr_k13, zr_k13n, zr_ai, zr_af, zr_aw, zr_aL, zr_Lf, zr_Lw, zr_l2, zr_l20, zr_al, zr_an, zr_aq, zr_ag, zr_rfs, zr_rfn, zr_r1, zr_r2, zr_w0, zr_w1, zr_tl, zr_40, zr_41, zr_42, zr_43, d_AL_init_0, d_AL_init_1, d_AL_init_4, d_AL_init_5, ci_0, d_AL_init_6, fl_AL_7, d_AL_init_9, za_0, za_i, za_r, za_n, za_l, zu_s, zu_u, Nat.reduceAdd, Nat.reduceLT, Nat.reduceBEq, Nat.zero_add, Bool.false_or, Bool.or_false, Bool.true_or, Bool.or_true, Bool.false_and, Bool.and_false, Bool.true_and, Bool.and_true, true_and, and_true, true_or, or_true, eq_self, Nat.le_refl, List.getElem?_cons_succ, List.getElem?_cons_zero, List.set_cons_succ, List.set_cons_zero, zk_0, zk_1, zk_2, zk_3, zk_4, zq_1, zq_2, Option.isSome_some, Option.getD_some, Option.toList_some, Option.toList_none, List.cons_append, List.nil_append]
  refine zJ_callI (As := []) (rest := []) C d_AL_init_1 (c_AC_init l D dA z M a _ hM) k_AL_1 n_AC_init rfl ⟨by decide, by decide⟩ ⟨by decide, by decide⟩ rfl (by decide) ?_
  rintro v M' ⟨rfl, rfl⟩
  refine zgo (cut := fun _ => false) 80 C lk_AL hR ?_
  simp only [zs_iconst, zs_aload_n, zs_put, zs_return, zx_iv, zx_is, zx_it, zx_nw, zx_na, zx_an, zx_cc, zx_gs, zx_as, zx_ae, zx_ac, zx_at, zr_seg, zr_t, zr_f, zr_tp, zr_fp, zr_lg, zr_lr, zr_lr0, zr_wi, zr_wr, zr_wn, zr_wl, zr_vo, zr_so, zr_sI, zr_sL, zr_sA, zr_sN, zr_in, zr_rd, zr_wr2, zr_kf, zr_k0, zr_k1, zr_k2, zr_k3, zr_k3n, zr_k10, zr_k11, zr_k12, zr_k13, zr_k13n, zr_ai, zr_af, zr_aw, zr_aL, zr_Lf, zr_Lw, zr_l2, zr_l20, zr_al, zr_an, zr_aq, zr_ag, zr_rfs, zr_rfn, zr_r1, zr_r2, zr_w0, zr_w1, zr_tl, zr_40, zr_41, zr_42, zr_43, d_AL_init_0, d_AL_init_1, d_AL_init_4, d_AL_init_5, ci_0, d_AL_init_6, fl_AL_7, d_AL_init_9, za_0, za_i, za_r, za_n, za_l, zu_s, zu_u, Nat.reduceAdd, Nat.reduceLT, Nat.reduceBEq, Nat.zero_add, Bool.false_or, Bool.or_false, Bool.true_or, Bool.or_true, Bool.false_and, Bool.and_false, Bool.true_and, Bool.and_true, true_and, and_true, true_or, or_true, eq_self, Nat.le_refl, List.getElem?_cons_succ, List.getElem?_cons_zero, List.set_cons_succ, List.set_cons_zero, zk_0, zk_1, zk_2, zk_3, zk_4, zq_1, zq_2, Option.isSome_some, Option.getD_some, Option.toList_some, Option.toList_none, List.cons_append, List.nil_append, hM]
set_option maxHeartbeats 4000000 in
set_option maxRecDepth 100000 in
theorem c_L_init (l : Launch) (D : va_G) (dA : Nat → ClassId) (z : Nat) (M : zVw) (a : Nat) (v0 v1 v2 : Value) (hM : M a = some (.inr (7, [v0, v1, v2]))) : zMet l y_L_init b_L_init 1 none 3 80 0 0 D dA z [.ref a] M (fun v M' => M' = zu M a (.inr (7, [.ref (dA 100), v1, .int 0])) ∧ v = none) := by
  refine z_of 0 true (by decide) (fun h => by first | rfl | cases h) (Nat.le_of_ble_eq_true rfl) trivial ?_
  intro p e s m args below meth c C hR
  refine zgo (cut := fun _ => false) 60 C lk_L hR ?_
  simp only [zs_aload_n, zs_put, zs_return, zx_iv, zx_is, zx_it, zx_nw, zx_na, zx_an, zx_cc, zx_gs, zx_as, zx_ae, zx_ac, zx_at, zr_seg, zr_t, zr_f, zr_tp, zr_fp, zr_lg, zr_lr, zr_lr0, zr_wi, zr_wr, zr_wn, zr_wl, zr_vo, zr_so, zr_sI, zr_sL, zr_sA, zr_sN, zr_in, zr_rd, zr_wr2, zr_kf, zr_k0, zr_k1, zr_k2, zr_k3, zr_k3n, zr_k10, zr_k11, zr_k12, zr_k13, zr_k13n, zr_ai, zr_af, zr_aw, zr_aL, zr_Lf, zr_Lw, zr_l2, zr_l20, zr_al, zr_an, zr_aq, zr_ag, zr_rfs, zr_rfn, zr_r1, zr_r2, zr_w0, zr_w1, zr_tl, zr_40, zr_41, zr_42, zr_43, d_L_init_0, d_L_init_1, d_L_init_4, d_L_init_5, d_L_init_8, fl_L_9, d_L_init_11, za_0, za_i, za_r, za_n, za_l, zu_s, zu_u, Nat.reduceAdd, Nat.reduceLT, Nat.reduceBEq, Nat.zero_add, Bool.false_or, Bool.or_false, Bool.true_or, Bool.or_true, Bool.false_and, Bool.and_false, Bool.true_and, Bool.and_true, true_and, and_true, true_or, or_true, eq_self, Nat.le_refl, List.getElem?_cons_succ, List.getElem?_cons_zero, List.set_cons_succ, List.set_cons_zero, zk_0, zk_1, zk_2, zk_3, zk_4, zq_1, zq_2, Option.isSome_some, Option.getD_some, Option.toList_some, Option.toList_none, List.cons_append, List.nil_append]
  refine zJ_callI (As := []) (rest := []) C d_L_init_1 (c_AL_init l D dA z M a _ _ _ hM) k_L_1 n_AL_init rfl ⟨by decide, by decide⟩ ⟨by decide, by decide⟩ rfl (by decide) ?_
  rintro v M' ⟨rfl, rfl⟩
  refine zgo (cut := fun _ => false) 80 C lk_L hR ?_
  simp only [zs_aload_n, zs_put, zs_return, zx_iv, zx_is, zx_it, zx_nw, zx_na, zx_an, zx_cc, zx_gs, zx_as, zx_ae, zx_ac, zx_at, zr_seg, zr_t, zr_f, zr_tp, zr_fp, zr_lg, zr_lr, zr_lr0, zr_wi, zr_wr, zr_wn, zr_wl, zr_vo, zr_so, zr_sI, zr_sL, zr_sA, zr_sN, zr_in, zr_rd, zr_wr2, zr_kf, zr_k0, zr_k1, zr_k2, zr_k3, zr_k3n, zr_k10, zr_k11, zr_k12, zr_k13, zr_k13n, zr_ai, zr_af, zr_aw, zr_aL, zr_Lf, zr_Lw, zr_l2, zr_l20, zr_al, zr_an, zr_aq, zr_ag, zr_rfs, zr_rfn, zr_r1, zr_r2, zr_w0, zr_w1, zr_tl, zr_40, zr_41, zr_42, zr_43, d_L_init_0, d_L_init_1, d_L_init_4, d_L_init_5, d_L_init_8, fl_L_9, d_L_init_11, za_0, za_i, za_r, za_n, za_l, zu_s, zu_u, Nat.reduceAdd, Nat.reduceLT, Nat.reduceBEq, Nat.zero_add, Bool.false_or, Bool.or_false, Bool.true_or, Bool.or_true, Bool.false_and, Bool.and_false, Bool.true_and, Bool.and_true, true_and, and_true, true_or, or_true, eq_self, Nat.le_refl, List.getElem?_cons_succ, List.getElem?_cons_zero, List.set_cons_succ, List.set_cons_zero, zk_0, zk_1, zk_2, zk_3, zk_4, zq_1, zq_2, Option.isSome_some, Option.getD_some, Option.toList_some, Option.toList_none, List.cons_append, List.nil_append]
  refine zJ_gs C d_L_init_5 (by decide +kernel) ?_
  refine zgo (cut := fun _ => false) 80 C lk_L hR ?_
  simp only [zs_aload_n, zs_put, zs_return, zx_iv, zx_is, zx_it, zx_nw, zx_na, zx_an, zx_cc, zx_gs, zx_as, zx_ae, zx_ac, zx_at, zr_seg, zr_t, zr_f, zr_tp, zr_fp, zr_lg, zr_lr, zr_lr0, zr_wi, zr_wr, zr_wn, zr_wl, zr_vo, zr_so, zr_sI, zr_sL, zr_sA, zr_sN, zr_in, zr_rd, zr_wr2, zr_kf, zr_k0, zr_k1, zr_k2, zr_k3, zr_k3n, zr_k10, zr_k11, zr_k12, zr_k13, zr_k13n, zr_ai, zr_af, zr_aw, zr_aL, zr_Lf, zr_Lw, zr_l2, zr_l20, zr_al, zr_an, zr_aq, zr_ag, zr_rfs, zr_rfn, zr_r1, zr_r2, zr_w0, zr_w1, zr_tl, zr_40, zr_41, zr_42, zr_43, d_L_init_0, d_L_init_1, d_L_init_4, d_L_init_5, d_L_init_8, fl_L_9, d_L_init_11, za_0, za_i, za_r, za_n, za_l, zu_s, zu_u, Nat.reduceAdd, Nat.reduceLT, Nat.reduceBEq, Nat.zero_add, Bool.false_or, Bool.or_false, Bool.true_or, Bool.or_true, Bool.false_and, Bool.and_false, Bool.true_and, Bool.and_true, true_and, and_true, true_or, or_true, eq_self, Nat.le_refl, List.getElem?_cons_succ, List.getElem?_cons_zero, List.set_cons_succ, List.set_cons_zero, zk_0, zk_1, zk_2, zk_3, zk_4, zq_1, zq_2, Option.isSome_some, Option.getD_some, Option.toList_some, Option.toList_none, List.cons_append, List.nil_append]
end
section
/-! THE LIST'S GROWTH. -/
set_option maxHeartbeats 4000000 in
set_option maxRecDepth 100000 in
theorem c_AS_newLength (l : Launch) (D : va_G) (dA : Nat → ClassId) (z : Nat) (M : zVw) (cap : Nat) (h2 : 2 ≤ cap) (h4 : cap ≤ 40000) : zMet l y_AS_newLength b_AS_newLength 4 (some .int) 1 21 0 0 D dA z [.int (nI cap), .int (nI 1), .int (nI (cap / 2))] M (fun v M' => M' = M ∧ v = some (.int (nI (cap + cap / 2)))) := by
  have e1 : (if nI 1 < nI (cap / 2) then nI (cap / 2) else nI 1) = nI (cap / 2) := by
    by_cases h : 1 < cap / 2
    · rw [if_pos (nI_lt h (by omega))]
    · rw [if_neg (nI_nlt (by omega) (by decide)), show cap / 2 = 1 by omega]
  have e2 : ¬ nI (cap + cap / 2) ≤ 0 := nI_nle (by omega) (by omega)
  have e3 : ¬ (2147483639 : Int32) < nI (cap + cap / 2) := show ¬ nI 2147483639 < nI (cap + cap / 2) from nI_nlt (by omega) (by decide)
  refine z_of 1 false (by decide) (fun h => by first | rfl | cases h) (Nat.le_of_ble_eq_true rfl) trivial ?_
  intro p e s m args below meth c C hR
  refine zgo (cut := fun _ => false) 60 C lk_AS hR ?_
  simp only [zs_iconst, zs_ldc, zs_ldc2, zs_iload_n, zs_istore_n, zs_iadd, zs_icmp_ge, zs_icmp_gt, zs_ireturn, zx_iv, zx_is, zx_it, zx_nw, zx_na, zx_an, zx_cc, zx_gs, zx_as, zx_ae, zx_ac, zx_at, zr_seg, zr_t, zr_f, zr_tp, zr_fp, zr_lg, zr_lr, zr_lr0, zr_wi, zr_wr, zr_wn, zr_wl, zr_vo, zr_so, zr_sI, zr_sL, zr_sA, zr_sN, zr_in, zr_rd, zr_wr2, zr_kf, zr_k0, zr_k1, zr_k2, zr_k3, zr_k3n, zr_k10, zr_k11, zr_k12, zr_k13, zr_k13n, zr_ai, zr_af, zr_aw, zr_aL, zr_Lf, zr_Lw, zr_l2, zr_l20, zr_al, zr_an, zr_aq, zr_ag, zr_rfs, zr_rfn, zr_r1, zr_r2, zr_w0, zr_w1, zr_tl, zr_40, zr_41, zr_42, zr_43, d_AS_newLength_0, d_AS_newLength_1, d_AS_newLength_2, d_AS_newLength_3, d_AS_newLength_6, d_AS_newLength_7, d_AS_newLength_8, ci_0, d_AS_newLength_9, d_AS_newLength_10, zt_10_11, zo_10_11, d_AS_newLength_13, d_AS_newLength_14, lc_AS_200, d_AS_newLength_16, zt_16_5, zo_16_5, d_AS_newLength_19, d_AS_newLength_20, d_AS_newLength_21, d_AS_newLength_22, d_AS_newLength_23, d_AS_newLength_26, za_0, za_i, za_r, za_n, za_l, zu_s, zu_u, Nat.reduceAdd, Nat.reduceLT, Nat.reduceBEq, Nat.zero_add, Bool.false_or, Bool.or_false, Bool.true_or, Bool.or_true, Bool.false_and, Bool.and_false, Bool.true_and, Bool.and_true, true_and, and_true, true_or, or_true, eq_self, Nat.le_refl, List.getElem?_cons_succ, List.getElem?_cons_zero, List.set_cons_succ, List.set_cons_zero, zk_0, zk_1, zk_2, zk_3, zk_4, zq_1, zq_2, Option.isSome_some, Option.getD_some, Option.toList_some, Option.toList_none, List.cons_append, List.nil_append]
  refine zJ_max C d_AS_newLength_3 (by decide +kernel) (Nat.le_of_ble_eq_true rfl) (Nat.le_of_ble_eq_true rfl) ⟨(Nat.le_of_ble_eq_true rfl), (Nat.le_of_ble_eq_true rfl)⟩ ?_
  rw [e1]
  refine zgo (cut := fun _ => false) 60 C lk_AS hR ?_
  simp only [zs_iconst, zs_ldc, zs_ldc2, zs_iload_n, zs_istore_n, zs_iadd, zs_icmp_ge, zs_icmp_gt, zs_ireturn, zx_iv, zx_is, zx_it, zx_nw, zx_na, zx_an, zx_cc, zx_gs, zx_as, zx_ae, zx_ac, zx_at, zr_seg, zr_t, zr_f, zr_tp, zr_fp, zr_lg, zr_lr, zr_lr0, zr_wi, zr_wr, zr_wn, zr_wl, zr_vo, zr_so, zr_sI, zr_sL, zr_sA, zr_sN, zr_in, zr_rd, zr_wr2, zr_kf, zr_k0, zr_k1, zr_k2, zr_k3, zr_k3n, zr_k10, zr_k11, zr_k12, zr_k13, zr_k13n, zr_ai, zr_af, zr_aw, zr_aL, zr_Lf, zr_Lw, zr_l2, zr_l20, zr_al, zr_an, zr_aq, zr_ag, zr_rfs, zr_rfn, zr_r1, zr_r2, zr_w0, zr_w1, zr_tl, zr_40, zr_41, zr_42, zr_43, d_AS_newLength_0, d_AS_newLength_1, d_AS_newLength_2, d_AS_newLength_3, d_AS_newLength_6, d_AS_newLength_7, d_AS_newLength_8, ci_0, d_AS_newLength_9, d_AS_newLength_10, zt_10_11, zo_10_11, d_AS_newLength_13, d_AS_newLength_14, lc_AS_200, d_AS_newLength_16, zt_16_5, zo_16_5, d_AS_newLength_19, d_AS_newLength_20, d_AS_newLength_21, d_AS_newLength_22, d_AS_newLength_23, d_AS_newLength_26, za_0, za_i, za_r, za_n, za_l, zu_s, zu_u, Nat.reduceAdd, Nat.reduceLT, Nat.reduceBEq, Nat.zero_add, Bool.false_or, Bool.or_false, Bool.true_or, Bool.or_true, Bool.false_and, Bool.and_false, Bool.true_and, Bool.and_true, true_and, and_true, true_or, or_true, eq_self, Nat.le_refl, List.getElem?_cons_succ, List.getElem?_cons_zero, List.set_cons_succ, List.set_cons_zero, zk_0, zk_1, zk_2, zk_3, zk_4, zq_1, zq_2, Option.isSome_some, Option.getD_some, Option.toList_some, Option.toList_none, List.cons_append, List.nil_append, nI_add]
  exact ⟨fun h => absurd h e2, fun _ => ⟨fun h => absurd h e3, fun _ => trivial⟩⟩
set_option maxHeartbeats 4000000 in
set_option maxRecDepth 100000 in
theorem c_Ar_copyOf3 (l : Launch) (D : va_G) (dA : Nat → ClassId) (z : Nat) (M : zVw) (ed cap L : Nat) (g : Nat → Option Nat) (hE : M ed = some (zOa dA cap g)) (hc : cap ≤ L) (hL : L < 1000000) (hel : zEl M cap g) : zMet l y_Ar_copyOf3 b_Ar_copyOf3 4 (some (.array (.object "java/lang/Object"))) 1 40 1 L D dA z [.ref ed, .int (nI L), .ref (dA 101)] M (fun v M' => ∃ q, M q = none ∧ v = some (.ref q) ∧ M' = zu M q (zOa dA L (va_cpy g (fun _ => none) 0 0 cap))) := by
  refine z_of 3 false (by decide) (fun h => by first | rfl | cases h) (Nat.le_of_ble_eq_true rfl) trivial ?_
  intro p e s m args below meth c C hR
  refine zgo (cut := fun q => q == 1) 60 C lk_Ar hR ?_
  simp only [zs_iconst, zs_ldc, zs_ldc2, zs_iload_n, zs_aload_n, zs_astore_n0, zs_astore_n1, zs_goto, zs_alen, zs_areturn0, zs_areturn1, zx_iv, zx_is, zx_it, zx_nw, zx_na, zx_an, zx_cc, zx_gs, zx_as, zx_ae, zx_ac, zx_at, zr_seg, zr_t, zr_f, zr_tp, zr_fp, zr_lg, zr_lr, zr_lr0, zr_wi, zr_wr, zr_wn, zr_wl, zr_vo, zr_so, zr_sI, zr_sL, zr_sA, zr_sN, zr_in, zr_rd, zr_wr2, zr_kf, zr_k0, zr_k1, zr_k2, zr_k3, zr_k3n, zr_k10, zr_k11, zr_k12, zr_k13, zr_k13n, zr_ai, zr_af, zr_aw, zr_aL, zr_Lf, zr_Lw, zr_l2, zr_l20, zr_al, zr_an, zr_aq, zr_ag, zr_rfs, zr_rfn, zr_r1, zr_r2, zr_w0, zr_w1, zr_tl, zr_40, zr_41, zr_42, zr_43, d_Ar_copyOf3_0, d_Ar_copyOf3_1, d_Ar_copyOf3_3, zt_3_10, zo_3_10, d_Ar_copyOf3_6, d_Ar_copyOf3_7, d_Ar_copyOf3_10, zt_10_14, zo_10_14, d_Ar_copyOf3_13, d_Ar_copyOf3_14, d_Ar_copyOf3_17, d_Ar_copyOf3_18, d_Ar_copyOf3_21, d_Ar_copyOf3_24, d_Ar_copyOf3_25, d_Ar_copyOf3_26, ci_0, d_Ar_copyOf3_27, d_Ar_copyOf3_28, d_Ar_copyOf3_29, d_Ar_copyOf3_30, d_Ar_copyOf3_31, d_Ar_copyOf3_32, d_Ar_copyOf3_35, d_Ar_copyOf3_38, d_Ar_copyOf3_39, za_0, za_i, za_r, za_n, za_l, zu_s, zu_u, Nat.reduceAdd, Nat.reduceLT, Nat.reduceBEq, Nat.zero_add, Bool.false_or, Bool.or_false, Bool.true_or, Bool.or_true, Bool.false_and, Bool.and_false, Bool.true_and, Bool.and_true, true_and, and_true, true_or, or_true, eq_self, Nat.le_refl, List.getElem?_cons_succ, List.getElem?_cons_zero, List.set_cons_succ, List.set_cons_zero, zk_0, zk_1, zk_2, zk_3, zk_4, zq_1, zq_2, Option.isSome_some, Option.getD_some, Option.toList_some, Option.toList_none, List.cons_append, List.nil_append]
  refine zJ_ldM C d_Ar_copyOf3_1 (by decide +kernel) ?_
  refine zJ_acN C d_Ar_copyOf3_3 (by unfold zo; decide) (fun h => absurd rfl h) (fun _ => ?_)
  refine zgo (cut := fun _ => false) 60 C lk_Ar hR ?_
  simp only [zs_iconst, zs_ldc, zs_ldc2, zs_iload_n, zs_aload_n, zs_astore_n0, zs_astore_n1, zs_goto, zs_alen, zs_areturn0, zs_areturn1, zx_iv, zx_is, zx_it, zx_nw, zx_na, zx_an, zx_cc, zx_gs, zx_as, zx_ae, zx_ac, zx_at, zr_seg, zr_t, zr_f, zr_tp, zr_fp, zr_lg, zr_lr, zr_lr0, zr_wi, zr_wr, zr_wn, zr_wl, zr_vo, zr_so, zr_sI, zr_sL, zr_sA, zr_sN, zr_in, zr_rd, zr_wr2, zr_kf, zr_k0, zr_k1, zr_k2, zr_k3, zr_k3n, zr_k10, zr_k11, zr_k12, zr_k13, zr_k13n, zr_ai, zr_af, zr_aw, zr_aL, zr_Lf, zr_Lw, zr_l2, zr_l20, zr_al, zr_an, zr_aq, zr_ag, zr_rfs, zr_rfn, zr_r1, zr_r2, zr_w0, zr_w1, zr_tl, zr_40, zr_41, zr_42, zr_43, d_Ar_copyOf3_0, d_Ar_copyOf3_1, d_Ar_copyOf3_3, zt_3_10, zo_3_10, d_Ar_copyOf3_6, d_Ar_copyOf3_7, d_Ar_copyOf3_10, zt_10_14, zo_10_14, d_Ar_copyOf3_13, d_Ar_copyOf3_14, d_Ar_copyOf3_17, d_Ar_copyOf3_18, d_Ar_copyOf3_21, d_Ar_copyOf3_24, d_Ar_copyOf3_25, d_Ar_copyOf3_26, ci_0, d_Ar_copyOf3_27, d_Ar_copyOf3_28, d_Ar_copyOf3_29, d_Ar_copyOf3_30, d_Ar_copyOf3_31, d_Ar_copyOf3_32, d_Ar_copyOf3_35, d_Ar_copyOf3_38, d_Ar_copyOf3_39, za_0, za_i, za_r, za_n, za_l, zu_s, zu_u, Nat.reduceAdd, Nat.reduceLT, Nat.reduceBEq, Nat.zero_add, Bool.false_or, Bool.or_false, Bool.true_or, Bool.or_true, Bool.false_and, Bool.and_false, Bool.true_and, Bool.and_true, true_and, and_true, true_or, or_true, eq_self, Nat.le_refl, List.getElem?_cons_succ, List.getElem?_cons_zero, List.set_cons_succ, List.set_cons_zero, zk_0, zk_1, zk_2, zk_3, zk_4, zq_1, zq_2, Option.isSome_some, Option.getD_some, Option.toList_some, Option.toList_none, List.cons_append, List.nil_append]
  refine zJ_newQ (t := 2) (N := L) (C0 := "java/lang/Object") C d_Ar_copyOf3_7 (by decide +kernel) C.2.2.2.2.2.2.2.2.2.2.2.2.2.2 rfl rfl hL ⟨by show 0 + 1 ≤ 1; omega, by show 0 + L ≤ L; omega⟩ (fun q hq hzq => ?_)
  have hne : ed ≠ q := fun e => by rw [e, hq] at hE; cases hE
  have hE2 := hE
  unfold zOa at hE2
  refine zgo (cut := fun _ => false) 60 C lk_Ar hR ?_
  simp only [zs_iconst, zs_ldc, zs_ldc2, zs_iload_n, zs_aload_n, zs_astore_n0, zs_astore_n1, zs_goto, zs_alen, zs_areturn0, zs_areturn1, zx_iv, zx_is, zx_it, zx_nw, zx_na, zx_an, zx_cc, zx_gs, zx_as, zx_ae, zx_ac, zx_at, zr_seg, zr_t, zr_f, zr_tp, zr_fp, zr_lg, zr_lr, zr_lr0, zr_wi, zr_wr, zr_wn, zr_wl, zr_vo, zr_so, zr_sI, zr_sL, zr_sA, zr_sN, zr_in, zr_rd, zr_wr2, zr_kf, zr_k0, zr_k1, zr_k2, zr_k3, zr_k3n, zr_k10, zr_k11, zr_k12, zr_k13, zr_k13n, zr_ai, zr_af, zr_aw, zr_aL, zr_Lf, zr_Lw, zr_l2, zr_l20, zr_al, zr_an, zr_aq, zr_ag, zr_rfs, zr_rfn, zr_r1, zr_r2, zr_w0, zr_w1, zr_tl, zr_40, zr_41, zr_42, zr_43, d_Ar_copyOf3_0, d_Ar_copyOf3_1, d_Ar_copyOf3_3, zt_3_10, zo_3_10, d_Ar_copyOf3_6, d_Ar_copyOf3_7, d_Ar_copyOf3_10, zt_10_14, zo_10_14, d_Ar_copyOf3_13, d_Ar_copyOf3_14, d_Ar_copyOf3_17, d_Ar_copyOf3_18, d_Ar_copyOf3_21, d_Ar_copyOf3_24, d_Ar_copyOf3_25, d_Ar_copyOf3_26, ci_0, d_Ar_copyOf3_27, d_Ar_copyOf3_28, d_Ar_copyOf3_29, d_Ar_copyOf3_30, d_Ar_copyOf3_31, d_Ar_copyOf3_32, d_Ar_copyOf3_35, d_Ar_copyOf3_38, d_Ar_copyOf3_39, za_0, za_i, za_r, za_n, za_l, zu_s, zu_u, Nat.reduceAdd, Nat.reduceLT, Nat.reduceBEq, Nat.zero_add, Bool.false_or, Bool.or_false, Bool.true_or, Bool.or_true, Bool.false_and, Bool.and_false, Bool.true_and, Bool.and_true, true_and, and_true, true_or, or_true, eq_self, Nat.le_refl, List.getElem?_cons_succ, List.getElem?_cons_zero, List.set_cons_succ, List.set_cons_zero, zk_0, zk_1, zk_2, zk_3, zk_4, zq_1, zq_2, Option.isSome_some, Option.getD_some, Option.toList_some, Option.toList_none, List.cons_append, List.nil_append, hE2, zu_n hne]
  refine zJ_min C d_Ar_copyOf3_32 (by decide +kernel) (Nat.le_of_ble_eq_true rfl) (Nat.le_of_ble_eq_true rfl) ⟨(Nat.le_of_ble_eq_true rfl), by show L ≤ L; omega⟩ ?_
  rw [if_neg (show ¬ nI L < Int32.ofNat cap from nI_nlt hc (by omega))]
  refine zJ_cp (N := cap) (n0 := cap) (n1 := L) (f := g) (g := fun _ => none) C d_Ar_copyOf3_35 (by decide +kernel) (by rw [zu_n hne]; exact hE) (zu_s _ _ _) rfl (by omega) (Nat.le_refl _) hc (zEl_u hel hq) (Nat.le_of_ble_eq_true rfl) (Nat.le_of_ble_eq_true rfl) ?_
  refine zgo (cut := fun _ => false) 60 C lk_Ar hR ?_
  simp only [zs_iconst, zs_ldc, zs_ldc2, zs_iload_n, zs_aload_n, zs_astore_n0, zs_astore_n1, zs_goto, zs_alen, zs_areturn0, zs_areturn1, zx_iv, zx_is, zx_it, zx_nw, zx_na, zx_an, zx_cc, zx_gs, zx_as, zx_ae, zx_ac, zx_at, zr_seg, zr_t, zr_f, zr_tp, zr_fp, zr_lg, zr_lr, zr_lr0, zr_wi, zr_wr, zr_wn, zr_wl, zr_vo, zr_so, zr_sI, zr_sL, zr_sA, zr_sN, zr_in, zr_rd, zr_wr2, zr_kf, zr_k0, zr_k1, zr_k2, zr_k3, zr_k3n, zr_k10, zr_k11, zr_k12, zr_k13, zr_k13n, zr_ai, zr_af, zr_aw, zr_aL, zr_Lf, zr_Lw, zr_l2, zr_l20, zr_al, zr_an, zr_aq, zr_ag, zr_rfs, zr_rfn, zr_r1, zr_r2, zr_w0, zr_w1, zr_tl, zr_40, zr_41, zr_42, zr_43, d_Ar_copyOf3_0, d_Ar_copyOf3_1, d_Ar_copyOf3_3, zt_3_10, zo_3_10, d_Ar_copyOf3_6, d_Ar_copyOf3_7, d_Ar_copyOf3_10, zt_10_14, zo_10_14, d_Ar_copyOf3_13, d_Ar_copyOf3_14, d_Ar_copyOf3_17, d_Ar_copyOf3_18, d_Ar_copyOf3_21, d_Ar_copyOf3_24, d_Ar_copyOf3_25, d_Ar_copyOf3_26, ci_0, d_Ar_copyOf3_27, d_Ar_copyOf3_28, d_Ar_copyOf3_29, d_Ar_copyOf3_30, d_Ar_copyOf3_31, d_Ar_copyOf3_32, d_Ar_copyOf3_35, d_Ar_copyOf3_38, d_Ar_copyOf3_39, za_0, za_i, za_r, za_n, za_l, zu_s, zu_u, Nat.reduceAdd, Nat.reduceLT, Nat.reduceBEq, Nat.zero_add, Bool.false_or, Bool.or_false, Bool.true_or, Bool.or_true, Bool.false_and, Bool.and_false, Bool.true_and, Bool.and_true, true_and, and_true, true_or, or_true, eq_self, Nat.le_refl, List.getElem?_cons_succ, List.getElem?_cons_zero, List.set_cons_succ, List.set_cons_zero, zk_0, zk_1, zk_2, zk_3, zk_4, zq_1, zq_2, Option.isSome_some, Option.getD_some, Option.toList_some, Option.toList_none, List.cons_append, List.nil_append]
  exact ⟨q, hq, rfl, rfl⟩
set_option maxHeartbeats 4000000 in
set_option maxRecDepth 100000 in
theorem c_Ar_copyOf2 (l : Launch) (D : va_G) (dA : Nat → ClassId) (z : Nat) (M : zVw) (ed cap L : Nat) (g : Nat → Option Nat) (hE : M ed = some (zOa dA cap g)) (hc : cap ≤ L) (hL : L < 1000000) (hel : zEl M cap g) : zMet l y_Ar_copyOf2 b_Ar_copyOf2 2 (some (.array (.object "java/lang/Object"))) 2 63 1 L D dA z [.ref ed, .int (nI L)] M (fun v M' => ∃ q, M q = none ∧ v = some (.ref q) ∧ M' = zu M q (zOa dA L (va_cpy g (fun _ => none) 0 0 cap))) := by
  refine z_of 3 false (by decide) (fun h => by first | rfl | cases h) (Nat.le_of_ble_eq_true rfl) trivial ?_
  intro p e s m args below meth c C hR
  refine zgo (cut := fun _ => false) 60 C lk_Ar hR ?_
  simp only [zs_iload_n, zs_aload_n, zs_areturn0, zs_areturn1, zx_iv, zx_is, zx_it, zx_nw, zx_na, zx_an, zx_cc, zx_gs, zx_as, zx_ae, zx_ac, zx_at, zr_seg, zr_t, zr_f, zr_tp, zr_fp, zr_lg, zr_lr, zr_lr0, zr_wi, zr_wr, zr_wn, zr_wl, zr_vo, zr_so, zr_sI, zr_sL, zr_sA, zr_sN, zr_in, zr_rd, zr_wr2, zr_kf, zr_k0, zr_k1, zr_k2, zr_k3, zr_k3n, zr_k10, zr_k11, zr_k12, zr_k13, zr_k13n, zr_ai, zr_af, zr_aw, zr_aL, zr_Lf, zr_Lw, zr_l2, zr_l20, zr_al, zr_an, zr_aq, zr_ag, zr_rfs, zr_rfn, zr_r1, zr_r2, zr_w0, zr_w1, zr_tl, zr_40, zr_41, zr_42, zr_43, d_Ar_copyOf2_0, d_Ar_copyOf2_1, d_Ar_copyOf2_2, d_Ar_copyOf2_3, d_Ar_copyOf2_6, d_Ar_copyOf2_9, za_0, za_i, za_r, za_n, za_l, zu_s, zu_u, Nat.reduceAdd, Nat.reduceLT, Nat.reduceBEq, Nat.zero_add, Bool.false_or, Bool.or_false, Bool.true_or, Bool.or_true, Bool.false_and, Bool.and_false, Bool.true_and, Bool.and_true, true_and, and_true, true_or, or_true, eq_self, Nat.le_refl, List.getElem?_cons_succ, List.getElem?_cons_zero, List.set_cons_succ, List.set_cons_zero, zk_0, zk_1, zk_2, zk_3, zk_4, zq_1, zq_2, Option.isSome_some, Option.getD_some, Option.toList_some, Option.toList_none, List.cons_append, List.nil_append]
  refine zJ_gC C d_Ar_copyOf2_3 (by decide +kernel) hE (Nat.le_of_ble_eq_true rfl) (Nat.le_of_ble_eq_true rfl) ?_
  refine zJ_callS (As := [.ref ed, .int (nI L), .ref (dA 101)]) (rest := []) C d_Ar_copyOf2_6 (c_Ar_copyOf3 l D dA z M ed cap L g hE hc hL hel) k_Ar_300 s_Ar_copyOf3 ⟨(Nat.le_of_ble_eq_true rfl), (Nat.le_of_ble_eq_true rfl)⟩ ⟨by show 0 + 1 ≤ 1; omega, by show 0 + L ≤ L; omega⟩ rfl (Nat.le_of_ble_eq_true rfl) ?_
  rintro v M' ⟨q, hq, rfl, rfl⟩
  refine zgo (cut := fun _ => false) 60 C lk_Ar hR ?_
  simp only [zs_iload_n, zs_aload_n, zs_areturn0, zs_areturn1, zx_iv, zx_is, zx_it, zx_nw, zx_na, zx_an, zx_cc, zx_gs, zx_as, zx_ae, zx_ac, zx_at, zr_seg, zr_t, zr_f, zr_tp, zr_fp, zr_lg, zr_lr, zr_lr0, zr_wi, zr_wr, zr_wn, zr_wl, zr_vo, zr_so, zr_sI, zr_sL, zr_sA, zr_sN, zr_in, zr_rd, zr_wr2, zr_kf, zr_k0, zr_k1, zr_k2, zr_k3, zr_k3n, zr_k10, zr_k11, zr_k12, zr_k13, zr_k13n, zr_ai, zr_af, zr_aw, zr_aL, zr_Lf, zr_Lw, zr_l2, zr_l20, zr_al, zr_an, zr_aq, zr_ag, zr_rfs, zr_rfn, zr_r1, zr_r2, zr_w0, zr_w1, zr_tl, zr_40, zr_41, zr_42, zr_43, d_Ar_copyOf2_0, d_Ar_copyOf2_1, d_Ar_copyOf2_2, d_Ar_copyOf2_3, d_Ar_copyOf2_6, d_Ar_copyOf2_9, za_0, za_i, za_r, za_n, za_l, zu_s, zu_u, Nat.reduceAdd, Nat.reduceLT, Nat.reduceBEq, Nat.zero_add, Bool.false_or, Bool.or_false, Bool.true_or, Bool.or_true, Bool.false_and, Bool.and_false, Bool.true_and, Bool.and_true, true_and, and_true, true_or, or_true, eq_self, Nat.le_refl, List.getElem?_cons_succ, List.getElem?_cons_zero, List.set_cons_succ, List.set_cons_zero, zk_0, zk_1, zk_2, zk_3, zk_4, zq_1, zq_2, Option.isSome_some, Option.getD_some, Option.toList_some, Option.toList_none, List.cons_append, List.nil_append]
  exact ⟨q, hq, rfl, rfl⟩
def zLs (M : zVw) (dA : Nat → ClassId) (a ed n cap : Nat) (g : Nat → Option Nat) (mo : Int32) : Prop := M a = some (zLi ed n mo) ∧ ((ed = dA 100 ∧ n = 0 ∧ cap = 0) ∨ (M ed = some (zOa dA cap g) ∧ n ≤ cap ∧ 2 ≤ cap))
set_option maxHeartbeats 4000000 in
set_option maxRecDepth 100000 in
theorem c_L_grow1 (l : Launch) (D : va_G) (dA : Nat → ClassId) (z : Nat) (M : zVw) (a ed n : Nat) (g : Nat → Option Nat) (mo : Int32) (hL : zLs M dA a ed n n g mo) (h4 : n ≤ 20000) (hel : zEl M n g) : zMet l y_L_grow1 b_L_grow1 4 (some (.array (.object "java/lang/Object"))) 3 84 1 (n + n / 2 + 10) D dA z [.ref a, .int (nI (n + 1))] M (fun v M' => ∃ q cap' g', M q = none ∧ v = some (.ref q) ∧ M' = zu (zu M q (zOa dA cap' g')) a (zLi q n mo) ∧ n < cap' ∧ 2 ≤ cap' ∧ cap' ≤ n + n / 2 + 10 ∧ ∀ j, j < n → g' j = g j) := by
  obtain ⟨hA, hL⟩ := hL
  have hA2 := hA
  unfold zLi at hA2
  refine z_of 3 false (by decide) (fun h => by first | rfl | cases h) (Nat.le_of_ble_eq_true rfl) trivial ?_
  intro p e s m args below meth c C hR
  rcases hL with ⟨rfl, rfl, -⟩ | ⟨hE, -, h2⟩
  · refine zgo (cut := fun q => q == 4) 60 C lk_L hR ?_
    simp only [zs_iconst, zs_bipush, zs_iload_n, zs_aload_n, zs_istore_n, zs_isub, zs_ishr, zs_dup_x10, zs_dup_x11, zs_if_gt, zs_get, zs_put, zs_alen, zs_areturn0, zs_areturn1, zx_iv, zx_is, zx_it, zx_nw, zx_na, zx_an, zx_cc, zx_gs, zx_as, zx_ae, zx_ac, zx_at, zr_seg, zr_t, zr_f, zr_tp, zr_fp, zr_lg, zr_lr, zr_lr0, zr_wi, zr_wr, zr_wn, zr_wl, zr_vo, zr_so, zr_sI, zr_sL, zr_sA, zr_sN, zr_in, zr_rd, zr_wr2, zr_kf, zr_k0, zr_k1, zr_k2, zr_k3, zr_k3n, zr_k10, zr_k11, zr_k12, zr_k13, zr_k13n, zr_ai, zr_af, zr_aw, zr_aL, zr_Lf, zr_Lw, zr_l2, zr_l20, zr_al, zr_an, zr_aq, zr_ag, zr_rfs, zr_rfn, zr_r1, zr_r2, zr_w0, zr_w1, zr_tl, zr_40, zr_41, zr_42, zr_43, d_L_grow1_0, d_L_grow1_1, fl_L_9, d_L_grow1_4, d_L_grow1_5, d_L_grow1_6, d_L_grow1_7, zt_7_13, zo_7_13, d_L_grow1_10, d_L_grow1_11, d_L_grow1_14, d_L_grow1_17, zt_17_28, zo_17_28, d_L_grow1_20, d_L_grow1_21, d_L_grow1_22, d_L_grow1_23, d_L_grow1_24, d_L_grow1_25, ci_1, d_L_grow1_26, d_L_grow1_27, d_L_grow1_30, d_L_grow1_31, d_L_grow1_32, d_L_grow1_33, d_L_grow1_36, d_L_grow1_37, d_L_grow1_40, d_L_grow1_41, d_L_grow1_44, d_L_grow1_45, d_L_grow1_46, cb_10, d_L_grow1_48, d_L_grow1_49, d_L_grow1_52, d_L_grow1_55, d_L_grow1_56, d_L_grow1_59, za_0, za_i, za_r, za_n, za_l, zu_s, zu_u, Nat.reduceAdd, Nat.reduceLT, Nat.reduceBEq, Nat.zero_add, Bool.false_or, Bool.or_false, Bool.true_or, Bool.or_true, Bool.false_and, Bool.and_false, Bool.true_and, Bool.and_true, true_and, and_true, true_or, or_true, eq_self, Nat.le_refl, List.getElem?_cons_succ, List.getElem?_cons_zero, List.set_cons_succ, List.set_cons_zero, zk_0, zk_1, zk_2, zk_3, zk_4, zq_1, zq_2, Option.isSome_some, Option.getD_some, Option.toList_some, Option.toList_none, List.cons_append, List.nil_append, hA2]
    refine zJ_alen0 C d_L_grow1_4 ?_
    refine zgo (cut := fun _ => false) 60 C lk_L hR ?_
    simp only [zs_iconst, zs_bipush, zs_iload_n, zs_aload_n, zs_istore_n, zs_isub, zs_ishr, zs_dup_x10, zs_dup_x11, zs_if_gt, zs_get, zs_put, zs_alen, zs_areturn0, zs_areturn1, zx_iv, zx_is, zx_it, zx_nw, zx_na, zx_an, zx_cc, zx_gs, zx_as, zx_ae, zx_ac, zx_at, zr_seg, zr_t, zr_f, zr_tp, zr_fp, zr_lg, zr_lr, zr_lr0, zr_wi, zr_wr, zr_wn, zr_wl, zr_vo, zr_so, zr_sI, zr_sL, zr_sA, zr_sN, zr_in, zr_rd, zr_wr2, zr_kf, zr_k0, zr_k1, zr_k2, zr_k3, zr_k3n, zr_k10, zr_k11, zr_k12, zr_k13, zr_k13n, zr_ai, zr_af, zr_aw, zr_aL, zr_Lf, zr_Lw, zr_l2, zr_l20, zr_al, zr_an, zr_aq, zr_ag, zr_rfs, zr_rfn, zr_r1, zr_r2, zr_w0, zr_w1, zr_tl, zr_40, zr_41, zr_42, zr_43, d_L_grow1_0, d_L_grow1_1, fl_L_9, d_L_grow1_4, d_L_grow1_5, d_L_grow1_6, d_L_grow1_7, zt_7_13, zo_7_13, d_L_grow1_10, d_L_grow1_11, d_L_grow1_14, d_L_grow1_17, zt_17_28, zo_17_28, d_L_grow1_20, d_L_grow1_21, d_L_grow1_22, d_L_grow1_23, d_L_grow1_24, d_L_grow1_25, ci_1, d_L_grow1_26, d_L_grow1_27, d_L_grow1_30, d_L_grow1_31, d_L_grow1_32, d_L_grow1_33, d_L_grow1_36, d_L_grow1_37, d_L_grow1_40, d_L_grow1_41, d_L_grow1_44, d_L_grow1_45, d_L_grow1_46, cb_10, d_L_grow1_48, d_L_grow1_49, d_L_grow1_52, d_L_grow1_55, d_L_grow1_56, d_L_grow1_59, za_0, za_i, za_r, za_n, za_l, zu_s, zu_u, Nat.reduceAdd, Nat.reduceLT, Nat.reduceBEq, Nat.zero_add, Bool.false_or, Bool.or_false, Bool.true_or, Bool.or_true, Bool.false_and, Bool.and_false, Bool.true_and, Bool.and_true, true_and, and_true, true_or, or_true, eq_self, Nat.le_refl, List.getElem?_cons_succ, List.getElem?_cons_zero, List.set_cons_succ, List.set_cons_zero, zk_0, zk_1, zk_2, zk_3, zk_4, zq_1, zq_2, Option.isSome_some, Option.getD_some, Option.toList_some, Option.toList_none, List.cons_append, List.nil_append, hA2]
    refine ⟨fun h => absurd h (by decide), fun _ => ?_⟩
    refine zJ_gs C d_L_grow1_14 (by decide +kernel) ?_
    refine zJ_acE C d_L_grow1_17 (by unfold zo; decide) (fun _ => ?_) (fun h => absurd rfl h)
    refine zgo (cut := fun _ => false) 60 C lk_L hR ?_
    simp only [zs_iconst, zs_bipush, zs_iload_n, zs_aload_n, zs_istore_n, zs_isub, zs_ishr, zs_dup_x10, zs_dup_x11, zs_if_gt, zs_get, zs_put, zs_alen, zs_areturn0, zs_areturn1, zx_iv, zx_is, zx_it, zx_nw, zx_na, zx_an, zx_cc, zx_gs, zx_as, zx_ae, zx_ac, zx_at, zr_seg, zr_t, zr_f, zr_tp, zr_fp, zr_lg, zr_lr, zr_lr0, zr_wi, zr_wr, zr_wn, zr_wl, zr_vo, zr_so, zr_sI, zr_sL, zr_sA, zr_sN, zr_in, zr_rd, zr_wr2, zr_kf, zr_k0, zr_k1, zr_k2, zr_k3, zr_k3n, zr_k10, zr_k11, zr_k12, zr_k13, zr_k13n, zr_ai, zr_af, zr_aw, zr_aL, zr_Lf, zr_Lw, zr_l2, zr_l20, zr_al, zr_an, zr_aq, zr_ag, zr_rfs, zr_rfn, zr_r1, zr_r2, zr_w0, zr_w1, zr_tl, zr_40, zr_41, zr_42, zr_43, d_L_grow1_0, d_L_grow1_1, fl_L_9, d_L_grow1_4, d_L_grow1_5, d_L_grow1_6, d_L_grow1_7, zt_7_13, zo_7_13, d_L_grow1_10, d_L_grow1_11, d_L_grow1_14, d_L_grow1_17, zt_17_28, zo_17_28, d_L_grow1_20, d_L_grow1_21, d_L_grow1_22, d_L_grow1_23, d_L_grow1_24, d_L_grow1_25, ci_1, d_L_grow1_26, d_L_grow1_27, d_L_grow1_30, d_L_grow1_31, d_L_grow1_32, d_L_grow1_33, d_L_grow1_36, d_L_grow1_37, d_L_grow1_40, d_L_grow1_41, d_L_grow1_44, d_L_grow1_45, d_L_grow1_46, cb_10, d_L_grow1_48, d_L_grow1_49, d_L_grow1_52, d_L_grow1_55, d_L_grow1_56, d_L_grow1_59, za_0, za_i, za_r, za_n, za_l, zu_s, zu_u, Nat.reduceAdd, Nat.reduceLT, Nat.reduceBEq, Nat.zero_add, Bool.false_or, Bool.or_false, Bool.true_or, Bool.or_true, Bool.false_and, Bool.and_false, Bool.true_and, Bool.and_true, true_and, and_true, true_or, or_true, eq_self, Nat.le_refl, List.getElem?_cons_succ, List.getElem?_cons_zero, List.set_cons_succ, List.set_cons_zero, zk_0, zk_1, zk_2, zk_3, zk_4, zq_1, zq_2, Option.isSome_some, Option.getD_some, Option.toList_some, Option.toList_none, List.cons_append, List.nil_append, hA2]
    refine zJ_max C d_L_grow1_49 (by decide +kernel) (Nat.le_of_ble_eq_true rfl) (Nat.le_of_ble_eq_true rfl) ⟨(Nat.le_of_ble_eq_true rfl), (Nat.le_of_ble_eq_true rfl)⟩ ?_
    rw [show (if (10 : Int32) < nI 1 then nI 1 else 10) = nI 10 by decide]
    refine zJ_newQ (t := 2) (N := 10) (C0 := "java/lang/Object") C d_L_grow1_52 (by decide +kernel) C.2.2.2.2.2.2.2.2.2.2.2.2.2.2 rfl rfl (by omega) ⟨(Nat.le_of_ble_eq_true rfl), (Nat.le_of_ble_eq_true rfl)⟩ (fun q hq hzq => ?_)
    have hne : a ≠ q := fun e => by rw [e, hq] at hA; cases hA
    refine zgo (cut := fun _ => false) 60 C lk_L hR ?_
    simp only [zs_iconst, zs_bipush, zs_iload_n, zs_aload_n, zs_istore_n, zs_isub, zs_ishr, zs_dup_x10, zs_dup_x11, zs_if_gt, zs_get, zs_put, zs_alen, zs_areturn0, zs_areturn1, zx_iv, zx_is, zx_it, zx_nw, zx_na, zx_an, zx_cc, zx_gs, zx_as, zx_ae, zx_ac, zx_at, zr_seg, zr_t, zr_f, zr_tp, zr_fp, zr_lg, zr_lr, zr_lr0, zr_wi, zr_wr, zr_wn, zr_wl, zr_vo, zr_so, zr_sI, zr_sL, zr_sA, zr_sN, zr_in, zr_rd, zr_wr2, zr_kf, zr_k0, zr_k1, zr_k2, zr_k3, zr_k3n, zr_k10, zr_k11, zr_k12, zr_k13, zr_k13n, zr_ai, zr_af, zr_aw, zr_aL, zr_Lf, zr_Lw, zr_l2, zr_l20, zr_al, zr_an, zr_aq, zr_ag, zr_rfs, zr_rfn, zr_r1, zr_r2, zr_w0, zr_w1, zr_tl, zr_40, zr_41, zr_42, zr_43, d_L_grow1_0, d_L_grow1_1, fl_L_9, d_L_grow1_4, d_L_grow1_5, d_L_grow1_6, d_L_grow1_7, zt_7_13, zo_7_13, d_L_grow1_10, d_L_grow1_11, d_L_grow1_14, d_L_grow1_17, zt_17_28, zo_17_28, d_L_grow1_20, d_L_grow1_21, d_L_grow1_22, d_L_grow1_23, d_L_grow1_24, d_L_grow1_25, ci_1, d_L_grow1_26, d_L_grow1_27, d_L_grow1_30, d_L_grow1_31, d_L_grow1_32, d_L_grow1_33, d_L_grow1_36, d_L_grow1_37, d_L_grow1_40, d_L_grow1_41, d_L_grow1_44, d_L_grow1_45, d_L_grow1_46, cb_10, d_L_grow1_48, d_L_grow1_49, d_L_grow1_52, d_L_grow1_55, d_L_grow1_56, d_L_grow1_59, za_0, za_i, za_r, za_n, za_l, zu_s, zu_u, Nat.reduceAdd, Nat.reduceLT, Nat.reduceBEq, Nat.zero_add, Bool.false_or, Bool.or_false, Bool.true_or, Bool.or_true, Bool.false_and, Bool.and_false, Bool.true_and, Bool.and_true, true_and, and_true, true_or, or_true, eq_self, Nat.le_refl, List.getElem?_cons_succ, List.getElem?_cons_zero, List.set_cons_succ, List.set_cons_zero, zk_0, zk_1, zk_2, zk_3, zk_4, zq_1, zq_2, Option.isSome_some, Option.getD_some, Option.toList_some, Option.toList_none, List.cons_append, List.nil_append, hA2, zu_n hne]
    exact ⟨q, 10, fun _ => none, hq, rfl, rfl, by omega, by omega, by omega, fun j hj => absurd hj (by omega)⟩
  · have hE2 := hE
    unfold zOa at hE2
    have e1 : nI (n + 1) - Int32.ofNat n = nI 1 := by
      have k := pk_sub (a := n + 1) (b := n) (by omega)
      rw [Nat.add_sub_cancel_left] at k
      exact k
    have e2 : Int32.ofNat n >>> ((1 : Int32) &&& 31) = nI (n / 2) := by
      have k := pk_shrN (n := n) (by omega) ((1 : Int32) &&& 31) 1 (by decide)
      rw [Nat.pow_one] at k
      exact k
    refine zgo (cut := fun _ => false) 60 C lk_L hR ?_
    simp only [zs_iconst, zs_bipush, zs_iload_n, zs_aload_n, zs_istore_n, zs_isub, zs_ishr, zs_dup_x10, zs_dup_x11, zs_if_gt, zs_get, zs_put, zs_alen, zs_areturn0, zs_areturn1, zx_iv, zx_is, zx_it, zx_nw, zx_na, zx_an, zx_cc, zx_gs, zx_as, zx_ae, zx_ac, zx_at, zr_seg, zr_t, zr_f, zr_tp, zr_fp, zr_lg, zr_lr, zr_lr0, zr_wi, zr_wr, zr_wn, zr_wl, zr_vo, zr_so, zr_sI, zr_sL, zr_sA, zr_sN, zr_in, zr_rd, zr_wr2, zr_kf, zr_k0, zr_k1, zr_k2, zr_k3, zr_k3n, zr_k10, zr_k11, zr_k12, zr_k13, zr_k13n, zr_ai, zr_af, zr_aw, zr_aL, zr_Lf, zr_Lw, zr_l2, zr_l20, zr_al, zr_an, zr_aq, zr_ag, zr_rfs, zr_rfn, zr_r1, zr_r2, zr_w0, zr_w1, zr_tl, zr_40, zr_41, zr_42, zr_43, d_L_grow1_0, d_L_grow1_1, fl_L_9, d_L_grow1_4, d_L_grow1_5, d_L_grow1_6, d_L_grow1_7, zt_7_13, zo_7_13, d_L_grow1_10, d_L_grow1_11, d_L_grow1_14, d_L_grow1_17, zt_17_28, zo_17_28, d_L_grow1_20, d_L_grow1_21, d_L_grow1_22, d_L_grow1_23, d_L_grow1_24, d_L_grow1_25, ci_1, d_L_grow1_26, d_L_grow1_27, d_L_grow1_30, d_L_grow1_31, d_L_grow1_32, d_L_grow1_33, d_L_grow1_36, d_L_grow1_37, d_L_grow1_40, d_L_grow1_41, d_L_grow1_44, d_L_grow1_45, d_L_grow1_46, cb_10, d_L_grow1_48, d_L_grow1_49, d_L_grow1_52, d_L_grow1_55, d_L_grow1_56, d_L_grow1_59, za_0, za_i, za_r, za_n, za_l, zu_s, zu_u, Nat.reduceAdd, Nat.reduceLT, Nat.reduceBEq, Nat.zero_add, Bool.false_or, Bool.or_false, Bool.true_or, Bool.or_true, Bool.false_and, Bool.and_false, Bool.true_and, Bool.and_true, true_and, and_true, true_or, or_true, eq_self, Nat.le_refl, List.getElem?_cons_succ, List.getElem?_cons_zero, List.set_cons_succ, List.set_cons_zero, zk_0, zk_1, zk_2, zk_3, zk_4, zq_1, zq_2, Option.isSome_some, Option.getD_some, Option.toList_some, Option.toList_none, List.cons_append, List.nil_append, hA2, hE2, e1, e2]
    refine ⟨fun _ => ?_, fun h => absurd (show (0 : Int32) < Int32.ofNat n from nI_lt (a := 0) (b := n) (by omega) (by omega)) h⟩
    refine zJ_callS (As := [.int (nI n), .int (nI 1), .int (nI (n / 2))]) (rest := []) C d_L_grow1_27 (c_AS_newLength l D dA z M n h2 (by omega)) k_L_73 s_AS_newLength ⟨(Nat.le_of_ble_eq_true rfl), (Nat.le_of_ble_eq_true rfl)⟩ ⟨by show 0 + 0 ≤ 1; omega, by show 0 + 0 ≤ n + n / 2 + 10; omega⟩ rfl (Nat.le_of_ble_eq_true rfl) ?_
    rintro v M' ⟨rfl, rfl⟩
    refine zgo (cut := fun _ => false) 60 C lk_L hR ?_
    simp only [zs_iconst, zs_bipush, zs_iload_n, zs_aload_n, zs_istore_n, zs_isub, zs_ishr, zs_dup_x10, zs_dup_x11, zs_if_gt, zs_get, zs_put, zs_alen, zs_areturn0, zs_areturn1, zx_iv, zx_is, zx_it, zx_nw, zx_na, zx_an, zx_cc, zx_gs, zx_as, zx_ae, zx_ac, zx_at, zr_seg, zr_t, zr_f, zr_tp, zr_fp, zr_lg, zr_lr, zr_lr0, zr_wi, zr_wr, zr_wn, zr_wl, zr_vo, zr_so, zr_sI, zr_sL, zr_sA, zr_sN, zr_in, zr_rd, zr_wr2, zr_kf, zr_k0, zr_k1, zr_k2, zr_k3, zr_k3n, zr_k10, zr_k11, zr_k12, zr_k13, zr_k13n, zr_ai, zr_af, zr_aw, zr_aL, zr_Lf, zr_Lw, zr_l2, zr_l20, zr_al, zr_an, zr_aq, zr_ag, zr_rfs, zr_rfn, zr_r1, zr_r2, zr_w0, zr_w1, zr_tl, zr_40, zr_41, zr_42, zr_43, d_L_grow1_0, d_L_grow1_1, fl_L_9, d_L_grow1_4, d_L_grow1_5, d_L_grow1_6, d_L_grow1_7, zt_7_13, zo_7_13, d_L_grow1_10, d_L_grow1_11, d_L_grow1_14, d_L_grow1_17, zt_17_28, zo_17_28, d_L_grow1_20, d_L_grow1_21, d_L_grow1_22, d_L_grow1_23, d_L_grow1_24, d_L_grow1_25, ci_1, d_L_grow1_26, d_L_grow1_27, d_L_grow1_30, d_L_grow1_31, d_L_grow1_32, d_L_grow1_33, d_L_grow1_36, d_L_grow1_37, d_L_grow1_40, d_L_grow1_41, d_L_grow1_44, d_L_grow1_45, d_L_grow1_46, cb_10, d_L_grow1_48, d_L_grow1_49, d_L_grow1_52, d_L_grow1_55, d_L_grow1_56, d_L_grow1_59, za_0, za_i, za_r, za_n, za_l, zu_s, zu_u, Nat.reduceAdd, Nat.reduceLT, Nat.reduceBEq, Nat.zero_add, Bool.false_or, Bool.or_false, Bool.true_or, Bool.or_true, Bool.false_and, Bool.and_false, Bool.true_and, Bool.and_true, true_and, and_true, true_or, or_true, eq_self, Nat.le_refl, List.getElem?_cons_succ, List.getElem?_cons_zero, List.set_cons_succ, List.set_cons_zero, zk_0, zk_1, zk_2, zk_3, zk_4, zq_1, zq_2, Option.isSome_some, Option.getD_some, Option.toList_some, Option.toList_none, List.cons_append, List.nil_append, hA2, hE2]
    refine zJ_callS (As := [.ref ed, .int (nI (n + n / 2))]) (rest := [.ref a]) C d_L_grow1_37 (c_Ar_copyOf2 l D dA z M' ed n (n + n / 2) g hE (by omega) (by omega) hel) k_L_66 s_Ar_copyOf2 ⟨(Nat.le_of_ble_eq_true rfl), (Nat.le_of_ble_eq_true rfl)⟩ ⟨by show 0 + 1 ≤ 1; omega, by show 0 + (n + n / 2) ≤ n + n / 2 + 10; omega⟩ rfl (Nat.le_of_ble_eq_true rfl) ?_
    rintro v M'' ⟨q, hq, rfl, rfl⟩
    have hne : a ≠ q := fun e => by rw [e, hq] at hA; cases hA
    refine zgo (cut := fun _ => false) 60 C lk_L hR ?_
    simp only [zs_iconst, zs_bipush, zs_iload_n, zs_aload_n, zs_istore_n, zs_isub, zs_ishr, zs_dup_x10, zs_dup_x11, zs_if_gt, zs_get, zs_put, zs_alen, zs_areturn0, zs_areturn1, zx_iv, zx_is, zx_it, zx_nw, zx_na, zx_an, zx_cc, zx_gs, zx_as, zx_ae, zx_ac, zx_at, zr_seg, zr_t, zr_f, zr_tp, zr_fp, zr_lg, zr_lr, zr_lr0, zr_wi, zr_wr, zr_wn, zr_wl, zr_vo, zr_so, zr_sI, zr_sL, zr_sA, zr_sN, zr_in, zr_rd, zr_wr2, zr_kf, zr_k0, zr_k1, zr_k2, zr_k3, zr_k3n, zr_k10, zr_k11, zr_k12, zr_k13, zr_k13n, zr_ai, zr_af, zr_aw, zr_aL, zr_Lf, zr_Lw, zr_l2, zr_l20, zr_al, zr_an, zr_aq, zr_ag, zr_rfs, zr_rfn, zr_r1, zr_r2, zr_w0, zr_w1, zr_tl, zr_40, zr_41, zr_42, zr_43, d_L_grow1_0, d_L_grow1_1, fl_L_9, d_L_grow1_4, d_L_grow1_5, d_L_grow1_6, d_L_grow1_7, zt_7_13, zo_7_13, d_L_grow1_10, d_L_grow1_11, d_L_grow1_14, d_L_grow1_17, zt_17_28, zo_17_28, d_L_grow1_20, d_L_grow1_21, d_L_grow1_22, d_L_grow1_23, d_L_grow1_24, d_L_grow1_25, ci_1, d_L_grow1_26, d_L_grow1_27, d_L_grow1_30, d_L_grow1_31, d_L_grow1_32, d_L_grow1_33, d_L_grow1_36, d_L_grow1_37, d_L_grow1_40, d_L_grow1_41, d_L_grow1_44, d_L_grow1_45, d_L_grow1_46, cb_10, d_L_grow1_48, d_L_grow1_49, d_L_grow1_52, d_L_grow1_55, d_L_grow1_56, d_L_grow1_59, za_0, za_i, za_r, za_n, za_l, zu_s, zu_u, Nat.reduceAdd, Nat.reduceLT, Nat.reduceBEq, Nat.zero_add, Bool.false_or, Bool.or_false, Bool.true_or, Bool.or_true, Bool.false_and, Bool.and_false, Bool.true_and, Bool.and_true, true_and, and_true, true_or, or_true, eq_self, Nat.le_refl, List.getElem?_cons_succ, List.getElem?_cons_zero, List.set_cons_succ, List.set_cons_zero, zk_0, zk_1, zk_2, zk_3, zk_4, zq_1, zq_2, Option.isSome_some, Option.getD_some, Option.toList_some, Option.toList_none, List.cons_append, List.nil_append, hA2, zu_n hne]
    exact ⟨by omega, q, n + n / 2, va_cpy g (fun _ => none) 0 0 n, hq, rfl, rfl, by omega, by omega, by omega, fun j hj => by rw [pk_cpy_in (Nat.zero_le j) (by omega), Nat.zero_add, Nat.sub_zero]⟩
set_option maxHeartbeats 4000000 in
set_option maxRecDepth 100000 in
theorem c_L_grow0 (l : Launch) (D : va_G) (dA : Nat → ClassId) (z : Nat) (M : zVw) (a ed n : Nat) (g : Nat → Option Nat) (mo : Int32) (hL : zLs M dA a ed n n g mo) (h4 : n ≤ 20000) (hel : zEl M n g) : zMet l y_L_grow0 b_L_grow0 1 (some (.array (.object "java/lang/Object"))) 4 107 1 (n + n / 2 + 10) D dA z [.ref a] M (fun v M' => ∃ q cap' g', M q = none ∧ v = some (.ref q) ∧ M' = zu (zu M q (zOa dA cap' g')) a (zLi q n mo) ∧ n < cap' ∧ 2 ≤ cap' ∧ cap' ≤ n + n / 2 + 10 ∧ ∀ j, j < n → g' j = g j) := by
  have hA := hL.1
  have hA2 := hA
  unfold zLi at hA2
  refine z_of 3 false (by decide) (fun h => by first | rfl | cases h) (Nat.le_of_ble_eq_true rfl) trivial ?_
  intro p e s m args below meth c C hR
  refine zgo (cut := fun _ => false) 60 C lk_L hR ?_
  simp only [zs_iconst, zs_aload_n, zs_iadd, zs_get, zs_areturn0, zs_areturn1, zx_iv, zx_is, zx_it, zx_nw, zx_na, zx_an, zx_cc, zx_gs, zx_as, zx_ae, zx_ac, zx_at, zr_seg, zr_t, zr_f, zr_tp, zr_fp, zr_lg, zr_lr, zr_lr0, zr_wi, zr_wr, zr_wn, zr_wl, zr_vo, zr_so, zr_sI, zr_sL, zr_sA, zr_sN, zr_in, zr_rd, zr_wr2, zr_kf, zr_k0, zr_k1, zr_k2, zr_k3, zr_k3n, zr_k10, zr_k11, zr_k12, zr_k13, zr_k13n, zr_ai, zr_af, zr_aw, zr_aL, zr_Lf, zr_Lw, zr_l2, zr_l20, zr_al, zr_an, zr_aq, zr_ag, zr_rfs, zr_rfn, zr_r1, zr_r2, zr_w0, zr_w1, zr_tl, zr_40, zr_41, zr_42, zr_43, d_L_grow0_0, d_L_grow0_1, d_L_grow0_2, fl_L_48, d_L_grow0_5, ci_1, d_L_grow0_6, d_L_grow0_7, d_L_grow0_10, za_0, za_i, za_r, za_n, za_l, zu_s, zu_u, Nat.reduceAdd, Nat.reduceLT, Nat.reduceBEq, Nat.zero_add, Bool.false_or, Bool.or_false, Bool.true_or, Bool.or_true, Bool.false_and, Bool.and_false, Bool.true_and, Bool.and_true, true_and, and_true, true_or, or_true, eq_self, Nat.le_refl, List.getElem?_cons_succ, List.getElem?_cons_zero, List.set_cons_succ, List.set_cons_zero, zk_0, zk_1, zk_2, zk_3, zk_4, zq_1, zq_2, Option.isSome_some, Option.getD_some, Option.toList_some, Option.toList_none, List.cons_append, List.nil_append, hA2, nI_1]
  refine zJ_callV (As := [.int (nI (n + 1))]) (rest := []) C d_L_grow0_7 (c_L_grow1 l D dA z M a ed n g mo hL h4 hel) k_L_69 n_L_grow1 v_L_grow1 hA rfl rfl ⟨(Nat.le_of_ble_eq_true rfl), (Nat.le_of_ble_eq_true rfl)⟩ ⟨by show 0 + 1 ≤ 1; omega, by show 0 + (n + n / 2 + 10) ≤ n + n / 2 + 10; omega⟩ rfl (Nat.le_of_ble_eq_true rfl) ?_
  rintro v M' ⟨q, cap', g', hq, rfl, rfl, h⟩
  refine zgo (cut := fun _ => false) 60 C lk_L hR ?_
  simp only [zs_iconst, zs_aload_n, zs_iadd, zs_get, zs_areturn0, zs_areturn1, zx_iv, zx_is, zx_it, zx_nw, zx_na, zx_an, zx_cc, zx_gs, zx_as, zx_ae, zx_ac, zx_at, zr_seg, zr_t, zr_f, zr_tp, zr_fp, zr_lg, zr_lr, zr_lr0, zr_wi, zr_wr, zr_wn, zr_wl, zr_vo, zr_so, zr_sI, zr_sL, zr_sA, zr_sN, zr_in, zr_rd, zr_wr2, zr_kf, zr_k0, zr_k1, zr_k2, zr_k3, zr_k3n, zr_k10, zr_k11, zr_k12, zr_k13, zr_k13n, zr_ai, zr_af, zr_aw, zr_aL, zr_Lf, zr_Lw, zr_l2, zr_l20, zr_al, zr_an, zr_aq, zr_ag, zr_rfs, zr_rfn, zr_r1, zr_r2, zr_w0, zr_w1, zr_tl, zr_40, zr_41, zr_42, zr_43, d_L_grow0_0, d_L_grow0_1, d_L_grow0_2, fl_L_48, d_L_grow0_5, ci_1, d_L_grow0_6, d_L_grow0_7, d_L_grow0_10, za_0, za_i, za_r, za_n, za_l, zu_s, zu_u, Nat.reduceAdd, Nat.reduceLT, Nat.reduceBEq, Nat.zero_add, Bool.false_or, Bool.or_false, Bool.true_or, Bool.or_true, Bool.false_and, Bool.and_false, Bool.true_and, Bool.and_true, true_and, and_true, true_or, or_true, eq_self, Nat.le_refl, List.getElem?_cons_succ, List.getElem?_cons_zero, List.set_cons_succ, List.set_cons_zero, zk_0, zk_1, zk_2, zk_3, zk_4, zq_1, zq_2, Option.isSome_some, Option.getD_some, Option.toList_some, Option.toList_none, List.cons_append, List.nil_append]
  exact ⟨q, cap', g', hq, rfl, rfl, h⟩
/-- what an addition leaves: one element more; nothing else has changed but the list and its array -/
def zAd (dA : Nat → ClassId) (M M' : zVw) (a ed n cap e0 : Nat) (g : Nat → Option Nat) (mo : Int32) : Prop :=
  ∃ ed' cap' g', zLs M' dA a ed' (n + 1) cap' g' mo ∧ ed' ≠ a ∧ M' ed' = some (zOa dA cap' g') ∧ ((ed' = ed ∧ 2 ≤ cap) ∨ M ed' = none) ∧ (cap' = cap ∨ cap' ≤ n + n / 2 + 10) ∧ (∀ j, j < n → g' j = g j) ∧ g' n = some e0 ∧ ∀ x, x ≠ a → x ≠ ed' → M' x = M x
set_option maxHeartbeats 4000000 in
set_option maxRecDepth 100000 in
theorem c_L_add3 (l : Launch) (D : va_G) (dA : Nat → ClassId) (z : Nat) (M : zVw) (a ed n cap e0 ci : Nat) (fs : List Value) (r : vw_C) (g : Nat → Option Nat) (mo : Int32) (hL : zLs M dA a ed n cap g mo) (h4 : cap ≤ 20000) (hel : zEl M n g) (he : M e0 = some (.inr (ci, fs))) (hr : kc[ci]? = some r) (hcs : Cond.castable r.1 "java/lang/Object" ∈ tx) : zMet l y_L_add3 b_L_add3 4 none 5 127 1 (cap + cap / 2 + 10) D dA z [.ref a, .ref e0, .ref ed, .int (nI n)] M (fun v M' => v = none ∧ zAd dA M M' a ed n cap e0 g mo) := by
  have hA := hL.1
  have hA2 := hA
  unfold zLi at hA2
  have hea : e0 ≠ a → True := fun _ => trivial
  refine z_of 0 false (by decide) (fun h => by first | rfl | cases h) (Nat.le_of_ble_eq_true rfl) trivial ?_
  intro p e s m args below meth c C hR
  have grown : n = cap → zJ p l e (zR 5 127 1 (cap + cap / 2 + 10)) s m args below meth c (MQ below (zQ D dA z fun v M' => v = none ∧ zAd dA M M' a ed n cap e0 g mo) args s 1 (cap + cap / 2 + 10) fun q => z ≤ q) 4 z D 7 [(0, .ref a), (1, .ref e0), (2, .ref ed), (3, .int (nI n))] [.ref a] M 0 0 := by
    intro hnc
    subst hnc
    refine zJ_callV (As := []) (rest := []) C d_L_add3_7 (c_L_grow0 l D dA z M a ed n g mo hL h4 hel) k_L_129 n_L_grow0 v_L_grow0 hA rfl rfl ⟨(Nat.le_of_ble_eq_true rfl), (Nat.le_of_ble_eq_true rfl)⟩ ⟨by show 0 + 1 ≤ 1; omega, by show 0 + (n + n / 2 + 10) ≤ n + n / 2 + 10; omega⟩ rfl (Nat.le_of_ble_eq_true rfl) ?_
    rintro v M' ⟨q, cap', g', hq, rfl, rfl, h1, h2, h3, h5⟩
    have hqa : q ≠ a := fun e => by rw [e, hA] at hq; cases hq
    have hqe : e0 ≠ q := fun e => by rw [e, hq] at he; cases he
    have hM1 : (zu (zu M q (zOa dA cap' g')) a (zLi q n mo)) q = some (zOa dA cap' g') := by rw [zu_n hqa, zu_s]
    refine zgo (cut := fun _ => false) 60 C lk_L hR ?_
    simp only [zs_iconst, zs_iload_n, zs_aload_n, zs_astore_n0, zs_astore_n1, zs_iadd, zs_icmp_ne, zs_put, zs_alen, zs_return, zx_iv, zx_is, zx_it, zx_nw, zx_na, zx_an, zx_cc, zx_gs, zx_as, zx_ae, zx_ac, zx_at, zr_seg, zr_t, zr_f, zr_tp, zr_fp, zr_lg, zr_lr, zr_lr0, zr_wi, zr_wr, zr_wn, zr_wl, zr_vo, zr_so, zr_sI, zr_sL, zr_sA, zr_sN, zr_in, zr_rd, zr_wr2, zr_kf, zr_k0, zr_k1, zr_k2, zr_k3, zr_k3n, zr_k10, zr_k11, zr_k12, zr_k13, zr_k13n, zr_ai, zr_af, zr_aw, zr_aL, zr_Lf, zr_Lw, zr_l2, zr_l20, zr_al, zr_an, zr_aq, zr_ag, zr_rfs, zr_rfn, zr_r1, zr_r2, zr_w0, zr_w1, zr_tl, zr_40, zr_41, zr_42, zr_43, d_L_add3_0, d_L_add3_1, d_L_add3_2, d_L_add3_3, zt_3_8, zo_3_8, d_L_add3_6, d_L_add3_7, d_L_add3_10, d_L_add3_11, d_L_add3_12, d_L_add3_13, d_L_add3_14, d_L_add3_15, d_L_add3_16, d_L_add3_17, ci_1, d_L_add3_18, d_L_add3_19, fl_L_48, d_L_add3_22, za_0, za_i, za_r, za_n, za_l, zu_s, zu_u, Nat.reduceAdd, Nat.reduceLT, Nat.reduceBEq, Nat.zero_add, Bool.false_or, Bool.or_false, Bool.true_or, Bool.or_true, Bool.false_and, Bool.and_false, Bool.true_and, Bool.and_true, true_and, and_true, true_or, or_true, eq_self, Nat.le_refl, List.getElem?_cons_succ, List.getElem?_cons_zero, List.set_cons_succ, List.set_cons_zero, zk_0, zk_1, zk_2, zk_3, zk_4, zq_1, zq_2, Option.isSome_some, Option.getD_some, Option.toList_some, Option.toList_none, List.cons_append, List.nil_append]
    have hev : ∃ fs', (zu (zu M q (zOa dA cap' g')) a (zLi q n mo)) e0 = some (.inr (ci, fs')) := by
      by_cases e : e0 = a
      · subst e
        rw [hA] at he
        cases he
        exact ⟨_, zu_s _ _ _⟩
      · exact ⟨fs, by rw [zu_n e, zu_n hqe]; exact he⟩
    obtain ⟨fs', hev⟩ := hev
    refine zJ_aast (t := 2) (nn := cap') (g := g') (r := r) C d_L_add3_14 hM1 rfl hev hr (Or.inr hcs) (vp_in_nI h1 (by omega)) ?_
    refine zgo (cut := fun _ => false) 60 C lk_L hR ?_
    have e1 : (nI n).toNatClampNeg = n := nI_clamp (by omega)
    have hMa : (zu (zu (zu M q (zOa dA cap' g')) a (zLi q n mo)) q (.inl (dA 2, cap', .inr (.inr (.inr (.inr (va_up g' n (some e0)))))))) a = some (.inr (7, [.ref q, .int (nI n), .int mo])) := by
      rw [zu_n (fun e => hqa e.symm), zu_s]; rfl
    rw [e1]
    simp only [zs_iconst, zs_iload_n, zs_aload_n, zs_astore_n0, zs_astore_n1, zs_iadd, zs_icmp_ne, zs_put, zs_alen, zs_return, zx_iv, zx_is, zx_it, zx_nw, zx_na, zx_an, zx_cc, zx_gs, zx_as, zx_ae, zx_ac, zx_at, zr_seg, zr_t, zr_f, zr_tp, zr_fp, zr_lg, zr_lr, zr_lr0, zr_wi, zr_wr, zr_wn, zr_wl, zr_vo, zr_so, zr_sI, zr_sL, zr_sA, zr_sN, zr_in, zr_rd, zr_wr2, zr_kf, zr_k0, zr_k1, zr_k2, zr_k3, zr_k3n, zr_k10, zr_k11, zr_k12, zr_k13, zr_k13n, zr_ai, zr_af, zr_aw, zr_aL, zr_Lf, zr_Lw, zr_l2, zr_l20, zr_al, zr_an, zr_aq, zr_ag, zr_rfs, zr_rfn, zr_r1, zr_r2, zr_w0, zr_w1, zr_tl, zr_40, zr_41, zr_42, zr_43, d_L_add3_0, d_L_add3_1, d_L_add3_2, d_L_add3_3, zt_3_8, zo_3_8, d_L_add3_6, d_L_add3_7, d_L_add3_10, d_L_add3_11, d_L_add3_12, d_L_add3_13, d_L_add3_14, d_L_add3_15, d_L_add3_16, d_L_add3_17, ci_1, d_L_add3_18, d_L_add3_19, fl_L_48, d_L_add3_22, za_0, za_i, za_r, za_n, za_l, zu_s, zu_u, Nat.reduceAdd, Nat.reduceLT, Nat.reduceBEq, Nat.zero_add, Bool.false_or, Bool.or_false, Bool.true_or, Bool.or_true, Bool.false_and, Bool.and_false, Bool.true_and, Bool.and_true, true_and, and_true, true_or, or_true, eq_self, Nat.le_refl, List.getElem?_cons_succ, List.getElem?_cons_zero, List.set_cons_succ, List.set_cons_zero, zk_0, zk_1, zk_2, zk_3, zk_4, zq_1, zq_2, Option.isSome_some, Option.getD_some, Option.toList_some, Option.toList_none, List.cons_append, List.nil_append, hMa, nI_1]
    refine ⟨q, cap', va_up g' n (some e0), ⟨zu_s _ _ _, Or.inr ⟨?_, by omega, h2⟩⟩, hqa, ?_, Or.inr hq, Or.inr h3, fun j hj => ?_, va_up_self _ _ _, fun x hx1 hx2 => ?_⟩
    · rw [zu_n hqa, zu_s]; rfl
    · rw [zu_n hqa, zu_s]; rfl
    · rw [va_up_ne _ _ (by omega)]; exact h5 j hj
    · rw [zu_n hx1, zu_n hx2, zu_n hx1, zu_n hx2]
  rcases hL.2 with ⟨rfl, rfl, rfl⟩ | ⟨hE, hnc, h2⟩
  · refine zgo (cut := fun q => q == 2) 60 C lk_L hR ?_
    simp only [zs_iconst, zs_iload_n, zs_aload_n, zs_astore_n0, zs_astore_n1, zs_iadd, zs_icmp_ne, zs_put, zs_alen, zs_return, zx_iv, zx_is, zx_it, zx_nw, zx_na, zx_an, zx_cc, zx_gs, zx_as, zx_ae, zx_ac, zx_at, zr_seg, zr_t, zr_f, zr_tp, zr_fp, zr_lg, zr_lr, zr_lr0, zr_wi, zr_wr, zr_wn, zr_wl, zr_vo, zr_so, zr_sI, zr_sL, zr_sA, zr_sN, zr_in, zr_rd, zr_wr2, zr_kf, zr_k0, zr_k1, zr_k2, zr_k3, zr_k3n, zr_k10, zr_k11, zr_k12, zr_k13, zr_k13n, zr_ai, zr_af, zr_aw, zr_aL, zr_Lf, zr_Lw, zr_l2, zr_l20, zr_al, zr_an, zr_aq, zr_ag, zr_rfs, zr_rfn, zr_r1, zr_r2, zr_w0, zr_w1, zr_tl, zr_40, zr_41, zr_42, zr_43, d_L_add3_0, d_L_add3_1, d_L_add3_2, d_L_add3_3, zt_3_8, zo_3_8, d_L_add3_6, d_L_add3_7, d_L_add3_10, d_L_add3_11, d_L_add3_12, d_L_add3_13, d_L_add3_14, d_L_add3_15, d_L_add3_16, d_L_add3_17, ci_1, d_L_add3_18, d_L_add3_19, fl_L_48, d_L_add3_22, za_0, za_i, za_r, za_n, za_l, zu_s, zu_u, Nat.reduceAdd, Nat.reduceLT, Nat.reduceBEq, Nat.zero_add, Bool.false_or, Bool.or_false, Bool.true_or, Bool.or_true, Bool.false_and, Bool.and_false, Bool.true_and, Bool.and_true, true_and, and_true, true_or, or_true, eq_self, Nat.le_refl, List.getElem?_cons_succ, List.getElem?_cons_zero, List.set_cons_succ, List.set_cons_zero, zk_0, zk_1, zk_2, zk_3, zk_4, zq_1, zq_2, Option.isSome_some, Option.getD_some, Option.toList_some, Option.toList_none, List.cons_append, List.nil_append]
    refine zJ_alen0 C d_L_add3_2 ?_
    refine zgo (cut := fun _ => false) 60 C lk_L hR ?_
    simp only [zs_iconst, zs_iload_n, zs_aload_n, zs_astore_n0, zs_astore_n1, zs_iadd, zs_icmp_ne, zs_put, zs_alen, zs_return, zx_iv, zx_is, zx_it, zx_nw, zx_na, zx_an, zx_cc, zx_gs, zx_as, zx_ae, zx_ac, zx_at, zr_seg, zr_t, zr_f, zr_tp, zr_fp, zr_lg, zr_lr, zr_lr0, zr_wi, zr_wr, zr_wn, zr_wl, zr_vo, zr_so, zr_sI, zr_sL, zr_sA, zr_sN, zr_in, zr_rd, zr_wr2, zr_kf, zr_k0, zr_k1, zr_k2, zr_k3, zr_k3n, zr_k10, zr_k11, zr_k12, zr_k13, zr_k13n, zr_ai, zr_af, zr_aw, zr_aL, zr_Lf, zr_Lw, zr_l2, zr_l20, zr_al, zr_an, zr_aq, zr_ag, zr_rfs, zr_rfn, zr_r1, zr_r2, zr_w0, zr_w1, zr_tl, zr_40, zr_41, zr_42, zr_43, d_L_add3_0, d_L_add3_1, d_L_add3_2, d_L_add3_3, zt_3_8, zo_3_8, d_L_add3_6, d_L_add3_7, d_L_add3_10, d_L_add3_11, d_L_add3_12, d_L_add3_13, d_L_add3_14, d_L_add3_15, d_L_add3_16, d_L_add3_17, ci_1, d_L_add3_18, d_L_add3_19, fl_L_48, d_L_add3_22, za_0, za_i, za_r, za_n, za_l, zu_s, zu_u, Nat.reduceAdd, Nat.reduceLT, Nat.reduceBEq, Nat.zero_add, Bool.false_or, Bool.or_false, Bool.true_or, Bool.or_true, Bool.false_and, Bool.and_false, Bool.true_and, Bool.and_true, true_and, and_true, true_or, or_true, eq_self, Nat.le_refl, List.getElem?_cons_succ, List.getElem?_cons_zero, List.set_cons_succ, List.set_cons_zero, zk_0, zk_1, zk_2, zk_3, zk_4, zq_1, zq_2, Option.isSome_some, Option.getD_some, Option.toList_some, Option.toList_none, List.cons_append, List.nil_append]
    exact ⟨fun h => absurd nI_0 h, fun _ => grown rfl⟩
  · have hE2 := hE
    unfold zOa at hE2
    have hda : ed ≠ a := fun e => by rw [e, hA] at hE; cases hE
    refine zgo (cut := fun _ => false) 60 C lk_L hR ?_
    simp only [zs_iconst, zs_iload_n, zs_aload_n, zs_astore_n0, zs_astore_n1, zs_iadd, zs_icmp_ne, zs_put, zs_alen, zs_return, zx_iv, zx_is, zx_it, zx_nw, zx_na, zx_an, zx_cc, zx_gs, zx_as, zx_ae, zx_ac, zx_at, zr_seg, zr_t, zr_f, zr_tp, zr_fp, zr_lg, zr_lr, zr_lr0, zr_wi, zr_wr, zr_wn, zr_wl, zr_vo, zr_so, zr_sI, zr_sL, zr_sA, zr_sN, zr_in, zr_rd, zr_wr2, zr_kf, zr_k0, zr_k1, zr_k2, zr_k3, zr_k3n, zr_k10, zr_k11, zr_k12, zr_k13, zr_k13n, zr_ai, zr_af, zr_aw, zr_aL, zr_Lf, zr_Lw, zr_l2, zr_l20, zr_al, zr_an, zr_aq, zr_ag, zr_rfs, zr_rfn, zr_r1, zr_r2, zr_w0, zr_w1, zr_tl, zr_40, zr_41, zr_42, zr_43, d_L_add3_0, d_L_add3_1, d_L_add3_2, d_L_add3_3, zt_3_8, zo_3_8, d_L_add3_6, d_L_add3_7, d_L_add3_10, d_L_add3_11, d_L_add3_12, d_L_add3_13, d_L_add3_14, d_L_add3_15, d_L_add3_16, d_L_add3_17, ci_1, d_L_add3_18, d_L_add3_19, fl_L_48, d_L_add3_22, za_0, za_i, za_r, za_n, za_l, zu_s, zu_u, Nat.reduceAdd, Nat.reduceLT, Nat.reduceBEq, Nat.zero_add, Bool.false_or, Bool.or_false, Bool.true_or, Bool.or_true, Bool.false_and, Bool.and_false, Bool.true_and, Bool.and_true, true_and, and_true, true_or, or_true, eq_self, Nat.le_refl, List.getElem?_cons_succ, List.getElem?_cons_zero, List.set_cons_succ, List.set_cons_zero, zk_0, zk_1, zk_2, zk_3, zk_4, zq_1, zq_2, Option.isSome_some, Option.getD_some, Option.toList_some, Option.toList_none, List.cons_append, List.nil_append, hE2]
    refine ⟨fun h => ?_, fun h => grown ((nI_eq (by omega) (by omega)).mp h)⟩
    have hlt : n < cap := by
      rcases Nat.lt_or_ge n cap with q | q
      · exact q
      · exact absurd (show nI n = nI cap by rw [show n = cap by omega]) h
    refine zJ_aast (t := 2) (nn := cap) (g := g) (r := r) C d_L_add3_14 hE rfl he hr (Or.inr hcs) (vp_in_nI hlt (by omega)) ?_
    have e1 : (nI n).toNatClampNeg = n := nI_clamp (by omega)
    rw [e1]
    have hMa : (zu M ed (.inl (dA 2, cap, .inr (.inr (.inr (.inr (va_up g n (some e0)))))))) a = some (.inr (7, [.ref ed, .int (nI n), .int mo])) := by
      rw [zu_n (fun e => hda e.symm)]; exact hA
    refine zgo (cut := fun _ => false) 60 C lk_L hR ?_
    simp only [zs_iconst, zs_iload_n, zs_aload_n, zs_astore_n0, zs_astore_n1, zs_iadd, zs_icmp_ne, zs_put, zs_alen, zs_return, zx_iv, zx_is, zx_it, zx_nw, zx_na, zx_an, zx_cc, zx_gs, zx_as, zx_ae, zx_ac, zx_at, zr_seg, zr_t, zr_f, zr_tp, zr_fp, zr_lg, zr_lr, zr_lr0, zr_wi, zr_wr, zr_wn, zr_wl, zr_vo, zr_so, zr_sI, zr_sL, zr_sA, zr_sN, zr_in, zr_rd, zr_wr2, zr_kf, zr_k0, zr_k1, zr_k2, zr_k3, zr_k3n, zr_k10, zr_k11, zr_k12, zr_k13, zr_k13n, zr_ai, zr_af, zr_aw, zr_aL, zr_Lf, zr_Lw, zr_l2, zr_l20, zr_al, zr_an, zr_aq, zr_ag, zr_rfs, zr_rfn, zr_r1, zr_r2, zr_w0, zr_w1, zr_tl, zr_40, zr_41, zr_42, zr_43, d_L_add3_0, d_L_add3_1, d_L_add3_2, d_L_add3_3, zt_3_8, zo_3_8, d_L_add3_6, d_L_add3_7, d_L_add3_10, d_L_add3_11, d_L_add3_12, d_L_add3_13, d_L_add3_14, d_L_add3_15, d_L_add3_16, d_L_add3_17, ci_1, d_L_add3_18, d_L_add3_19, fl_L_48, d_L_add3_22, za_0, za_i, za_r, za_n, za_l, zu_s, zu_u, Nat.reduceAdd, Nat.reduceLT, Nat.reduceBEq, Nat.zero_add, Bool.false_or, Bool.or_false, Bool.true_or, Bool.or_true, Bool.false_and, Bool.and_false, Bool.true_and, Bool.and_true, true_and, and_true, true_or, or_true, eq_self, Nat.le_refl, List.getElem?_cons_succ, List.getElem?_cons_zero, List.set_cons_succ, List.set_cons_zero, zk_0, zk_1, zk_2, zk_3, zk_4, zq_1, zq_2, Option.isSome_some, Option.getD_some, Option.toList_some, Option.toList_none, List.cons_append, List.nil_append, hMa, nI_1]
    refine ⟨by omega, by omega, ed, cap, va_up g n (some e0), ⟨zu_s _ _ _, Or.inr ⟨?_, by omega, h2⟩⟩, hda, ?_, Or.inl ⟨rfl, h2⟩, Or.inl rfl, fun j hj => ?_, va_up_self _ _ _, fun x hx1 hx2 => ?_⟩
    · rw [zu_n hda, zu_s]; rfl
    · rw [zu_n hda, zu_s]; rfl
    · rw [va_up_ne _ _ (by omega)]
    · rw [zu_n hx1, zu_n hx2]
end
section
/-! THE LIST: add, clear. -/
theorem zEl_w {M : zVw} {a c0 L : Nat} {fs0 fs1 : List Value} {g : Nat → Option Nat} (h : zEl M L g) (ha : M a = some (.inr (c0, fs0))) : zEl (zu M a (.inr (c0, fs1))) L g := by
  intro i hi y hy
  obtain ⟨ci, fs, r, h1, h2⟩ := h i hi y hy
  by_cases e : y = a
  · subst e
    rw [ha] at h1
    cases h1
    exact ⟨c0, fs1, r, zu_s _ _ _, h2⟩
  · exact ⟨ci, fs, r, by rw [zu_n e]; exact h1, h2⟩
set_option maxHeartbeats 4000000 in
set_option maxRecDepth 100000 in
theorem c_L_add1 (l : Launch) (D : va_G) (dA : Nat → ClassId) (z : Nat) (M : zVw) (a ed n cap e0 ci : Nat) (fs : List Value) (r : vw_C) (g : Nat → Option Nat) (mo : Int32) (hL : zLs M dA a ed n cap g mo) (h4 : cap ≤ 20000) (hel : zEl M n g) (he : M e0 = some (.inr (ci, fs))) (hr : kc[ci]? = some r) (hci : ci ≠ 7) (hcs : Cond.castable r.1 "java/lang/Object" ∈ tx) : zMet l y_L_add1 b_L_add1 2 (some .boolean) 6 150 1 (cap + cap / 2 + 10) D dA z [.ref a, .ref e0] M (fun v M' => v = some (.int 1) ∧ zAd dA M M' a ed n cap e0 g (mo + 1)) := by
  have hA := hL.1
  have hA2 := hA
  unfold zLi at hA2
  have hea : e0 ≠ a := fun q => by rw [q, hA2] at he; cases he; exact hci rfl
  have hL1 : zLs (zu M a (zLi ed n (mo + 1))) dA a ed n cap g (mo + 1) := by
    refine ⟨zu_s _ _ _, ?_⟩
    rcases hL.2 with h | ⟨h1, h2⟩
    · exact Or.inl h
    · refine Or.inr ⟨?_, h2⟩
      have hda : ed ≠ a := fun q => by rw [q, hA] at h1; cases h1
      rw [zu_n hda]; exact h1
  refine z_of 2 false (by decide) (fun h => by first | rfl | cases h) (Nat.le_of_ble_eq_true rfl) trivial ?_
  intro p e s m args below meth c C hR
  refine zgo (cut := fun _ => false) 60 C lk_L hR ?_
  simp only [zs_iconst, zs_aload_n, zs_iadd, zs_dup0, zs_dup1, zs_dup2, zs_get, zs_put, zs_ireturn, zx_iv, zx_is, zx_it, zx_nw, zx_na, zx_an, zx_cc, zx_gs, zx_as, zx_ae, zx_ac, zx_at, zr_seg, zr_t, zr_f, zr_tp, zr_fp, zr_lg, zr_lr, zr_lr0, zr_wi, zr_wr, zr_wn, zr_wl, zr_vo, zr_so, zr_sI, zr_sL, zr_sA, zr_sN, zr_in, zr_rd, zr_wr2, zr_kf, zr_k0, zr_k1, zr_k2, zr_k3, zr_k3n, zr_k10, zr_k11, zr_k12, zr_k13, zr_k13n, zr_ai, zr_af, zr_aw, zr_aL, zr_Lf, zr_Lw, zr_l2, zr_l20, zr_al, zr_an, zr_aq, zr_ag, zr_rfs, zr_rfn, zr_r1, zr_r2, zr_w0, zr_w1, zr_tl, zr_40, zr_41, zr_42, zr_43, d_L_add1_0, d_L_add1_1, d_L_add1_2, fl_L_63, d_L_add1_5, ci_1, d_L_add1_6, d_L_add1_7, d_L_add1_10, d_L_add1_11, d_L_add1_12, d_L_add1_13, fl_L_9, d_L_add1_16, d_L_add1_17, fl_L_48, d_L_add1_20, d_L_add1_23, d_L_add1_24, za_0, za_i, za_r, za_n, za_l, zu_s, zu_u, Nat.reduceAdd, Nat.reduceLT, Nat.reduceBEq, Nat.zero_add, Bool.false_or, Bool.or_false, Bool.true_or, Bool.or_true, Bool.false_and, Bool.and_false, Bool.true_and, Bool.and_true, true_and, and_true, true_or, or_true, eq_self, Nat.le_refl, List.getElem?_cons_succ, List.getElem?_cons_zero, List.set_cons_succ, List.set_cons_zero, zk_0, zk_1, zk_2, zk_3, zk_4, zq_1, zq_2, Option.isSome_some, Option.getD_some, Option.toList_some, Option.toList_none, List.cons_append, List.nil_append, hA2]
  refine zJ_callV (As := [.ref e0, .ref ed, .int (nI n)]) (rest := []) C d_L_add1_20 (c_L_add3 l D dA z (zu M a (zLi ed n (mo + 1))) a ed n cap e0 ci fs r g (mo + 1) hL1 h4 (zEl_w hel hA2) (by rw [zu_n hea]; exact he) hr hcs) k_L_131 n_L_add3 v_L_add3 (zu_s _ _ _) rfl rfl ⟨(Nat.le_of_ble_eq_true rfl), (Nat.le_of_ble_eq_true rfl)⟩ ⟨by show 0 + 1 ≤ 1; omega, by show 0 + (cap + cap / 2 + 10) ≤ cap + cap / 2 + 10; omega⟩ rfl (Nat.le_of_ble_eq_true rfl) ?_
  rintro v M' ⟨rfl, ed', cap', g', q1, q2, q3, q4, q5, q6, q7, q8⟩
  refine zgo (cut := fun _ => false) 60 C lk_L hR ?_
  simp only [zs_iconst, zs_aload_n, zs_iadd, zs_dup0, zs_dup1, zs_dup2, zs_get, zs_put, zs_ireturn, zx_iv, zx_is, zx_it, zx_nw, zx_na, zx_an, zx_cc, zx_gs, zx_as, zx_ae, zx_ac, zx_at, zr_seg, zr_t, zr_f, zr_tp, zr_fp, zr_lg, zr_lr, zr_lr0, zr_wi, zr_wr, zr_wn, zr_wl, zr_vo, zr_so, zr_sI, zr_sL, zr_sA, zr_sN, zr_in, zr_rd, zr_wr2, zr_kf, zr_k0, zr_k1, zr_k2, zr_k3, zr_k3n, zr_k10, zr_k11, zr_k12, zr_k13, zr_k13n, zr_ai, zr_af, zr_aw, zr_aL, zr_Lf, zr_Lw, zr_l2, zr_l20, zr_al, zr_an, zr_aq, zr_ag, zr_rfs, zr_rfn, zr_r1, zr_r2, zr_w0, zr_w1, zr_tl, zr_40, zr_41, zr_42, zr_43, d_L_add1_0, d_L_add1_1, d_L_add1_2, fl_L_63, d_L_add1_5, ci_1, d_L_add1_6, d_L_add1_7, d_L_add1_10, d_L_add1_11, d_L_add1_12, d_L_add1_13, fl_L_9, d_L_add1_16, d_L_add1_17, fl_L_48, d_L_add1_20, d_L_add1_23, d_L_add1_24, za_0, za_i, za_r, za_n, za_l, zu_s, zu_u, Nat.reduceAdd, Nat.reduceLT, Nat.reduceBEq, Nat.zero_add, Bool.false_or, Bool.or_false, Bool.true_or, Bool.or_true, Bool.false_and, Bool.and_false, Bool.true_and, Bool.and_true, true_and, and_true, true_or, or_true, eq_self, Nat.le_refl, List.getElem?_cons_succ, List.getElem?_cons_zero, List.set_cons_succ, List.set_cons_zero, zk_0, zk_1, zk_2, zk_3, zk_4, zq_1, zq_2, Option.isSome_some, Option.getD_some, Option.toList_some, Option.toList_none, List.cons_append, List.nil_append]
  refine ⟨ed', cap', g', q1, q2, q3, ?_, q5, q6, q7, fun x hx1 hx2 => ?_⟩
  · rcases q4 with h | h
    · exact Or.inl h
    · rw [zu_n q2] at h; exact Or.inr h
  · rw [q8 x hx1 hx2, zu_n hx1]
set_option maxHeartbeats 4000000 in
set_option maxRecDepth 100000 in
theorem c_L_clear (l : Launch) (D : va_G) (dA : Nat → ClassId) (z : Nat) (M : zVw) (a ed n cap : Nat) (g : Nat → Option Nat) (mo : Int32) (hL : zLs M dA a ed n cap g mo) (h4 : cap ≤ 20000) : zMet l y_L_clear b_L_clear 4 none 0 0 0 0 D dA z [.ref a] M (fun v M' => v = none ∧ ∃ g', zLs M' dA a ed 0 cap g' (mo + 1) ∧ ∀ x, x ≠ a → x ≠ ed → M' x = M x) := by
  have hA := hL.1
  have hA2 := hA
  unfold zLi at hA2
  have hnc : n ≤ cap := by
    rcases hL.2 with ⟨_, h, h2⟩ | ⟨_, h, _⟩
    · omega
    · exact h
  refine z_of 0 false (by decide) (fun h => by first | rfl | cases h) (Nat.le_of_ble_eq_true rfl) trivial ?_
  intro p e s m args below meth c C hR
  have loop : ∀ (k i : Nat) (M1 : zVw) (g1 : Nat → Option Nat), n - i ≤ k → i ≤ n → zLs M1 dA a ed 0 cap g1 (mo + 1) → (∀ x, x ≠ a → x ≠ ed → M1 x = M x) → zJ p l e (zR 0 0 0 0) s m args below meth c (MQ below (zQ D dA z (fun v M' => v = none ∧ ∃ g', zLs M' dA a ed 0 cap g' (mo + 1) ∧ ∀ x, x ≠ a → x ≠ ed → M' x = M x)) args s 0 0 (fun q => z ≤ q)) 4 z D 27 [(3, .int (nI i)), (2, .int (nI n)), (1, .ref ed), (0, .ref a)] [] M1 0 0 := by
    intro k
    induction k with
    | zero =>
      intro i M1 g1 h1 h2 h3 h5
      have e1 : nI n ≤ nI i := nI_le (by omega) (by omega)
      refine zgo (cut := fun q => q == 27) 60 C lk_L hR ?_
      simp only [zs_null, zs_iconst, zs_iload_n, zs_aload_n, zs_istore_n, zs_astore_n0, zs_astore_n1, zs_iadd, zs_dup0, zs_dup1, zs_dup_x10, zs_dup_x11, zs_dup2, zs_icmp_ge, zs_goto, zs_iinc, zs_get, zs_put, zs_return, zx_iv, zx_is, zx_it, zx_nw, zx_na, zx_an, zx_cc, zx_gs, zx_as, zx_ae, zx_ac, zx_at, zr_seg, zr_t, zr_f, zr_tp, zr_fp, zr_lg, zr_lr, zr_lr0, zr_wi, zr_wr, zr_wn, zr_wl, zr_vo, zr_so, zr_sI, zr_sL, zr_sA, zr_sN, zr_in, zr_rd, zr_wr2, zr_kf, zr_k0, zr_k1, zr_k2, zr_k3, zr_k3n, zr_k10, zr_k11, zr_k12, zr_k13, zr_k13n, zr_ai, zr_af, zr_aw, zr_aL, zr_Lf, zr_Lw, zr_l2, zr_l20, zr_al, zr_an, zr_aq, zr_ag, zr_rfs, zr_rfn, zr_r1, zr_r2, zr_w0, zr_w1, zr_tl, zr_40, zr_41, zr_42, zr_43, d_L_clear_0, d_L_clear_1, d_L_clear_2, fl_L_63, d_L_clear_5, ci_1, d_L_clear_6, d_L_clear_7, d_L_clear_10, d_L_clear_11, fl_L_9, d_L_clear_14, d_L_clear_15, d_L_clear_16, fl_L_48, d_L_clear_19, d_L_clear_20, d_L_clear_21, ci_0, d_L_clear_22, d_L_clear_23, d_L_clear_26, d_L_clear_27, d_L_clear_28, d_L_clear_29, zt_29_13, zo_29_13, d_L_clear_32, d_L_clear_33, d_L_clear_34, d_L_clear_35, d_L_clear_36, d_L_clear_39, zt_39_m12, zo_39_m12, d_L_clear_42, za_0, za_i, za_r, za_n, za_l, zu_s, zu_u, Nat.reduceAdd, Nat.reduceLT, Nat.reduceBEq, Nat.zero_add, Bool.false_or, Bool.or_false, Bool.true_or, Bool.or_true, Bool.false_and, Bool.and_false, Bool.true_and, Bool.and_true, true_and, and_true, true_or, or_true, eq_self, Nat.le_refl, List.getElem?_cons_succ, List.getElem?_cons_zero, List.set_cons_succ, List.set_cons_zero, zk_0, zk_1, zk_2, zk_3, zk_4, zq_1, zq_2, Option.isSome_some, Option.getD_some, Option.toList_some, Option.toList_none, List.cons_append, List.nil_append]
      exact ⟨fun _ => ⟨g1, h3, h5⟩, fun h => absurd e1 h⟩
    | succ k ih =>
      intro i M1 g1 h1 h2 h3 h5
      refine zgo (cut := fun q => q == 27) 60 C lk_L hR ?_
      simp only [zs_null, zs_iconst, zs_iload_n, zs_aload_n, zs_istore_n, zs_astore_n0, zs_astore_n1, zs_iadd, zs_dup0, zs_dup1, zs_dup_x10, zs_dup_x11, zs_dup2, zs_icmp_ge, zs_goto, zs_iinc, zs_get, zs_put, zs_return, zx_iv, zx_is, zx_it, zx_nw, zx_na, zx_an, zx_cc, zx_gs, zx_as, zx_ae, zx_ac, zx_at, zr_seg, zr_t, zr_f, zr_tp, zr_fp, zr_lg, zr_lr, zr_lr0, zr_wi, zr_wr, zr_wn, zr_wl, zr_vo, zr_so, zr_sI, zr_sL, zr_sA, zr_sN, zr_in, zr_rd, zr_wr2, zr_kf, zr_k0, zr_k1, zr_k2, zr_k3, zr_k3n, zr_k10, zr_k11, zr_k12, zr_k13, zr_k13n, zr_ai, zr_af, zr_aw, zr_aL, zr_Lf, zr_Lw, zr_l2, zr_l20, zr_al, zr_an, zr_aq, zr_ag, zr_rfs, zr_rfn, zr_r1, zr_r2, zr_w0, zr_w1, zr_tl, zr_40, zr_41, zr_42, zr_43, d_L_clear_0, d_L_clear_1, d_L_clear_2, fl_L_63, d_L_clear_5, ci_1, d_L_clear_6, d_L_clear_7, d_L_clear_10, d_L_clear_11, fl_L_9, d_L_clear_14, d_L_clear_15, d_L_clear_16, fl_L_48, d_L_clear_19, d_L_clear_20, d_L_clear_21, ci_0, d_L_clear_22, d_L_clear_23, d_L_clear_26, d_L_clear_27, d_L_clear_28, d_L_clear_29, zt_29_13, zo_29_13, d_L_clear_32, d_L_clear_33, d_L_clear_34, d_L_clear_35, d_L_clear_36, d_L_clear_39, zt_39_m12, zo_39_m12, d_L_clear_42, za_0, za_i, za_r, za_n, za_l, zu_s, zu_u, Nat.reduceAdd, Nat.reduceLT, Nat.reduceBEq, Nat.zero_add, Bool.false_or, Bool.or_false, Bool.true_or, Bool.or_true, Bool.false_and, Bool.and_false, Bool.true_and, Bool.and_true, true_and, and_true, true_or, or_true, eq_self, Nat.le_refl, List.getElem?_cons_succ, List.getElem?_cons_zero, List.set_cons_succ, List.set_cons_zero, zk_0, zk_1, zk_2, zk_3, zk_4, zq_1, zq_2, Option.isSome_some, Option.getD_some, Option.toList_some, Option.toList_none, List.cons_append, List.nil_append]
      refine ⟨fun _ => ⟨g1, h3, h5⟩, fun h => ?_⟩
      have hlt : i < n := by
        rcases Nat.lt_or_ge i n with q | q
        · exact q
        · exact absurd (nI_le q (by omega)) h
      rcases h3.2 with ⟨_, _, h6⟩ | ⟨h6, _, h7⟩
      · omega
      have hda : ed ≠ a := fun q => by rw [q, h3.1] at h6; cases h6
      refine zJ_asN C d_L_clear_35 h6 (vp_in_nI (by omega) (by omega)) ?_
      refine zgo (cut := fun q => q == 27) 60 C lk_L hR ?_
      simp only [zs_null, zs_iconst, zs_iload_n, zs_aload_n, zs_istore_n, zs_astore_n0, zs_astore_n1, zs_iadd, zs_dup0, zs_dup1, zs_dup_x10, zs_dup_x11, zs_dup2, zs_icmp_ge, zs_goto, zs_iinc, zs_get, zs_put, zs_return, zx_iv, zx_is, zx_it, zx_nw, zx_na, zx_an, zx_cc, zx_gs, zx_as, zx_ae, zx_ac, zx_at, zr_seg, zr_t, zr_f, zr_tp, zr_fp, zr_lg, zr_lr, zr_lr0, zr_wi, zr_wr, zr_wn, zr_wl, zr_vo, zr_so, zr_sI, zr_sL, zr_sA, zr_sN, zr_in, zr_rd, zr_wr2, zr_kf, zr_k0, zr_k1, zr_k2, zr_k3, zr_k3n, zr_k10, zr_k11, zr_k12, zr_k13, zr_k13n, zr_ai, zr_af, zr_aw, zr_aL, zr_Lf, zr_Lw, zr_l2, zr_l20, zr_al, zr_an, zr_aq, zr_ag, zr_rfs, zr_rfn, zr_r1, zr_r2, zr_w0, zr_w1, zr_tl, zr_40, zr_41, zr_42, zr_43, d_L_clear_0, d_L_clear_1, d_L_clear_2, fl_L_63, d_L_clear_5, ci_1, d_L_clear_6, d_L_clear_7, d_L_clear_10, d_L_clear_11, fl_L_9, d_L_clear_14, d_L_clear_15, d_L_clear_16, fl_L_48, d_L_clear_19, d_L_clear_20, d_L_clear_21, ci_0, d_L_clear_22, d_L_clear_23, d_L_clear_26, d_L_clear_27, d_L_clear_28, d_L_clear_29, zt_29_13, zo_29_13, d_L_clear_32, d_L_clear_33, d_L_clear_34, d_L_clear_35, d_L_clear_36, d_L_clear_39, zt_39_m12, zo_39_m12, d_L_clear_42, za_0, za_i, za_r, za_n, za_l, zu_s, zu_u, Nat.reduceAdd, Nat.reduceLT, Nat.reduceBEq, Nat.zero_add, Bool.false_or, Bool.or_false, Bool.true_or, Bool.or_true, Bool.false_and, Bool.and_false, Bool.true_and, Bool.and_true, true_and, and_true, true_or, or_true, eq_self, Nat.le_refl, List.getElem?_cons_succ, List.getElem?_cons_zero, List.set_cons_succ, List.set_cons_zero, zk_0, zk_1, zk_2, zk_3, zk_4, zq_1, zq_2, Option.isSome_some, Option.getD_some, Option.toList_some, Option.toList_none, List.cons_append, List.nil_append, nI_1]
      refine ih (i + 1) _ (va_up g1 (nI i).toNatClampNeg none) (by omega) (by omega) ⟨?_, Or.inr ⟨zu_s _ _ _, by omega, h7⟩⟩ (fun x hx1 hx2 => ?_)
      · rw [zu_n (fun q => hda q.symm)]; exact h3.1
      · rw [zu_n hx2]; exact h5 x hx1 hx2
  refine zgo (cut := fun q => q == 27) 60 C lk_L hR ?_
  simp only [zs_null, zs_iconst, zs_iload_n, zs_aload_n, zs_istore_n, zs_astore_n0, zs_astore_n1, zs_iadd, zs_dup0, zs_dup1, zs_dup_x10, zs_dup_x11, zs_dup2, zs_icmp_ge, zs_goto, zs_iinc, zs_get, zs_put, zs_return, zx_iv, zx_is, zx_it, zx_nw, zx_na, zx_an, zx_cc, zx_gs, zx_as, zx_ae, zx_ac, zx_at, zr_seg, zr_t, zr_f, zr_tp, zr_fp, zr_lg, zr_lr, zr_lr0, zr_wi, zr_wr, zr_wn, zr_wl, zr_vo, zr_so, zr_sI, zr_sL, zr_sA, zr_sN, zr_in, zr_rd, zr_wr2, zr_kf, zr_k0, zr_k1, zr_k2, zr_k3, zr_k3n, zr_k10, zr_k11, zr_k12, zr_k13, zr_k13n, zr_ai, zr_af, zr_aw, zr_aL, zr_Lf, zr_Lw, zr_l2, zr_l20, zr_al, zr_an, zr_aq, zr_ag, zr_rfs, zr_rfn, zr_r1, zr_r2, zr_w0, zr_w1, zr_tl, zr_40, zr_41, zr_42, zr_43, d_L_clear_0, d_L_clear_1, d_L_clear_2, fl_L_63, d_L_clear_5, ci_1, d_L_clear_6, d_L_clear_7, d_L_clear_10, d_L_clear_11, fl_L_9, d_L_clear_14, d_L_clear_15, d_L_clear_16, fl_L_48, d_L_clear_19, d_L_clear_20, d_L_clear_21, ci_0, d_L_clear_22, d_L_clear_23, d_L_clear_26, d_L_clear_27, d_L_clear_28, d_L_clear_29, zt_29_13, zo_29_13, d_L_clear_32, d_L_clear_33, d_L_clear_34, d_L_clear_35, d_L_clear_36, d_L_clear_39, zt_39_m12, zo_39_m12, d_L_clear_42, za_0, za_i, za_r, za_n, za_l, zu_s, zu_u, Nat.reduceAdd, Nat.reduceLT, Nat.reduceBEq, Nat.zero_add, Bool.false_or, Bool.or_false, Bool.true_or, Bool.or_true, Bool.false_and, Bool.and_false, Bool.true_and, Bool.and_true, true_and, and_true, true_or, or_true, eq_self, Nat.le_refl, List.getElem?_cons_succ, List.getElem?_cons_zero, List.set_cons_succ, List.set_cons_zero, zk_0, zk_1, zk_2, zk_3, zk_4, zq_1, zq_2, Option.isSome_some, Option.getD_some, Option.toList_some, Option.toList_none, List.cons_append, List.nil_append, hA2]
  refine loop n 0 _ g (by omega) (by omega) ⟨zu_s _ _ _, ?_⟩ (fun x hx1 _ => zu_n hx1)
  rcases hL.2 with ⟨h1, _, h2⟩ | ⟨h1, h2, h3⟩
  · exact Or.inl ⟨h1, rfl, h2⟩
  · have hda : ed ≠ a := fun q => by rw [q, hA] at h1; cases h1
    exact Or.inr ⟨by rw [zu_n hda]; exact h1, by omega, h3⟩
end
section
/-! CONSENTS. -/
def zNo (t n : Nat) : va_E := .inr (3, [.ref t, .int (nI n)])
def zIa (dA : Nat → ClassId) (n : Nat) (f : Nat → Int32) : va_E := .inl (dA 0, n, .inl f)
def zcode (p k o : Int32) : Int32 := (k * 100 + p) * 101 + o + 1
def zIn (f : Nat → Int32) (n : Nat) (x : Int32) : Prop := ∃ j, j < n ∧ f j = x
set_option maxHeartbeats 4000000 in
set_option maxRecDepth 100000 in
theorem c_N_codeOf (l : Launch) (D : va_G) (dA : Nat → ClassId) (z : Nat) (M : zVw) (a b c0 : Int32) : zMet l y_N_codeOf b_N_codeOf 3 (some .int) 0 0 0 0 D dA z [.int a, .int b, .int c0] M (fun v M' => M' = M ∧ v = some (.int (zcode a b c0))) := by
  refine z_of 1 false (by decide) (fun h => by first | rfl | cases h) (Nat.le_of_ble_eq_true rfl) trivial ?_
  intro p e s m args below meth c C hR
  refine zgo (cut := fun _ => false) 60 C lk_N hR ?_
  simp only [zs_iconst, zs_bipush, zs_iload_n, zs_iadd, zs_imul, zs_ireturn, zx_iv, zx_is, zx_it, zx_nw, zx_na, zx_an, zx_cc, zx_gs, zx_as, zx_ae, zx_ac, zx_at, zr_seg, zr_t, zr_f, zr_tp, zr_fp, zr_lg, zr_lr, zr_lr0, zr_wi, zr_wr, zr_wn, zr_wl, zr_vo, zr_so, zr_sI, zr_sL, zr_sA, zr_sN, zr_in, zr_rd, zr_wr2, zr_kf, zr_k0, zr_k1, zr_k2, zr_k3, zr_k3n, zr_k10, zr_k11, zr_k12, zr_k13, zr_k13n, zr_ai, zr_af, zr_aw, zr_aL, zr_Lf, zr_Lw, zr_l2, zr_l20, zr_al, zr_an, zr_aq, zr_ag, zr_rfs, zr_rfn, zr_r1, zr_r2, zr_w0, zr_w1, zr_tl, zr_40, zr_41, zr_42, zr_43, d_N_codeOf_0, d_N_codeOf_1, cb_100, d_N_codeOf_3, d_N_codeOf_4, d_N_codeOf_5, d_N_codeOf_6, cb_101, d_N_codeOf_8, d_N_codeOf_9, d_N_codeOf_10, d_N_codeOf_11, ci_1, d_N_codeOf_12, d_N_codeOf_13, za_0, za_i, za_r, za_n, za_l, zu_s, zu_u, Nat.reduceAdd, Nat.reduceLT, Nat.reduceBEq, Nat.zero_add, Bool.false_or, Bool.or_false, Bool.true_or, Bool.or_true, Bool.false_and, Bool.and_false, Bool.true_and, Bool.and_true, true_and, and_true, true_or, or_true, eq_self, Nat.le_refl, List.getElem?_cons_succ, List.getElem?_cons_zero, List.set_cons_succ, List.set_cons_zero, zk_0, zk_1, zk_2, zk_3, zk_4, zq_1, zq_2, Option.isSome_some, Option.getD_some, Option.toList_some, Option.toList_none, List.cons_append, List.nil_append]
  rfl
set_option maxHeartbeats 4000000 in
set_option maxRecDepth 100000 in
theorem c_N_placeOf (l : Launch) (D : va_G) (dA : Nat → ClassId) (z : Nat) (M : zVw) (h t n : Nat) (f : Nat → Int32) (x : Int32) (hH : M h = some (zNo t n)) (hT : M t = some (zIa dA 100 f)) (hn : n ≤ 100) : zMet l y_N_placeOf b_N_placeOf 3 (some .int) 0 0 0 0 D dA z [.ref h, .int x] M (fun v M' => M' = M ∧ ((∃ j, j < n ∧ f j = x ∧ (∀ i, i < j → f i ≠ x) ∧ v = some (.int (nI j))) ∨ ((∀ j, j < n → f j ≠ x) ∧ v = some (.int (-1))))) := by
  have hH2 := hH
  have hT2 := hT
  unfold zNo at hH2
  unfold zIa at hT2
  refine z_of 1 false (by decide) (fun h => by first | rfl | cases h) (Nat.le_of_ble_eq_true rfl) trivial ?_
  intro p e s m args below meth c C hR
  have loop : ∀ (k i : Nat), n - i ≤ k → i ≤ n → (∀ j, j < i → f j ≠ x) → zJ p l e (zR 0 0 0 0) s m args below meth c (MQ below (zQ D dA z (fun v M' => M' = M ∧ ((∃ j, j < n ∧ f j = x ∧ (∀ i, i < j → f i ≠ x) ∧ v = some (.int (nI j))) ∨ ((∀ j, j < n → f j ≠ x) ∧ v = some (.int (-1)))))) args s 0 0 (fun q => z ≤ q)) 3 z D 2 [(2, .int (nI i)), (0, .ref h), (1, .int x)] [] M 0 0 := by
    intro k
    induction k with
    | zero =>
      intro i h1 h2 h3
      have e1 : nI n ≤ nI i := nI_le (by omega) (by omega)
      refine zgo (cut := fun q => q == 2) 60 C lk_N hR ?_
      simp only [zs_iconst, zs_iload_n, zs_aload_n, zs_istore_n, zs_icmp_ne, zs_icmp_ge, zs_goto, zs_iinc, zs_get, zs_iaload, zs_ireturn, zx_iv, zx_is, zx_it, zx_nw, zx_na, zx_an, zx_cc, zx_gs, zx_as, zx_ae, zx_ac, zx_at, zr_seg, zr_t, zr_f, zr_tp, zr_fp, zr_lg, zr_lr, zr_lr0, zr_wi, zr_wr, zr_wn, zr_wl, zr_vo, zr_so, zr_sI, zr_sL, zr_sA, zr_sN, zr_in, zr_rd, zr_wr2, zr_kf, zr_k0, zr_k1, zr_k2, zr_k3, zr_k3n, zr_k10, zr_k11, zr_k12, zr_k13, zr_k13n, zr_ai, zr_af, zr_aw, zr_aL, zr_Lf, zr_Lw, zr_l2, zr_l20, zr_al, zr_an, zr_aq, zr_ag, zr_rfs, zr_rfn, zr_r1, zr_r2, zr_w0, zr_w1, zr_tl, zr_40, zr_41, zr_42, zr_43, d_N_placeOf_0, ci_0, d_N_placeOf_1, d_N_placeOf_2, d_N_placeOf_3, d_N_placeOf_4, fl_N_15, d_N_placeOf_7, zt_7_21, zo_7_21, d_N_placeOf_10, d_N_placeOf_11, fl_N_9, d_N_placeOf_14, d_N_placeOf_15, d_N_placeOf_16, d_N_placeOf_17, zt_17_5, zo_17_5, d_N_placeOf_20, d_N_placeOf_21, d_N_placeOf_22, ci_1, d_N_placeOf_25, zt_25_m23, zo_25_m23, d_N_placeOf_28, ci_m1, d_N_placeOf_29, za_0, za_i, za_r, za_n, za_l, zu_s, zu_u, Nat.reduceAdd, Nat.reduceLT, Nat.reduceBEq, Nat.zero_add, Bool.false_or, Bool.or_false, Bool.true_or, Bool.or_true, Bool.false_and, Bool.and_false, Bool.true_and, Bool.and_true, true_and, and_true, true_or, or_true, eq_self, Nat.le_refl, List.getElem?_cons_succ, List.getElem?_cons_zero, List.set_cons_succ, List.set_cons_zero, zk_0, zk_1, zk_2, zk_3, zk_4, zq_1, zq_2, Option.isSome_some, Option.getD_some, Option.toList_some, Option.toList_none, List.cons_append, List.nil_append, hH2, hT2]
      exact ⟨fun _ => Or.inr fun j hj => h3 j (by omega), fun h => absurd e1 h⟩
    | succ k ih =>
      intro i h1 h2 h3
      refine zgo (cut := fun q => q == 2) 60 C lk_N hR ?_
      simp only [zs_iconst, zs_iload_n, zs_aload_n, zs_istore_n, zs_icmp_ne, zs_icmp_ge, zs_goto, zs_iinc, zs_get, zs_iaload, zs_ireturn, zx_iv, zx_is, zx_it, zx_nw, zx_na, zx_an, zx_cc, zx_gs, zx_as, zx_ae, zx_ac, zx_at, zr_seg, zr_t, zr_f, zr_tp, zr_fp, zr_lg, zr_lr, zr_lr0, zr_wi, zr_wr, zr_wn, zr_wl, zr_vo, zr_so, zr_sI, zr_sL, zr_sA, zr_sN, zr_in, zr_rd, zr_wr2, zr_kf, zr_k0, zr_k1, zr_k2, zr_k3, zr_k3n, zr_k10, zr_k11, zr_k12, zr_k13, zr_k13n, zr_ai, zr_af, zr_aw, zr_aL, zr_Lf, zr_Lw, zr_l2, zr_l20, zr_al, zr_an, zr_aq, zr_ag, zr_rfs, zr_rfn, zr_r1, zr_r2, zr_w0, zr_w1, zr_tl, zr_40, zr_41, zr_42, zr_43, d_N_placeOf_0, ci_0, d_N_placeOf_1, d_N_placeOf_2, d_N_placeOf_3, d_N_placeOf_4, fl_N_15, d_N_placeOf_7, zt_7_21, zo_7_21, d_N_placeOf_10, d_N_placeOf_11, fl_N_9, d_N_placeOf_14, d_N_placeOf_15, d_N_placeOf_16, d_N_placeOf_17, zt_17_5, zo_17_5, d_N_placeOf_20, d_N_placeOf_21, d_N_placeOf_22, ci_1, d_N_placeOf_25, zt_25_m23, zo_25_m23, d_N_placeOf_28, ci_m1, d_N_placeOf_29, za_0, za_i, za_r, za_n, za_l, zu_s, zu_u, Nat.reduceAdd, Nat.reduceLT, Nat.reduceBEq, Nat.zero_add, Bool.false_or, Bool.or_false, Bool.true_or, Bool.or_true, Bool.false_and, Bool.and_false, Bool.true_and, Bool.and_true, true_and, and_true, true_or, or_true, eq_self, Nat.le_refl, List.getElem?_cons_succ, List.getElem?_cons_zero, List.set_cons_succ, List.set_cons_zero, zk_0, zk_1, zk_2, zk_3, zk_4, zq_1, zq_2, Option.isSome_some, Option.getD_some, Option.toList_some, Option.toList_none, List.cons_append, List.nil_append, hH2, hT2, nI_1]
      refine ⟨fun q => Or.inr fun j hj => h3 j (by
        rcases Nat.lt_or_ge i n with g | g
        · exact absurd q (nI_ge g (by omega))
        · omega), fun q => ?_⟩
      have hlt : i < n := by
        rcases Nat.lt_or_ge i n with g | g
        · exact g
        · exact absurd (nI_le g (by omega)) q
      have ei : (nI i).toNatClampNeg = i := nI_clamp (by omega)
      rw [ei]
      refine ⟨vp_in_nI (by omega) (by omega), fun g => ?_, fun g => Or.inl ⟨i, hlt, g, h3, rfl⟩⟩
      refine ih (i + 1) (by omega) (by omega) (fun j hj => ?_)
      rcases Nat.lt_or_ge j i with g2 | g2
      · exact h3 j g2
      · rw [show j = i by omega]; exact g
  refine zgo (cut := fun q => q == 2) 60 C lk_N hR ?_
  simp only [zs_iconst, zs_iload_n, zs_aload_n, zs_istore_n, zs_icmp_ne, zs_icmp_ge, zs_goto, zs_iinc, zs_get, zs_iaload, zs_ireturn, zx_iv, zx_is, zx_it, zx_nw, zx_na, zx_an, zx_cc, zx_gs, zx_as, zx_ae, zx_ac, zx_at, zr_seg, zr_t, zr_f, zr_tp, zr_fp, zr_lg, zr_lr, zr_lr0, zr_wi, zr_wr, zr_wn, zr_wl, zr_vo, zr_so, zr_sI, zr_sL, zr_sA, zr_sN, zr_in, zr_rd, zr_wr2, zr_kf, zr_k0, zr_k1, zr_k2, zr_k3, zr_k3n, zr_k10, zr_k11, zr_k12, zr_k13, zr_k13n, zr_ai, zr_af, zr_aw, zr_aL, zr_Lf, zr_Lw, zr_l2, zr_l20, zr_al, zr_an, zr_aq, zr_ag, zr_rfs, zr_rfn, zr_r1, zr_r2, zr_w0, zr_w1, zr_tl, zr_40, zr_41, zr_42, zr_43, d_N_placeOf_0, ci_0, d_N_placeOf_1, d_N_placeOf_2, d_N_placeOf_3, d_N_placeOf_4, fl_N_15, d_N_placeOf_7, zt_7_21, zo_7_21, d_N_placeOf_10, d_N_placeOf_11, fl_N_9, d_N_placeOf_14, d_N_placeOf_15, d_N_placeOf_16, d_N_placeOf_17, zt_17_5, zo_17_5, d_N_placeOf_20, d_N_placeOf_21, d_N_placeOf_22, ci_1, d_N_placeOf_25, zt_25_m23, zo_25_m23, d_N_placeOf_28, ci_m1, d_N_placeOf_29, za_0, za_i, za_r, za_n, za_l, zu_s, zu_u, Nat.reduceAdd, Nat.reduceLT, Nat.reduceBEq, Nat.zero_add, Bool.false_or, Bool.or_false, Bool.true_or, Bool.or_true, Bool.false_and, Bool.and_false, Bool.true_and, Bool.and_true, true_and, and_true, true_or, or_true, eq_self, Nat.le_refl, List.getElem?_cons_succ, List.getElem?_cons_zero, List.set_cons_succ, List.set_cons_zero, zk_0, zk_1, zk_2, zk_3, zk_4, zq_1, zq_2, Option.isSome_some, Option.getD_some, Option.toList_some, Option.toList_none, List.cons_append, List.nil_append]
  exact loop n 0 (by omega) (by omega) (fun j hj => absurd hj (by omega))
set_option maxHeartbeats 4000000 in
set_option maxRecDepth 100000 in
theorem c_N_stand (l : Launch) (D : va_G) (dA : Nat → ClassId) (z : Nat) (M : zVw) (h t n : Nat) (f : Nat → Int32) (a b c0 : Int32) (hH : M h = some (zNo t n)) (hT : M t = some (zIa dA 100 f)) (hn : n ≤ 100) : zMet l y_N_stand b_N_stand 4 (some .boolean) 1 22 0 0 D dA z [.ref h, .int a, .int b, .int c0] M (fun v M' => M' = M ∧ ((zIn f n (zcode a b c0) ∧ v = some (.int 1)) ∨ (¬ zIn f n (zcode a b c0) ∧ v = some (.int 0)))) := by
  refine z_of 2 false (by decide) (fun h => by first | rfl | cases h) (Nat.le_of_ble_eq_true rfl) trivial ?_
  intro p e s m args below meth c C hR
  refine zgo (cut := fun _ => false) 60 C lk_N hR ?_
  simp only [zs_iconst, zs_iload_n, zs_aload_n, zs_if_lt, zs_goto, zs_ireturn, zx_iv, zx_is, zx_it, zx_nw, zx_na, zx_an, zx_cc, zx_gs, zx_as, zx_ae, zx_ac, zx_at, zr_seg, zr_t, zr_f, zr_tp, zr_fp, zr_lg, zr_lr, zr_lr0, zr_wi, zr_wr, zr_wn, zr_wl, zr_vo, zr_so, zr_sI, zr_sL, zr_sA, zr_sN, zr_in, zr_rd, zr_wr2, zr_kf, zr_k0, zr_k1, zr_k2, zr_k3, zr_k3n, zr_k10, zr_k11, zr_k12, zr_k13, zr_k13n, zr_ai, zr_af, zr_aw, zr_aL, zr_Lf, zr_Lw, zr_l2, zr_l20, zr_al, zr_an, zr_aq, zr_ag, zr_rfs, zr_rfn, zr_r1, zr_r2, zr_w0, zr_w1, zr_tl, zr_40, zr_41, zr_42, zr_43, d_N_stand_0, d_N_stand_1, d_N_stand_2, d_N_stand_3, d_N_stand_4, d_N_stand_7, d_N_stand_10, zt_10_7, zo_10_7, d_N_stand_13, ci_1, d_N_stand_14, zt_14_4, zo_14_4, d_N_stand_17, ci_0, d_N_stand_18, za_0, za_i, za_r, za_n, za_l, zu_s, zu_u, Nat.reduceAdd, Nat.reduceLT, Nat.reduceBEq, Nat.zero_add, Bool.false_or, Bool.or_false, Bool.true_or, Bool.or_true, Bool.false_and, Bool.and_false, Bool.true_and, Bool.and_true, true_and, and_true, true_or, or_true, eq_self, Nat.le_refl, List.getElem?_cons_succ, List.getElem?_cons_zero, List.set_cons_succ, List.set_cons_zero, zk_0, zk_1, zk_2, zk_3, zk_4, zq_1, zq_2, Option.isSome_some, Option.getD_some, Option.toList_some, Option.toList_none, List.cons_append, List.nil_append]
  refine zJ_callS (As := [.int a, .int b, .int c0]) (rest := [.ref h]) C d_N_stand_4 (c_N_codeOf l D dA z M a b c0) k_N_19 s_N_codeOf ⟨(Nat.le_of_ble_eq_true rfl), (Nat.le_of_ble_eq_true rfl)⟩ ⟨(Nat.le_of_ble_eq_true rfl), (Nat.le_of_ble_eq_true rfl)⟩ rfl (Nat.le_of_ble_eq_true rfl) ?_
  rintro v M' ⟨rfl, rfl⟩
  refine zgo (cut := fun _ => false) 60 C lk_N hR ?_
  simp only [zs_iconst, zs_iload_n, zs_aload_n, zs_if_lt, zs_goto, zs_ireturn, zx_iv, zx_is, zx_it, zx_nw, zx_na, zx_an, zx_cc, zx_gs, zx_as, zx_ae, zx_ac, zx_at, zr_seg, zr_t, zr_f, zr_tp, zr_fp, zr_lg, zr_lr, zr_lr0, zr_wi, zr_wr, zr_wn, zr_wl, zr_vo, zr_so, zr_sI, zr_sL, zr_sA, zr_sN, zr_in, zr_rd, zr_wr2, zr_kf, zr_k0, zr_k1, zr_k2, zr_k3, zr_k3n, zr_k10, zr_k11, zr_k12, zr_k13, zr_k13n, zr_ai, zr_af, zr_aw, zr_aL, zr_Lf, zr_Lw, zr_l2, zr_l20, zr_al, zr_an, zr_aq, zr_ag, zr_rfs, zr_rfn, zr_r1, zr_r2, zr_w0, zr_w1, zr_tl, zr_40, zr_41, zr_42, zr_43, d_N_stand_0, d_N_stand_1, d_N_stand_2, d_N_stand_3, d_N_stand_4, d_N_stand_7, d_N_stand_10, zt_10_7, zo_10_7, d_N_stand_13, ci_1, d_N_stand_14, zt_14_4, zo_14_4, d_N_stand_17, ci_0, d_N_stand_18, za_0, za_i, za_r, za_n, za_l, zu_s, zu_u, Nat.reduceAdd, Nat.reduceLT, Nat.reduceBEq, Nat.zero_add, Bool.false_or, Bool.or_false, Bool.true_or, Bool.or_true, Bool.false_and, Bool.and_false, Bool.true_and, Bool.and_true, true_and, and_true, true_or, or_true, eq_self, Nat.le_refl, List.getElem?_cons_succ, List.getElem?_cons_zero, List.set_cons_succ, List.set_cons_zero, zk_0, zk_1, zk_2, zk_3, zk_4, zq_1, zq_2, Option.isSome_some, Option.getD_some, Option.toList_some, Option.toList_none, List.cons_append, List.nil_append]
  refine zJ_callV (As := [.int (zcode a b c0)]) (rest := []) C d_N_stand_7 (c_N_placeOf l D dA z M' h t n f (zcode a b c0) hH hT hn) k_N_23 n_N_placeOf v_N_placeOf hH rfl rfl ⟨(Nat.le_of_ble_eq_true rfl), (Nat.le_of_ble_eq_true rfl)⟩ ⟨(Nat.le_of_ble_eq_true rfl), (Nat.le_of_ble_eq_true rfl)⟩ rfl (Nat.le_of_ble_eq_true rfl) ?_
  rintro v M'' ⟨rfl, hv⟩
  rcases hv with ⟨j, h1, h2, _, rfl⟩ | ⟨h1, rfl⟩
  · refine zgo (cut := fun _ => false) 60 C lk_N hR ?_
    simp only [zs_iconst, zs_iload_n, zs_aload_n, zs_if_lt, zs_goto, zs_ireturn, zx_iv, zx_is, zx_it, zx_nw, zx_na, zx_an, zx_cc, zx_gs, zx_as, zx_ae, zx_ac, zx_at, zr_seg, zr_t, zr_f, zr_tp, zr_fp, zr_lg, zr_lr, zr_lr0, zr_wi, zr_wr, zr_wn, zr_wl, zr_vo, zr_so, zr_sI, zr_sL, zr_sA, zr_sN, zr_in, zr_rd, zr_wr2, zr_kf, zr_k0, zr_k1, zr_k2, zr_k3, zr_k3n, zr_k10, zr_k11, zr_k12, zr_k13, zr_k13n, zr_ai, zr_af, zr_aw, zr_aL, zr_Lf, zr_Lw, zr_l2, zr_l20, zr_al, zr_an, zr_aq, zr_ag, zr_rfs, zr_rfn, zr_r1, zr_r2, zr_w0, zr_w1, zr_tl, zr_40, zr_41, zr_42, zr_43, d_N_stand_0, d_N_stand_1, d_N_stand_2, d_N_stand_3, d_N_stand_4, d_N_stand_7, d_N_stand_10, zt_10_7, zo_10_7, d_N_stand_13, ci_1, d_N_stand_14, zt_14_4, zo_14_4, d_N_stand_17, ci_0, d_N_stand_18, za_0, za_i, za_r, za_n, za_l, zu_s, zu_u, Nat.reduceAdd, Nat.reduceLT, Nat.reduceBEq, Nat.zero_add, Bool.false_or, Bool.or_false, Bool.true_or, Bool.or_true, Bool.false_and, Bool.and_false, Bool.true_and, Bool.and_true, true_and, and_true, true_or, or_true, eq_self, Nat.le_refl, List.getElem?_cons_succ, List.getElem?_cons_zero, List.set_cons_succ, List.set_cons_zero, zk_0, zk_1, zk_2, zk_3, zk_4, zq_1, zq_2, Option.isSome_some, Option.getD_some, Option.toList_some, Option.toList_none, List.cons_append, List.nil_append]
    exact ⟨fun q => absurd q (nI_pos (by omega)), fun _ => Or.inl ⟨j, h1, h2⟩⟩
  · refine zgo (cut := fun _ => false) 60 C lk_N hR ?_
    simp only [zs_iconst, zs_iload_n, zs_aload_n, zs_if_lt, zs_goto, zs_ireturn, zx_iv, zx_is, zx_it, zx_nw, zx_na, zx_an, zx_cc, zx_gs, zx_as, zx_ae, zx_ac, zx_at, zr_seg, zr_t, zr_f, zr_tp, zr_fp, zr_lg, zr_lr, zr_lr0, zr_wi, zr_wr, zr_wn, zr_wl, zr_vo, zr_so, zr_sI, zr_sL, zr_sA, zr_sN, zr_in, zr_rd, zr_wr2, zr_kf, zr_k0, zr_k1, zr_k2, zr_k3, zr_k3n, zr_k10, zr_k11, zr_k12, zr_k13, zr_k13n, zr_ai, zr_af, zr_aw, zr_aL, zr_Lf, zr_Lw, zr_l2, zr_l20, zr_al, zr_an, zr_aq, zr_ag, zr_rfs, zr_rfn, zr_r1, zr_r2, zr_w0, zr_w1, zr_tl, zr_40, zr_41, zr_42, zr_43, d_N_stand_0, d_N_stand_1, d_N_stand_2, d_N_stand_3, d_N_stand_4, d_N_stand_7, d_N_stand_10, zt_10_7, zo_10_7, d_N_stand_13, ci_1, d_N_stand_14, zt_14_4, zo_14_4, d_N_stand_17, ci_0, d_N_stand_18, za_0, za_i, za_r, za_n, za_l, zu_s, zu_u, Nat.reduceAdd, Nat.reduceLT, Nat.reduceBEq, Nat.zero_add, Bool.false_or, Bool.or_false, Bool.true_or, Bool.or_true, Bool.false_and, Bool.and_false, Bool.true_and, Bool.and_true, true_and, and_true, true_or, or_true, eq_self, Nat.le_refl, List.getElem?_cons_succ, List.getElem?_cons_zero, List.set_cons_succ, List.set_cons_zero, zk_0, zk_1, zk_2, zk_3, zk_4, zq_1, zq_2, Option.isSome_some, Option.getD_some, Option.toList_some, Option.toList_none, List.cons_append, List.nil_append]
    exact ⟨fun _ => Or.inr fun ⟨j, q1, q2⟩ => h1 j q1 q2, fun q => absurd (by decide) q⟩
set_option maxHeartbeats 4000000 in
set_option maxRecDepth 100000 in
theorem c_N_turn (l : Launch) (D : va_G) (dA : Nat → ClassId) (z : Nat) (M : zVw) (h t n : Nat) (f : Nat → Int32) (a b c0 : Int32) (hH : M h = some (zNo t n)) (hT : M t = some (zIa dA 100 f)) (hn : n ≤ 100) : zMet l y_N_turn b_N_turn 6 (some .int) 1 22 0 0 D dA z [.ref h, .int a, .int b, .int c0] M (fun v M' => (∃ j, j < n ∧ f j = zcode a b c0 ∧ (∀ i, i < j → f i ≠ zcode a b c0) ∧ v = some (.int 0) ∧ M' = zu (zu M h (zNo t (n - 1))) t (zIa dA 100 (upd f j (f (n - 1))))) ∨ (¬ zIn f n (zcode a b c0) ∧ n = 100 ∧ v = some (.int (-14)) ∧ M' = M) ∨ (¬ zIn f n (zcode a b c0) ∧ n < 100 ∧ v = some (.int 1) ∧ M' = zu (zu M t (zIa dA 100 (upd f n (zcode a b c0)))) h (zNo t (n + 1)))) := by
  have hH2 := hH
  have hT2 := hT
  unfold zNo at hH2
  unfold zIa at hT2
  have hth : t ≠ h := fun q => by rw [q, hH2] at hT2; cases hT2
  have hht : h ≠ t := fun q => hth q.symm
  refine z_of 1 false (by decide) (fun h => by first | rfl | cases h) (Nat.le_of_ble_eq_true rfl) trivial ?_
  intro p e s m args below meth c C hR
  refine zgo (cut := fun _ => false) 60 C lk_N hR ?_
  simp only [zs_iconst, zs_bipush, zs_iload_n, zs_iload, zs_aload_n, zs_istore, zs_iadd, zs_isub, zs_dup0, zs_dup1, zs_dup2, zs_if_lt, zs_icmp_lt, zs_get, zs_put, zs_iaload, zs_iastore, zs_ireturn, zx_iv, zx_is, zx_it, zx_nw, zx_na, zx_an, zx_cc, zx_gs, zx_as, zx_ae, zx_ac, zx_at, zr_seg, zr_t, zr_f, zr_tp, zr_fp, zr_lg, zr_lr, zr_lr0, zr_wi, zr_wr, zr_wn, zr_wl, zr_vo, zr_so, zr_sI, zr_sL, zr_sA, zr_sN, zr_in, zr_rd, zr_wr2, zr_kf, zr_k0, zr_k1, zr_k2, zr_k3, zr_k3n, zr_k10, zr_k11, zr_k12, zr_k13, zr_k13n, zr_ai, zr_af, zr_aw, zr_aL, zr_Lf, zr_Lw, zr_l2, zr_l20, zr_al, zr_an, zr_aq, zr_ag, zr_rfs, zr_rfn, zr_r1, zr_r2, zr_w0, zr_w1, zr_tl, zr_40, zr_41, zr_42, zr_43, d_N_turn_0, d_N_turn_1, d_N_turn_2, d_N_turn_3, d_N_turn_6, d_N_turn_8, d_N_turn_9, d_N_turn_11, d_N_turn_14, d_N_turn_16, d_N_turn_18, zt_18_31, zo_18_31, d_N_turn_21, d_N_turn_22, d_N_turn_23, fl_N_15, d_N_turn_26, ci_1, d_N_turn_27, d_N_turn_28, d_N_turn_31, d_N_turn_32, fl_N_9, d_N_turn_35, d_N_turn_37, d_N_turn_38, d_N_turn_41, d_N_turn_42, d_N_turn_45, d_N_turn_46, d_N_turn_47, ci_0, d_N_turn_48, d_N_turn_49, d_N_turn_50, d_N_turn_53, cb_100, d_N_turn_55, zt_55_6, zo_55_6, d_N_turn_58, cb_m14, d_N_turn_60, d_N_turn_61, d_N_turn_62, d_N_turn_65, d_N_turn_66, d_N_turn_69, d_N_turn_71, d_N_turn_72, d_N_turn_73, d_N_turn_74, d_N_turn_77, d_N_turn_78, d_N_turn_79, d_N_turn_82, d_N_turn_83, za_0, za_i, za_r, za_n, za_l, zu_s, zu_u, Nat.reduceAdd, Nat.reduceLT, Nat.reduceBEq, Nat.zero_add, Bool.false_or, Bool.or_false, Bool.true_or, Bool.or_true, Bool.false_and, Bool.and_false, Bool.true_and, Bool.and_true, true_and, and_true, true_or, or_true, eq_self, Nat.le_refl, List.getElem?_cons_succ, List.getElem?_cons_zero, List.set_cons_succ, List.set_cons_zero, zk_0, zk_1, zk_2, zk_3, zk_4, zq_1, zq_2, Option.isSome_some, Option.getD_some, Option.toList_some, Option.toList_none, List.cons_append, List.nil_append]
  refine zJ_callS (As := [.int a, .int b, .int c0]) (rest := []) C d_N_turn_3 (c_N_codeOf l D dA z M a b c0) k_N_19 s_N_codeOf ⟨(Nat.le_of_ble_eq_true rfl), (Nat.le_of_ble_eq_true rfl)⟩ ⟨(Nat.le_of_ble_eq_true rfl), (Nat.le_of_ble_eq_true rfl)⟩ rfl (Nat.le_of_ble_eq_true rfl) ?_
  rintro v M' ⟨rfl, rfl⟩
  refine zgo (cut := fun _ => false) 60 C lk_N hR ?_
  simp only [zs_iconst, zs_bipush, zs_iload_n, zs_iload, zs_aload_n, zs_istore, zs_iadd, zs_isub, zs_dup0, zs_dup1, zs_dup2, zs_if_lt, zs_icmp_lt, zs_get, zs_put, zs_iaload, zs_iastore, zs_ireturn, zx_iv, zx_is, zx_it, zx_nw, zx_na, zx_an, zx_cc, zx_gs, zx_as, zx_ae, zx_ac, zx_at, zr_seg, zr_t, zr_f, zr_tp, zr_fp, zr_lg, zr_lr, zr_lr0, zr_wi, zr_wr, zr_wn, zr_wl, zr_vo, zr_so, zr_sI, zr_sL, zr_sA, zr_sN, zr_in, zr_rd, zr_wr2, zr_kf, zr_k0, zr_k1, zr_k2, zr_k3, zr_k3n, zr_k10, zr_k11, zr_k12, zr_k13, zr_k13n, zr_ai, zr_af, zr_aw, zr_aL, zr_Lf, zr_Lw, zr_l2, zr_l20, zr_al, zr_an, zr_aq, zr_ag, zr_rfs, zr_rfn, zr_r1, zr_r2, zr_w0, zr_w1, zr_tl, zr_40, zr_41, zr_42, zr_43, d_N_turn_0, d_N_turn_1, d_N_turn_2, d_N_turn_3, d_N_turn_6, d_N_turn_8, d_N_turn_9, d_N_turn_11, d_N_turn_14, d_N_turn_16, d_N_turn_18, zt_18_31, zo_18_31, d_N_turn_21, d_N_turn_22, d_N_turn_23, fl_N_15, d_N_turn_26, ci_1, d_N_turn_27, d_N_turn_28, d_N_turn_31, d_N_turn_32, fl_N_9, d_N_turn_35, d_N_turn_37, d_N_turn_38, d_N_turn_41, d_N_turn_42, d_N_turn_45, d_N_turn_46, d_N_turn_47, ci_0, d_N_turn_48, d_N_turn_49, d_N_turn_50, d_N_turn_53, cb_100, d_N_turn_55, zt_55_6, zo_55_6, d_N_turn_58, cb_m14, d_N_turn_60, d_N_turn_61, d_N_turn_62, d_N_turn_65, d_N_turn_66, d_N_turn_69, d_N_turn_71, d_N_turn_72, d_N_turn_73, d_N_turn_74, d_N_turn_77, d_N_turn_78, d_N_turn_79, d_N_turn_82, d_N_turn_83, za_0, za_i, za_r, za_n, za_l, zu_s, zu_u, Nat.reduceAdd, Nat.reduceLT, Nat.reduceBEq, Nat.zero_add, Bool.false_or, Bool.or_false, Bool.true_or, Bool.or_true, Bool.false_and, Bool.and_false, Bool.true_and, Bool.and_true, true_and, and_true, true_or, or_true, eq_self, Nat.le_refl, List.getElem?_cons_succ, List.getElem?_cons_zero, List.set_cons_succ, List.set_cons_zero, zk_0, zk_1, zk_2, zk_3, zk_4, zq_1, zq_2, Option.isSome_some, Option.getD_some, Option.toList_some, Option.toList_none, List.cons_append, List.nil_append]
  refine zJ_callV (As := [.int (zcode a b c0)]) (rest := []) C d_N_turn_11 (c_N_placeOf l D dA z M' h t n f (zcode a b c0) hH hT hn) k_N_23 n_N_placeOf v_N_placeOf hH rfl rfl ⟨(Nat.le_of_ble_eq_true rfl), (Nat.le_of_ble_eq_true rfl)⟩ ⟨(Nat.le_of_ble_eq_true rfl), (Nat.le_of_ble_eq_true rfl)⟩ rfl (Nat.le_of_ble_eq_true rfl) ?_
  rintro v M'' ⟨rfl, hv⟩
  rcases hv with ⟨j, h1, h2, h3, rfl⟩ | ⟨h1, rfl⟩
  · have e1 : nI n - 1 = nI (n - 1) := by
      obtain ⟨m0, rfl⟩ : ∃ m0, n = m0 + 1 := ⟨n - 1, by omega⟩
      exact nI_pred m0
    have e2 : (nI (n - 1)).toNatClampNeg = n - 1 := nI_clamp (by omega)
    have e3 : (nI j).toNatClampNeg = j := nI_clamp (by omega)
    have i1 : vp_in (nI (n - 1)) 100 := vp_in_nI (by omega) (by omega)
    have i2 : vp_in (nI j) 100 := vp_in_nI (by omega) (by omega)
    refine zgo (cut := fun _ => false) 60 C lk_N hR ?_
    simp only [zs_iconst, zs_bipush, zs_iload_n, zs_iload, zs_aload_n, zs_istore, zs_iadd, zs_isub, zs_dup0, zs_dup1, zs_dup2, zs_if_lt, zs_icmp_lt, zs_get, zs_put, zs_iaload, zs_iastore, zs_ireturn, zx_iv, zx_is, zx_it, zx_nw, zx_na, zx_an, zx_cc, zx_gs, zx_as, zx_ae, zx_ac, zx_at, zr_seg, zr_t, zr_f, zr_tp, zr_fp, zr_lg, zr_lr, zr_lr0, zr_wi, zr_wr, zr_wn, zr_wl, zr_vo, zr_so, zr_sI, zr_sL, zr_sA, zr_sN, zr_in, zr_rd, zr_wr2, zr_kf, zr_k0, zr_k1, zr_k2, zr_k3, zr_k3n, zr_k10, zr_k11, zr_k12, zr_k13, zr_k13n, zr_ai, zr_af, zr_aw, zr_aL, zr_Lf, zr_Lw, zr_l2, zr_l20, zr_al, zr_an, zr_aq, zr_ag, zr_rfs, zr_rfn, zr_r1, zr_r2, zr_w0, zr_w1, zr_tl, zr_40, zr_41, zr_42, zr_43, d_N_turn_0, d_N_turn_1, d_N_turn_2, d_N_turn_3, d_N_turn_6, d_N_turn_8, d_N_turn_9, d_N_turn_11, d_N_turn_14, d_N_turn_16, d_N_turn_18, zt_18_31, zo_18_31, d_N_turn_21, d_N_turn_22, d_N_turn_23, fl_N_15, d_N_turn_26, ci_1, d_N_turn_27, d_N_turn_28, d_N_turn_31, d_N_turn_32, fl_N_9, d_N_turn_35, d_N_turn_37, d_N_turn_38, d_N_turn_41, d_N_turn_42, d_N_turn_45, d_N_turn_46, d_N_turn_47, ci_0, d_N_turn_48, d_N_turn_49, d_N_turn_50, d_N_turn_53, cb_100, d_N_turn_55, zt_55_6, zo_55_6, d_N_turn_58, cb_m14, d_N_turn_60, d_N_turn_61, d_N_turn_62, d_N_turn_65, d_N_turn_66, d_N_turn_69, d_N_turn_71, d_N_turn_72, d_N_turn_73, d_N_turn_74, d_N_turn_77, d_N_turn_78, d_N_turn_79, d_N_turn_82, d_N_turn_83, za_0, za_i, za_r, za_n, za_l, zu_s, zu_u, Nat.reduceAdd, Nat.reduceLT, Nat.reduceBEq, Nat.zero_add, Bool.false_or, Bool.or_false, Bool.true_or, Bool.or_true, Bool.false_and, Bool.and_false, Bool.true_and, Bool.and_true, true_and, and_true, true_or, or_true, eq_self, Nat.le_refl, List.getElem?_cons_succ, List.getElem?_cons_zero, List.set_cons_succ, List.set_cons_zero, zk_0, zk_1, zk_2, zk_3, zk_4, zq_1, zq_2, Option.isSome_some, Option.getD_some, Option.toList_some, Option.toList_none, List.cons_append, List.nil_append, hH2, hT2, e1, e2, e3, i1, i2, zu_n hth]
    refine ⟨fun q => absurd q (nI_pos (by omega)), fun _ => Or.inl ⟨j, h1, h2, h3, rfl⟩⟩
  · have hni : ¬ zIn f n (zcode a b c0) := fun ⟨j, q1, q2⟩ => h1 j q1 q2
    have e2 : (nI n).toNatClampNeg = n := nI_clamp (by omega)
    refine zgo (cut := fun _ => false) 60 C lk_N hR ?_
    simp only [zs_iconst, zs_bipush, zs_iload_n, zs_iload, zs_aload_n, zs_istore, zs_iadd, zs_isub, zs_dup0, zs_dup1, zs_dup2, zs_if_lt, zs_icmp_lt, zs_get, zs_put, zs_iaload, zs_iastore, zs_ireturn, zx_iv, zx_is, zx_it, zx_nw, zx_na, zx_an, zx_cc, zx_gs, zx_as, zx_ae, zx_ac, zx_at, zr_seg, zr_t, zr_f, zr_tp, zr_fp, zr_lg, zr_lr, zr_lr0, zr_wi, zr_wr, zr_wn, zr_wl, zr_vo, zr_so, zr_sI, zr_sL, zr_sA, zr_sN, zr_in, zr_rd, zr_wr2, zr_kf, zr_k0, zr_k1, zr_k2, zr_k3, zr_k3n, zr_k10, zr_k11, zr_k12, zr_k13, zr_k13n, zr_ai, zr_af, zr_aw, zr_aL, zr_Lf, zr_Lw, zr_l2, zr_l20, zr_al, zr_an, zr_aq, zr_ag, zr_rfs, zr_rfn, zr_r1, zr_r2, zr_w0, zr_w1, zr_tl, zr_40, zr_41, zr_42, zr_43, d_N_turn_0, d_N_turn_1, d_N_turn_2, d_N_turn_3, d_N_turn_6, d_N_turn_8, d_N_turn_9, d_N_turn_11, d_N_turn_14, d_N_turn_16, d_N_turn_18, zt_18_31, zo_18_31, d_N_turn_21, d_N_turn_22, d_N_turn_23, fl_N_15, d_N_turn_26, ci_1, d_N_turn_27, d_N_turn_28, d_N_turn_31, d_N_turn_32, fl_N_9, d_N_turn_35, d_N_turn_37, d_N_turn_38, d_N_turn_41, d_N_turn_42, d_N_turn_45, d_N_turn_46, d_N_turn_47, ci_0, d_N_turn_48, d_N_turn_49, d_N_turn_50, d_N_turn_53, cb_100, d_N_turn_55, zt_55_6, zo_55_6, d_N_turn_58, cb_m14, d_N_turn_60, d_N_turn_61, d_N_turn_62, d_N_turn_65, d_N_turn_66, d_N_turn_69, d_N_turn_71, d_N_turn_72, d_N_turn_73, d_N_turn_74, d_N_turn_77, d_N_turn_78, d_N_turn_79, d_N_turn_82, d_N_turn_83, za_0, za_i, za_r, za_n, za_l, zu_s, zu_u, Nat.reduceAdd, Nat.reduceLT, Nat.reduceBEq, Nat.zero_add, Bool.false_or, Bool.or_false, Bool.true_or, Bool.or_true, Bool.false_and, Bool.and_false, Bool.true_and, Bool.and_true, true_and, and_true, true_or, or_true, eq_self, Nat.le_refl, List.getElem?_cons_succ, List.getElem?_cons_zero, List.set_cons_succ, List.set_cons_zero, zk_0, zk_1, zk_2, zk_3, zk_4, zq_1, zq_2, Option.isSome_some, Option.getD_some, Option.toList_some, Option.toList_none, List.cons_append, List.nil_append, hH2, hT2, e2, zu_n hht, nI_1]
    refine ⟨fun _ => ⟨fun q => ?_, fun q => ?_⟩, fun q => absurd (by decide) q⟩
    · have hlt : n < 100 := (nI_ltI (by omega) (by omega)).mp q
      exact ⟨vp_in_nI hlt (by omega), Or.inr (Or.inr ⟨hni, hlt, rfl⟩)⟩
    · have hge : n = 100 := by
        rcases Nat.lt_or_ge n 100 with g | g
        · exact absurd (nI_lt g (by decide)) q
        · omega
      exact Or.inr (Or.inl ⟨hni, hge⟩)
end
section
/-! OBJECTS MADE: Consents, Item, Device. -/
def iA (n s r : Int32) (q : Nat) (d : Int32) : va_E := .inr (6, [.int n, .int s, .int r, .ref q, .int d])
def zdue (n s : Int32) : Int32 := if s = 5 then 250 * (1 + (n - n / 7 * 7)) else 0
set_option maxHeartbeats 4000000 in
set_option maxRecDepth 100000 in
theorem c_N_init (l : Launch) (D : va_G) (dA : Nat → ClassId) (z : Nat) (M : zVw) (h : Nat) (hM : M h = some (.inr (3, [.null, .int 0]))) : zMet l y_N_init b_N_init 1 none 1 40 1 100 D dA z [.ref h] M (fun v M' => v = none ∧ ∃ t, M t = none ∧ M' = zu (zu M t (zIa dA 100 (fun _ => 0))) h (zNo t 0)) := by
  refine z_of 0 true (by decide) (fun h => by first | rfl | cases h) (Nat.le_of_ble_eq_true rfl) trivial ?_
  intro p e s m args below meth c C hR
  refine zgo (cut := fun _ => false) 60 C lk_N hR ?_
  simp only [zs_iconst, zs_bipush, zs_aload_n, zs_put, zs_return, zx_iv, zx_is, zx_it, zx_nw, zx_na, zx_an, zx_cc, zx_gs, zx_as, zx_ae, zx_ac, zx_at, zr_seg, zr_t, zr_f, zr_tp, zr_fp, zr_lg, zr_lr, zr_lr0, zr_wi, zr_wr, zr_wn, zr_wl, zr_vo, zr_so, zr_sI, zr_sL, zr_sA, zr_sN, zr_in, zr_rd, zr_wr2, zr_kf, zr_k0, zr_k1, zr_k2, zr_k3, zr_k3n, zr_k10, zr_k11, zr_k12, zr_k13, zr_k13n, zr_ai, zr_af, zr_aw, zr_aL, zr_Lf, zr_Lw, zr_l2, zr_l20, zr_al, zr_an, zr_aq, zr_ag, zr_rfs, zr_rfn, zr_r1, zr_r2, zr_w0, zr_w1, zr_tl, zr_40, zr_41, zr_42, zr_43, d_N_init_0, d_N_init_1, d_N_init_4, d_N_init_5, cb_100, d_N_init_7, d_N_init_9, fl_N_9, d_N_init_12, d_N_init_13, ci_0, d_N_init_14, fl_N_15, d_N_init_17, za_0, za_i, za_r, za_n, za_l, zu_s, zu_u, Nat.reduceAdd, Nat.reduceLT, Nat.reduceBEq, Nat.zero_add, Bool.false_or, Bool.or_false, Bool.true_or, Bool.or_true, Bool.false_and, Bool.and_false, Bool.true_and, Bool.and_true, true_and, and_true, true_or, or_true, eq_self, Nat.le_refl, List.getElem?_cons_succ, List.getElem?_cons_zero, List.set_cons_succ, List.set_cons_zero, zk_0, zk_1, zk_2, zk_3, zk_4, zq_1, zq_2, Option.isSome_some, Option.getD_some, Option.toList_some, Option.toList_none, List.cons_append, List.nil_append]
  refine zJ_obj C d_N_init_1 (by decide +kernel) oi_i oi_c (Nat.le_of_ble_eq_true rfl) (Nat.le_of_ble_eq_true rfl) ?_
  refine zgo (cut := fun _ => false) 60 C lk_N hR ?_
  simp only [zs_iconst, zs_bipush, zs_aload_n, zs_put, zs_return, zx_iv, zx_is, zx_it, zx_nw, zx_na, zx_an, zx_cc, zx_gs, zx_as, zx_ae, zx_ac, zx_at, zr_seg, zr_t, zr_f, zr_tp, zr_fp, zr_lg, zr_lr, zr_lr0, zr_wi, zr_wr, zr_wn, zr_wl, zr_vo, zr_so, zr_sI, zr_sL, zr_sA, zr_sN, zr_in, zr_rd, zr_wr2, zr_kf, zr_k0, zr_k1, zr_k2, zr_k3, zr_k3n, zr_k10, zr_k11, zr_k12, zr_k13, zr_k13n, zr_ai, zr_af, zr_aw, zr_aL, zr_Lf, zr_Lw, zr_l2, zr_l20, zr_al, zr_an, zr_aq, zr_ag, zr_rfs, zr_rfn, zr_r1, zr_r2, zr_w0, zr_w1, zr_tl, zr_40, zr_41, zr_42, zr_43, d_N_init_0, d_N_init_1, d_N_init_4, d_N_init_5, cb_100, d_N_init_7, d_N_init_9, fl_N_9, d_N_init_12, d_N_init_13, ci_0, d_N_init_14, fl_N_15, d_N_init_17, za_0, za_i, za_r, za_n, za_l, zu_s, zu_u, Nat.reduceAdd, Nat.reduceLT, Nat.reduceBEq, Nat.zero_add, Bool.false_or, Bool.or_false, Bool.true_or, Bool.or_true, Bool.false_and, Bool.and_false, Bool.true_and, Bool.and_true, true_and, and_true, true_or, or_true, eq_self, Nat.le_refl, List.getElem?_cons_succ, List.getElem?_cons_zero, List.set_cons_succ, List.set_cons_zero, zk_0, zk_1, zk_2, zk_3, zk_4, zq_1, zq_2, Option.isSome_some, Option.getD_some, Option.toList_some, Option.toList_none, List.cons_append, List.nil_append]
  refine zJ_newI (N := 100) C d_N_init_7 (by decide +kernel) rfl (by omega) ⟨(Nat.le_of_ble_eq_true rfl), (Nat.le_of_ble_eq_true rfl)⟩ (fun t ht hzt => ?_)
  have hne : h ≠ t := fun q => by rw [q, ht] at hM; cases hM
  refine zgo (cut := fun _ => false) 60 C lk_N hR ?_
  simp only [zs_iconst, zs_bipush, zs_aload_n, zs_put, zs_return, zx_iv, zx_is, zx_it, zx_nw, zx_na, zx_an, zx_cc, zx_gs, zx_as, zx_ae, zx_ac, zx_at, zr_seg, zr_t, zr_f, zr_tp, zr_fp, zr_lg, zr_lr, zr_lr0, zr_wi, zr_wr, zr_wn, zr_wl, zr_vo, zr_so, zr_sI, zr_sL, zr_sA, zr_sN, zr_in, zr_rd, zr_wr2, zr_kf, zr_k0, zr_k1, zr_k2, zr_k3, zr_k3n, zr_k10, zr_k11, zr_k12, zr_k13, zr_k13n, zr_ai, zr_af, zr_aw, zr_aL, zr_Lf, zr_Lw, zr_l2, zr_l20, zr_al, zr_an, zr_aq, zr_ag, zr_rfs, zr_rfn, zr_r1, zr_r2, zr_w0, zr_w1, zr_tl, zr_40, zr_41, zr_42, zr_43, d_N_init_0, d_N_init_1, d_N_init_4, d_N_init_5, cb_100, d_N_init_7, d_N_init_9, fl_N_9, d_N_init_12, d_N_init_13, ci_0, d_N_init_14, fl_N_15, d_N_init_17, za_0, za_i, za_r, za_n, za_l, zu_s, zu_u, Nat.reduceAdd, Nat.reduceLT, Nat.reduceBEq, Nat.zero_add, Bool.false_or, Bool.or_false, Bool.true_or, Bool.or_true, Bool.false_and, Bool.and_false, Bool.true_and, Bool.and_true, true_and, and_true, true_or, or_true, eq_self, Nat.le_refl, List.getElem?_cons_succ, List.getElem?_cons_zero, List.set_cons_succ, List.set_cons_zero, zk_0, zk_1, zk_2, zk_3, zk_4, zq_1, zq_2, Option.isSome_some, Option.getD_some, Option.toList_some, Option.toList_none, List.cons_append, List.nil_append, hM, zu_n hne]
  exact ⟨t, ht, rfl⟩
set_option maxHeartbeats 4000000 in
set_option maxRecDepth 100000 in
theorem c_I_init (l : Launch) (D : va_G) (dA : Nat → ClassId) (z : Nat) (M : zVw) (h : Nat) (n s0 r : Int32) (hM : M h = some (.inr (6, [.int 0, .int 0, .int 0, .null, .int 0]))) : zMet l y_I_init b_I_init 4 none 2 60 1 11 D dA z [.ref h, .int n, .int s0, .int r] M (fun v M' => v = none ∧ ∃ q, M q = none ∧ M' = zu (zu M q (fA f0)) h (iA n s0 r q (zdue n s0))) := by
  refine z_of 0 true (by decide) (fun h => by first | rfl | cases h) (Nat.le_of_ble_eq_true rfl) trivial ?_
  intro p e s m args below meth c C hR
  refine zgo (cut := fun _ => false) 60 C lk_I hR ?_
  simp only [zs_iconst, zs_bipush, zs_sipush, zs_iload_n, zs_aload_n, zs_iadd, zs_imul, zs_irem, zs_dup0, zs_dup1, zs_dup2, zs_icmp_ne, zs_goto, zs_put, zs_return, zx_iv, zx_is, zx_it, zx_nw, zx_na, zx_an, zx_cc, zx_gs, zx_as, zx_ae, zx_ac, zx_at, zr_seg, zr_t, zr_f, zr_tp, zr_fp, zr_lg, zr_lr, zr_lr0, zr_wi, zr_wr, zr_wn, zr_wl, zr_vo, zr_so, zr_sI, zr_sL, zr_sA, zr_sN, zr_in, zr_rd, zr_wr2, zr_kf, zr_k0, zr_k1, zr_k2, zr_k3, zr_k3n, zr_k10, zr_k11, zr_k12, zr_k13, zr_k13n, zr_ai, zr_af, zr_aw, zr_aL, zr_Lf, zr_Lw, zr_l2, zr_l20, zr_al, zr_an, zr_aq, zr_ag, zr_rfs, zr_rfn, zr_r1, zr_r2, zr_w0, zr_w1, zr_tl, zr_40, zr_41, zr_42, zr_43, d_I_init_0, d_I_init_1, d_I_init_4, d_I_init_5, d_I_init_8, d_I_init_9, d_I_init_12, fl_I_12, d_I_init_15, d_I_init_16, d_I_init_17, fl_I_18, d_I_init_20, d_I_init_21, d_I_init_22, fl_I_22, d_I_init_25, d_I_init_26, d_I_init_27, fl_I_25, d_I_init_30, d_I_init_31, d_I_init_32, ci_5, d_I_init_33, zt_33_16, zo_33_16, d_I_init_36, cs_250, d_I_init_39, ci_1, d_I_init_40, d_I_init_41, cb_7, d_I_init_43, d_I_init_44, d_I_init_45, d_I_init_46, zt_46_4, zo_46_4, d_I_init_49, ci_0, d_I_init_50, fl_I_28, d_I_init_53, za_0, za_i, za_r, za_n, za_l, zu_s, zu_u, Nat.reduceAdd, Nat.reduceLT, Nat.reduceBEq, Nat.zero_add, Bool.false_or, Bool.or_false, Bool.true_or, Bool.or_true, Bool.false_and, Bool.and_false, Bool.true_and, Bool.and_true, true_and, and_true, true_or, or_true, eq_self, Nat.le_refl, List.getElem?_cons_succ, List.getElem?_cons_zero, List.set_cons_succ, List.set_cons_zero, zk_0, zk_1, zk_2, zk_3, zk_4, zq_1, zq_2, Option.isSome_some, Option.getD_some, Option.toList_some, Option.toList_none, List.cons_append, List.nil_append]
  refine zJ_obj C d_I_init_1 (by decide +kernel) oi_i oi_c (Nat.le_of_ble_eq_true rfl) (Nat.le_of_ble_eq_true rfl) ?_
  refine zgo (cut := fun _ => false) 60 C lk_I hR ?_
  simp only [zs_iconst, zs_bipush, zs_sipush, zs_iload_n, zs_aload_n, zs_iadd, zs_imul, zs_irem, zs_dup0, zs_dup1, zs_dup2, zs_icmp_ne, zs_goto, zs_put, zs_return, zx_iv, zx_is, zx_it, zx_nw, zx_na, zx_an, zx_cc, zx_gs, zx_as, zx_ae, zx_ac, zx_at, zr_seg, zr_t, zr_f, zr_tp, zr_fp, zr_lg, zr_lr, zr_lr0, zr_wi, zr_wr, zr_wn, zr_wl, zr_vo, zr_so, zr_sI, zr_sL, zr_sA, zr_sN, zr_in, zr_rd, zr_wr2, zr_kf, zr_k0, zr_k1, zr_k2, zr_k3, zr_k3n, zr_k10, zr_k11, zr_k12, zr_k13, zr_k13n, zr_ai, zr_af, zr_aw, zr_aL, zr_Lf, zr_Lw, zr_l2, zr_l20, zr_al, zr_an, zr_aq, zr_ag, zr_rfs, zr_rfn, zr_r1, zr_r2, zr_w0, zr_w1, zr_tl, zr_40, zr_41, zr_42, zr_43, d_I_init_0, d_I_init_1, d_I_init_4, d_I_init_5, d_I_init_8, d_I_init_9, d_I_init_12, fl_I_12, d_I_init_15, d_I_init_16, d_I_init_17, fl_I_18, d_I_init_20, d_I_init_21, d_I_init_22, fl_I_22, d_I_init_25, d_I_init_26, d_I_init_27, fl_I_25, d_I_init_30, d_I_init_31, d_I_init_32, ci_5, d_I_init_33, zt_33_16, zo_33_16, d_I_init_36, cs_250, d_I_init_39, ci_1, d_I_init_40, d_I_init_41, cb_7, d_I_init_43, d_I_init_44, d_I_init_45, d_I_init_46, zt_46_4, zo_46_4, d_I_init_49, ci_0, d_I_init_50, fl_I_28, d_I_init_53, za_0, za_i, za_r, za_n, za_l, zu_s, zu_u, Nat.reduceAdd, Nat.reduceLT, Nat.reduceBEq, Nat.zero_add, Bool.false_or, Bool.or_false, Bool.true_or, Bool.or_true, Bool.false_and, Bool.and_false, Bool.true_and, Bool.and_true, true_and, and_true, true_or, or_true, eq_self, Nat.le_refl, List.getElem?_cons_succ, List.getElem?_cons_zero, List.set_cons_succ, List.set_cons_zero, zk_0, zk_1, zk_2, zk_3, zk_4, zq_1, zq_2, Option.isSome_some, Option.getD_some, Option.toList_some, Option.toList_none, List.cons_append, List.nil_append]
  refine zJ_new [.int 0, .int 0, .int 0, .int 0, .int 0, .int 0, .int 0, .int 0, .int 0, .int 0, .int 0] C q_F d_I_init_5 (by decide +kernel) (by decide) ⟨(Nat.le_of_ble_eq_true rfl), (Nat.le_of_ble_eq_true rfl)⟩ (fun q hq hzq => ?_)
  have hne : h ≠ q := fun e0 => by rw [e0, hq] at hM; cases hM
  refine zgo (cut := fun _ => false) 60 C lk_I hR ?_
  simp only [zs_iconst, zs_bipush, zs_sipush, zs_iload_n, zs_aload_n, zs_iadd, zs_imul, zs_irem, zs_dup0, zs_dup1, zs_dup2, zs_icmp_ne, zs_goto, zs_put, zs_return, zx_iv, zx_is, zx_it, zx_nw, zx_na, zx_an, zx_cc, zx_gs, zx_as, zx_ae, zx_ac, zx_at, zr_seg, zr_t, zr_f, zr_tp, zr_fp, zr_lg, zr_lr, zr_lr0, zr_wi, zr_wr, zr_wn, zr_wl, zr_vo, zr_so, zr_sI, zr_sL, zr_sA, zr_sN, zr_in, zr_rd, zr_wr2, zr_kf, zr_k0, zr_k1, zr_k2, zr_k3, zr_k3n, zr_k10, zr_k11, zr_k12, zr_k13, zr_k13n, zr_ai, zr_af, zr_aw, zr_aL, zr_Lf, zr_Lw, zr_l2, zr_l20, zr_al, zr_an, zr_aq, zr_ag, zr_rfs, zr_rfn, zr_r1, zr_r2, zr_w0, zr_w1, zr_tl, zr_40, zr_41, zr_42, zr_43, d_I_init_0, d_I_init_1, d_I_init_4, d_I_init_5, d_I_init_8, d_I_init_9, d_I_init_12, fl_I_12, d_I_init_15, d_I_init_16, d_I_init_17, fl_I_18, d_I_init_20, d_I_init_21, d_I_init_22, fl_I_22, d_I_init_25, d_I_init_26, d_I_init_27, fl_I_25, d_I_init_30, d_I_init_31, d_I_init_32, ci_5, d_I_init_33, zt_33_16, zo_33_16, d_I_init_36, cs_250, d_I_init_39, ci_1, d_I_init_40, d_I_init_41, cb_7, d_I_init_43, d_I_init_44, d_I_init_45, d_I_init_46, zt_46_4, zo_46_4, d_I_init_49, ci_0, d_I_init_50, fl_I_28, d_I_init_53, za_0, za_i, za_r, za_n, za_l, zu_s, zu_u, Nat.reduceAdd, Nat.reduceLT, Nat.reduceBEq, Nat.zero_add, Bool.false_or, Bool.or_false, Bool.true_or, Bool.or_true, Bool.false_and, Bool.and_false, Bool.true_and, Bool.and_true, true_and, and_true, true_or, or_true, eq_self, Nat.le_refl, List.getElem?_cons_succ, List.getElem?_cons_zero, List.set_cons_succ, List.set_cons_zero, zk_0, zk_1, zk_2, zk_3, zk_4, zq_1, zq_2, Option.isSome_some, Option.getD_some, Option.toList_some, Option.toList_none, List.cons_append, List.nil_append]
  refine zJ_callIN (As := []) (rest := [.ref q, .ref h]) C d_I_init_9 (c_F_init l D dA z (zu M q (fA (fun _ => 0))) q (fun _ => 0) (zu_s _ _ _)) k_I_11 n_F_init rfl ⟨(Nat.le_of_ble_eq_true rfl), (Nat.le_of_ble_eq_true rfl)⟩ ⟨(Nat.le_of_ble_eq_true rfl), (Nat.le_of_ble_eq_true rfl)⟩ rfl (Nat.le_of_ble_eq_true rfl) ?_
  rintro v M' ⟨rfl, rfl⟩
  refine zgo (cut := fun _ => false) 60 C lk_I hR ?_
  simp only [zs_iconst, zs_bipush, zs_sipush, zs_iload_n, zs_aload_n, zs_iadd, zs_imul, zs_irem, zs_dup0, zs_dup1, zs_dup2, zs_icmp_ne, zs_goto, zs_put, zs_return, zx_iv, zx_is, zx_it, zx_nw, zx_na, zx_an, zx_cc, zx_gs, zx_as, zx_ae, zx_ac, zx_at, zr_seg, zr_t, zr_f, zr_tp, zr_fp, zr_lg, zr_lr, zr_lr0, zr_wi, zr_wr, zr_wn, zr_wl, zr_vo, zr_so, zr_sI, zr_sL, zr_sA, zr_sN, zr_in, zr_rd, zr_wr2, zr_kf, zr_k0, zr_k1, zr_k2, zr_k3, zr_k3n, zr_k10, zr_k11, zr_k12, zr_k13, zr_k13n, zr_ai, zr_af, zr_aw, zr_aL, zr_Lf, zr_Lw, zr_l2, zr_l20, zr_al, zr_an, zr_aq, zr_ag, zr_rfs, zr_rfn, zr_r1, zr_r2, zr_w0, zr_w1, zr_tl, zr_40, zr_41, zr_42, zr_43, d_I_init_0, d_I_init_1, d_I_init_4, d_I_init_5, d_I_init_8, d_I_init_9, d_I_init_12, fl_I_12, d_I_init_15, d_I_init_16, d_I_init_17, fl_I_18, d_I_init_20, d_I_init_21, d_I_init_22, fl_I_22, d_I_init_25, d_I_init_26, d_I_init_27, fl_I_25, d_I_init_30, d_I_init_31, d_I_init_32, ci_5, d_I_init_33, zt_33_16, zo_33_16, d_I_init_36, cs_250, d_I_init_39, ci_1, d_I_init_40, d_I_init_41, cb_7, d_I_init_43, d_I_init_44, d_I_init_45, d_I_init_46, zt_46_4, zo_46_4, d_I_init_49, ci_0, d_I_init_50, fl_I_28, d_I_init_53, za_0, za_i, za_r, za_n, za_l, zu_s, zu_u, Nat.reduceAdd, Nat.reduceLT, Nat.reduceBEq, Nat.zero_add, Bool.false_or, Bool.or_false, Bool.true_or, Bool.or_true, Bool.false_and, Bool.and_false, Bool.true_and, Bool.and_true, true_and, and_true, true_or, or_true, eq_self, Nat.le_refl, List.getElem?_cons_succ, List.getElem?_cons_zero, List.set_cons_succ, List.set_cons_zero, zk_0, zk_1, zk_2, zk_3, zk_4, zq_1, zq_2, Option.isSome_some, Option.getD_some, Option.toList_some, Option.toList_none, List.cons_append, List.nil_append, hM, zu_n hne]
  refine ⟨fun hs => ⟨q, hq, ?_⟩, fun hs => ⟨by decide, q, hq, ?_⟩⟩
  · unfold zdue iA; rw [if_neg hs]
  · unfold zdue iA; rw [if_pos hs]
theorem zJ_100 {p : Program} {l : Launch} {e : Env} {R : Room} {s : State} {m : MethodId} {args : Array Value} {below : List Frame} {meth : Method} {c : Code} {Q : State → Prop} {own : String} {cc : ByteArray} {nL z : Nat} {D : va_G} {dA : Nat → ClassId} {ini : Bool} {pc k n h : Nat} {loc : List (Nat × Value)} {M : zVw} {st : List Value} {e0 : va_E} (C : zC p s m args meth c own cc nL z D dA ini) (hM : M h = some e0) (kk : h ≠ dA 100 → zJ p l e R s m args below meth c Q nL z D pc loc st M k n) : zJ p l e R s m args below meth c Q nL z D pc loc st M k n :=
  fun H locs ls hv hz hS hl => kk (fun q => va_T.out C.2.2.2.2.2.2.2.2.2.2.1 (by rw [← q]; exact hz h _ hM)) H locs ls hv hz hS hl
def zDv (of : Int32) (tm : Int64) (rw kn : Nat) : va_E := .inr (4, [.int of, .long tm, .ref rw, .ref kn])
set_option maxHeartbeats 4000000 in
set_option maxRecDepth 100000 in
theorem c_V_init (l : Launch) (D : va_G) (dA : Nat → ClassId) (z : Nat) (M : zVw) (h : Nat) (hM : M h = some (.inr (4, [.int 0, .long 0, .null, .null]))) : zMet l y_V_init b_V_init 1 none 4 100 2 6 D dA z [.ref h] M (fun v M' => v = none ∧ ∃ r k, M r = none ∧ M k = none ∧ r ≠ k ∧ M' h = some (zDv 0 0 r k) ∧ M' r = some (zLi (dA 100) 0 0) ∧ M' k = some (zLi (dA 100) 0 0) ∧ ∀ x, x ≠ h → x ≠ r → x ≠ k → M' x = M x) := by
  refine z_of 0 true (by decide) (fun h => by first | rfl | cases h) (Nat.le_of_ble_eq_true rfl) trivial ?_
  intro p e s m args below meth c C hR
  refine zgo (cut := fun _ => false) 60 C lk_V hR ?_
  simp only [zs_iconst, zs_lconst, zs_aload_n, zs_dup0, zs_dup1, zs_dup2, zs_put, zs_return, zx_iv, zx_is, zx_it, zx_nw, zx_na, zx_an, zx_cc, zx_gs, zx_as, zx_ae, zx_ac, zx_at, zr_seg, zr_t, zr_f, zr_tp, zr_fp, zr_lg, zr_lr, zr_lr0, zr_wi, zr_wr, zr_wn, zr_wl, zr_vo, zr_so, zr_sI, zr_sL, zr_sA, zr_sN, zr_in, zr_rd, zr_wr2, zr_kf, zr_k0, zr_k1, zr_k2, zr_k3, zr_k3n, zr_k10, zr_k11, zr_k12, zr_k13, zr_k13n, zr_ai, zr_af, zr_aw, zr_aL, zr_Lf, zr_Lw, zr_l2, zr_l20, zr_al, zr_an, zr_aq, zr_ag, zr_rfs, zr_rfn, zr_r1, zr_r2, zr_w0, zr_w1, zr_tl, zr_40, zr_41, zr_42, zr_43, d_V_init_0, d_V_init_1, d_V_init_4, d_V_init_5, ci_0, d_V_init_6, fl_V_7, d_V_init_9, d_V_init_10, cl_0, d_V_init_11, fl_V_13, d_V_init_14, d_V_init_15, d_V_init_18, d_V_init_19, d_V_init_22, fl_V_20, d_V_init_25, d_V_init_26, d_V_init_29, d_V_init_30, d_V_init_33, fl_V_24, d_V_init_36, za_0, za_i, za_r, za_n, za_l, zu_s, zu_u, Nat.reduceAdd, Nat.reduceLT, Nat.reduceBEq, Nat.zero_add, Bool.false_or, Bool.or_false, Bool.true_or, Bool.or_true, Bool.false_and, Bool.and_false, Bool.true_and, Bool.and_true, true_and, and_true, true_or, or_true, eq_self, Nat.le_refl, List.getElem?_cons_succ, List.getElem?_cons_zero, List.set_cons_succ, List.set_cons_zero, zk_0, zk_1, zk_2, zk_3, zk_4, zq_1, zq_2, Option.isSome_some, Option.getD_some, Option.toList_some, Option.toList_none, List.cons_append, List.nil_append]
  refine zJ_obj C d_V_init_1 (by decide +kernel) oi_i oi_c (Nat.le_of_ble_eq_true rfl) (Nat.le_of_ble_eq_true rfl) ?_
  refine zgo (cut := fun _ => false) 60 C lk_V hR ?_
  simp only [zs_iconst, zs_lconst, zs_aload_n, zs_dup0, zs_dup1, zs_dup2, zs_put, zs_return, zx_iv, zx_is, zx_it, zx_nw, zx_na, zx_an, zx_cc, zx_gs, zx_as, zx_ae, zx_ac, zx_at, zr_seg, zr_t, zr_f, zr_tp, zr_fp, zr_lg, zr_lr, zr_lr0, zr_wi, zr_wr, zr_wn, zr_wl, zr_vo, zr_so, zr_sI, zr_sL, zr_sA, zr_sN, zr_in, zr_rd, zr_wr2, zr_kf, zr_k0, zr_k1, zr_k2, zr_k3, zr_k3n, zr_k10, zr_k11, zr_k12, zr_k13, zr_k13n, zr_ai, zr_af, zr_aw, zr_aL, zr_Lf, zr_Lw, zr_l2, zr_l20, zr_al, zr_an, zr_aq, zr_ag, zr_rfs, zr_rfn, zr_r1, zr_r2, zr_w0, zr_w1, zr_tl, zr_40, zr_41, zr_42, zr_43, d_V_init_0, d_V_init_1, d_V_init_4, d_V_init_5, ci_0, d_V_init_6, fl_V_7, d_V_init_9, d_V_init_10, cl_0, d_V_init_11, fl_V_13, d_V_init_14, d_V_init_15, d_V_init_18, d_V_init_19, d_V_init_22, fl_V_20, d_V_init_25, d_V_init_26, d_V_init_29, d_V_init_30, d_V_init_33, fl_V_24, d_V_init_36, za_0, za_i, za_r, za_n, za_l, zu_s, zu_u, Nat.reduceAdd, Nat.reduceLT, Nat.reduceBEq, Nat.zero_add, Bool.false_or, Bool.or_false, Bool.true_or, Bool.or_true, Bool.false_and, Bool.and_false, Bool.true_and, Bool.and_true, true_and, and_true, true_or, or_true, eq_self, Nat.le_refl, List.getElem?_cons_succ, List.getElem?_cons_zero, List.set_cons_succ, List.set_cons_zero, zk_0, zk_1, zk_2, zk_3, zk_4, zq_1, zq_2, Option.isSome_some, Option.getD_some, Option.toList_some, Option.toList_none, List.cons_append, List.nil_append, hM]
  refine zJ_new [.null, .int 0, .int 0] C q_L d_V_init_15 (by decide +kernel) (by decide) ⟨(Nat.le_of_ble_eq_true rfl), (Nat.le_of_ble_eq_true rfl)⟩ (fun r hr hzr => ?_)
  have hrh : r ≠ h := fun q => by rw [q, zu_s] at hr; cases hr
  have hr0 : M r = none := by rw [zu_n hrh] at hr; exact hr
  have hhr : h ≠ r := fun q => hrh q.symm
  refine zgo (cut := fun _ => false) 60 C lk_V hR ?_
  simp only [zs_iconst, zs_lconst, zs_aload_n, zs_dup0, zs_dup1, zs_dup2, zs_put, zs_return, zx_iv, zx_is, zx_it, zx_nw, zx_na, zx_an, zx_cc, zx_gs, zx_as, zx_ae, zx_ac, zx_at, zr_seg, zr_t, zr_f, zr_tp, zr_fp, zr_lg, zr_lr, zr_lr0, zr_wi, zr_wr, zr_wn, zr_wl, zr_vo, zr_so, zr_sI, zr_sL, zr_sA, zr_sN, zr_in, zr_rd, zr_wr2, zr_kf, zr_k0, zr_k1, zr_k2, zr_k3, zr_k3n, zr_k10, zr_k11, zr_k12, zr_k13, zr_k13n, zr_ai, zr_af, zr_aw, zr_aL, zr_Lf, zr_Lw, zr_l2, zr_l20, zr_al, zr_an, zr_aq, zr_ag, zr_rfs, zr_rfn, zr_r1, zr_r2, zr_w0, zr_w1, zr_tl, zr_40, zr_41, zr_42, zr_43, d_V_init_0, d_V_init_1, d_V_init_4, d_V_init_5, ci_0, d_V_init_6, fl_V_7, d_V_init_9, d_V_init_10, cl_0, d_V_init_11, fl_V_13, d_V_init_14, d_V_init_15, d_V_init_18, d_V_init_19, d_V_init_22, fl_V_20, d_V_init_25, d_V_init_26, d_V_init_29, d_V_init_30, d_V_init_33, fl_V_24, d_V_init_36, za_0, za_i, za_r, za_n, za_l, zu_s, zu_u, Nat.reduceAdd, Nat.reduceLT, Nat.reduceBEq, Nat.zero_add, Bool.false_or, Bool.or_false, Bool.true_or, Bool.or_true, Bool.false_and, Bool.and_false, Bool.true_and, Bool.and_true, true_and, and_true, true_or, or_true, eq_self, Nat.le_refl, List.getElem?_cons_succ, List.getElem?_cons_zero, List.set_cons_succ, List.set_cons_zero, zk_0, zk_1, zk_2, zk_3, zk_4, zq_1, zq_2, Option.isSome_some, Option.getD_some, Option.toList_some, Option.toList_none, List.cons_append, List.nil_append]
  refine zJ_callI (As := []) (rest := [.ref r, .ref h]) C d_V_init_19 (c_L_init l D dA z _ r _ _ _ (zu_s _ _ _)) k_V_19 n_L_init rfl ⟨(Nat.le_of_ble_eq_true rfl), (Nat.le_of_ble_eq_true rfl)⟩ ⟨(Nat.le_of_ble_eq_true rfl), (Nat.le_of_ble_eq_true rfl)⟩ rfl (Nat.le_of_ble_eq_true rfl) ?_
  rintro v M' ⟨rfl, rfl⟩
  refine zgo (cut := fun _ => false) 60 C lk_V hR ?_
  simp only [zs_iconst, zs_lconst, zs_aload_n, zs_dup0, zs_dup1, zs_dup2, zs_put, zs_return, zx_iv, zx_is, zx_it, zx_nw, zx_na, zx_an, zx_cc, zx_gs, zx_as, zx_ae, zx_ac, zx_at, zr_seg, zr_t, zr_f, zr_tp, zr_fp, zr_lg, zr_lr, zr_lr0, zr_wi, zr_wr, zr_wn, zr_wl, zr_vo, zr_so, zr_sI, zr_sL, zr_sA, zr_sN, zr_in, zr_rd, zr_wr2, zr_kf, zr_k0, zr_k1, zr_k2, zr_k3, zr_k3n, zr_k10, zr_k11, zr_k12, zr_k13, zr_k13n, zr_ai, zr_af, zr_aw, zr_aL, zr_Lf, zr_Lw, zr_l2, zr_l20, zr_al, zr_an, zr_aq, zr_ag, zr_rfs, zr_rfn, zr_r1, zr_r2, zr_w0, zr_w1, zr_tl, zr_40, zr_41, zr_42, zr_43, d_V_init_0, d_V_init_1, d_V_init_4, d_V_init_5, ci_0, d_V_init_6, fl_V_7, d_V_init_9, d_V_init_10, cl_0, d_V_init_11, fl_V_13, d_V_init_14, d_V_init_15, d_V_init_18, d_V_init_19, d_V_init_22, fl_V_20, d_V_init_25, d_V_init_26, d_V_init_29, d_V_init_30, d_V_init_33, fl_V_24, d_V_init_36, za_0, za_i, za_r, za_n, za_l, zu_s, zu_u, Nat.reduceAdd, Nat.reduceLT, Nat.reduceBEq, Nat.zero_add, Bool.false_or, Bool.or_false, Bool.true_or, Bool.or_true, Bool.false_and, Bool.and_false, Bool.true_and, Bool.and_true, true_and, and_true, true_or, or_true, eq_self, Nat.le_refl, List.getElem?_cons_succ, List.getElem?_cons_zero, List.set_cons_succ, List.set_cons_zero, zk_0, zk_1, zk_2, zk_3, zk_4, zq_1, zq_2, Option.isSome_some, Option.getD_some, Option.toList_some, Option.toList_none, List.cons_append, List.nil_append, hM, zu_n hhr, zu_c hrh]
  refine zJ_new [.null, .int 0, .int 0] C q_L d_V_init_26 (by decide +kernel) (by decide) ⟨(Nat.le_of_ble_eq_true rfl), (Nat.le_of_ble_eq_true rfl)⟩ (fun k hk hzk => ?_)
  have hkh : k ≠ h := fun q => by rw [q, zu_s] at hk; cases hk
  have hkr : k ≠ r := fun q => by rw [q, zu_n hrh, zu_s] at hk; cases hk
  have hk0 : M k = none := by rw [zu_n hkh, zu_n hkr] at hk; exact hk
  have hhk : h ≠ k := fun q => hkh q.symm
  refine zgo (cut := fun _ => false) 60 C lk_V hR ?_
  simp only [zs_iconst, zs_lconst, zs_aload_n, zs_dup0, zs_dup1, zs_dup2, zs_put, zs_return, zx_iv, zx_is, zx_it, zx_nw, zx_na, zx_an, zx_cc, zx_gs, zx_as, zx_ae, zx_ac, zx_at, zr_seg, zr_t, zr_f, zr_tp, zr_fp, zr_lg, zr_lr, zr_lr0, zr_wi, zr_wr, zr_wn, zr_wl, zr_vo, zr_so, zr_sI, zr_sL, zr_sA, zr_sN, zr_in, zr_rd, zr_wr2, zr_kf, zr_k0, zr_k1, zr_k2, zr_k3, zr_k3n, zr_k10, zr_k11, zr_k12, zr_k13, zr_k13n, zr_ai, zr_af, zr_aw, zr_aL, zr_Lf, zr_Lw, zr_l2, zr_l20, zr_al, zr_an, zr_aq, zr_ag, zr_rfs, zr_rfn, zr_r1, zr_r2, zr_w0, zr_w1, zr_tl, zr_40, zr_41, zr_42, zr_43, d_V_init_0, d_V_init_1, d_V_init_4, d_V_init_5, ci_0, d_V_init_6, fl_V_7, d_V_init_9, d_V_init_10, cl_0, d_V_init_11, fl_V_13, d_V_init_14, d_V_init_15, d_V_init_18, d_V_init_19, d_V_init_22, fl_V_20, d_V_init_25, d_V_init_26, d_V_init_29, d_V_init_30, d_V_init_33, fl_V_24, d_V_init_36, za_0, za_i, za_r, za_n, za_l, zu_s, zu_u, Nat.reduceAdd, Nat.reduceLT, Nat.reduceBEq, Nat.zero_add, Bool.false_or, Bool.or_false, Bool.true_or, Bool.or_true, Bool.false_and, Bool.and_false, Bool.true_and, Bool.and_true, true_and, and_true, true_or, or_true, eq_self, Nat.le_refl, List.getElem?_cons_succ, List.getElem?_cons_zero, List.set_cons_succ, List.set_cons_zero, zk_0, zk_1, zk_2, zk_3, zk_4, zq_1, zq_2, Option.isSome_some, Option.getD_some, Option.toList_some, Option.toList_none, List.cons_append, List.nil_append]
  refine zJ_callI (As := []) (rest := [.ref k, .ref h]) C d_V_init_30 (c_L_init l D dA z _ k _ _ _ (zu_s _ _ _)) k_V_19 n_L_init rfl ⟨(Nat.le_of_ble_eq_true rfl), (Nat.le_of_ble_eq_true rfl)⟩ ⟨(Nat.le_of_ble_eq_true rfl), (Nat.le_of_ble_eq_true rfl)⟩ rfl (Nat.le_of_ble_eq_true rfl) ?_
  rintro v M' ⟨rfl, rfl⟩
  refine zgo (cut := fun _ => false) 60 C lk_V hR ?_
  simp only [zs_iconst, zs_lconst, zs_aload_n, zs_dup0, zs_dup1, zs_dup2, zs_put, zs_return, zx_iv, zx_is, zx_it, zx_nw, zx_na, zx_an, zx_cc, zx_gs, zx_as, zx_ae, zx_ac, zx_at, zr_seg, zr_t, zr_f, zr_tp, zr_fp, zr_lg, zr_lr, zr_lr0, zr_wi, zr_wr, zr_wn, zr_wl, zr_vo, zr_so, zr_sI, zr_sL, zr_sA, zr_sN, zr_in, zr_rd, zr_wr2, zr_kf, zr_k0, zr_k1, zr_k2, zr_k3, zr_k3n, zr_k10, zr_k11, zr_k12, zr_k13, zr_k13n, zr_ai, zr_af, zr_aw, zr_aL, zr_Lf, zr_Lw, zr_l2, zr_l20, zr_al, zr_an, zr_aq, zr_ag, zr_rfs, zr_rfn, zr_r1, zr_r2, zr_w0, zr_w1, zr_tl, zr_40, zr_41, zr_42, zr_43, d_V_init_0, d_V_init_1, d_V_init_4, d_V_init_5, ci_0, d_V_init_6, fl_V_7, d_V_init_9, d_V_init_10, cl_0, d_V_init_11, fl_V_13, d_V_init_14, d_V_init_15, d_V_init_18, d_V_init_19, d_V_init_22, fl_V_20, d_V_init_25, d_V_init_26, d_V_init_29, d_V_init_30, d_V_init_33, fl_V_24, d_V_init_36, za_0, za_i, za_r, za_n, za_l, zu_s, zu_u, Nat.reduceAdd, Nat.reduceLT, Nat.reduceBEq, Nat.zero_add, Bool.false_or, Bool.or_false, Bool.true_or, Bool.or_true, Bool.false_and, Bool.and_false, Bool.true_and, Bool.and_true, true_and, and_true, true_or, or_true, eq_self, Nat.le_refl, List.getElem?_cons_succ, List.getElem?_cons_zero, List.set_cons_succ, List.set_cons_zero, zk_0, zk_1, zk_2, zk_3, zk_4, zq_1, zq_2, Option.isSome_some, Option.getD_some, Option.toList_some, Option.toList_none, List.cons_append, List.nil_append, zu_n hhk, zu_c hkh]
  refine ⟨r, k, hr0, hk0, fun q => hkr q.symm, rfl, ?_, ?_, fun x h1 h2 h3 => ?_⟩
  · rw [zu_n hrh, zu_n (fun q => hkr q.symm), zu_s]; rfl
  · rw [zu_n hkh, zu_s]; rfl
  · rw [zu_n h1, zu_n h3, zu_n h2]
set_option maxHeartbeats 4000000 in
set_option maxRecDepth 100000 in
theorem c_V_goOnLine (l : Launch) (D : va_G) (dA : Nat → ClassId) (z : Nat) (M : zVw) (h rw kn ed n cap : Nat) (of mo : Int32) (tm : Int64) (g : Nat → Option Nat) (hM : M h = some (zDv of tm rw kn)) (hL : zLs M dA rw ed n cap g mo) (h4 : cap ≤ 20000) : zMet l y_V_goOnLine b_V_goOnLine 1 none 1 23 0 0 D dA z [.ref h] M (fun v M' => v = none ∧ M' h = some (zDv 0 tm rw kn) ∧ ∃ g', zLs M' dA rw ed 0 cap g' (mo + 1) ∧ ∀ x, x ≠ h → x ≠ rw → x ≠ ed → M' x = M x) := by
  have hM2 := hM
  unfold zDv at hM2
  have hrh : rw ≠ h := fun q => by have a1 := hL.1; rw [q, hM] at a1; cases a1
  refine z_of 0 false (by decide) (fun h => by first | rfl | cases h) (Nat.le_of_ble_eq_true rfl) trivial ?_
  intro p e s m args below meth c C hR
  refine zgo (cut := fun _ => false) 60 C lk_V hR ?_
  simp only [zs_iconst, zs_aload_n, zs_get, zs_put, zs_return, zx_iv, zx_is, zx_it, zx_nw, zx_na, zx_an, zx_cc, zx_gs, zx_as, zx_ae, zx_ac, zx_at, zr_seg, zr_t, zr_f, zr_tp, zr_fp, zr_lg, zr_lr, zr_lr0, zr_wi, zr_wr, zr_wn, zr_wl, zr_vo, zr_so, zr_sI, zr_sL, zr_sA, zr_sN, zr_in, zr_rd, zr_wr2, zr_kf, zr_k0, zr_k1, zr_k2, zr_k3, zr_k3n, zr_k10, zr_k11, zr_k12, zr_k13, zr_k13n, zr_ai, zr_af, zr_aw, zr_aL, zr_Lf, zr_Lw, zr_l2, zr_l20, zr_al, zr_an, zr_aq, zr_ag, zr_rfs, zr_rfn, zr_r1, zr_r2, zr_w0, zr_w1, zr_tl, zr_40, zr_41, zr_42, zr_43, d_V_goOnLine_0, d_V_goOnLine_1, ci_0, d_V_goOnLine_2, fl_V_7, d_V_goOnLine_5, d_V_goOnLine_6, fl_V_20, d_V_goOnLine_9, d_V_goOnLine_12, za_0, za_i, za_r, za_n, za_l, zu_s, zu_u, Nat.reduceAdd, Nat.reduceLT, Nat.reduceBEq, Nat.zero_add, Bool.false_or, Bool.or_false, Bool.true_or, Bool.or_true, Bool.false_and, Bool.and_false, Bool.true_and, Bool.and_true, true_and, and_true, true_or, or_true, eq_self, Nat.le_refl, List.getElem?_cons_succ, List.getElem?_cons_zero, List.set_cons_succ, List.set_cons_zero, zk_0, zk_1, zk_2, zk_3, zk_4, zq_1, zq_2, Option.isSome_some, Option.getD_some, Option.toList_some, Option.toList_none, List.cons_append, List.nil_append, hM2]
  refine zJ_100 C (h := h) (zu_s _ _ _) (fun h100 => ?_)
  have hdh : ed ≠ h := by
    rcases hL.2 with ⟨g1, _⟩ | ⟨g1, _⟩
    · rw [g1]; exact fun q => h100 q.symm
    · exact fun q => by rw [q, hM] at g1; cases g1
  have hL1 : zLs (zu M h (zDv 0 tm rw kn)) dA rw ed n cap g mo := by
    refine ⟨by rw [zu_n hrh]; exact hL.1, ?_⟩
    rcases hL.2 with g1 | ⟨g1, g2⟩
    · exact Or.inl g1
    · exact Or.inr ⟨by rw [zu_n hdh]; exact g1, g2⟩
  refine zJ_callV (As := []) (rest := []) C d_V_goOnLine_9 (c_L_clear l D dA z (zu M h (zDv 0 tm rw kn)) rw ed n cap g mo hL1 h4) k_V_56 n_L_clear v_L_clear hL1.1 rfl rfl ⟨(Nat.le_of_ble_eq_true rfl), (Nat.le_of_ble_eq_true rfl)⟩ ⟨(Nat.le_of_ble_eq_true rfl), (Nat.le_of_ble_eq_true rfl)⟩ rfl (Nat.le_of_ble_eq_true rfl) ?_
  rintro v M' ⟨rfl, g', q1, q2⟩
  refine zgo (cut := fun _ => false) 60 C lk_V hR ?_
  simp only [zs_iconst, zs_aload_n, zs_get, zs_put, zs_return, zx_iv, zx_is, zx_it, zx_nw, zx_na, zx_an, zx_cc, zx_gs, zx_as, zx_ae, zx_ac, zx_at, zr_seg, zr_t, zr_f, zr_tp, zr_fp, zr_lg, zr_lr, zr_lr0, zr_wi, zr_wr, zr_wn, zr_wl, zr_vo, zr_so, zr_sI, zr_sL, zr_sA, zr_sN, zr_in, zr_rd, zr_wr2, zr_kf, zr_k0, zr_k1, zr_k2, zr_k3, zr_k3n, zr_k10, zr_k11, zr_k12, zr_k13, zr_k13n, zr_ai, zr_af, zr_aw, zr_aL, zr_Lf, zr_Lw, zr_l2, zr_l20, zr_al, zr_an, zr_aq, zr_ag, zr_rfs, zr_rfn, zr_r1, zr_r2, zr_w0, zr_w1, zr_tl, zr_40, zr_41, zr_42, zr_43, d_V_goOnLine_0, d_V_goOnLine_1, ci_0, d_V_goOnLine_2, fl_V_7, d_V_goOnLine_5, d_V_goOnLine_6, fl_V_20, d_V_goOnLine_9, d_V_goOnLine_12, za_0, za_i, za_r, za_n, za_l, zu_s, zu_u, Nat.reduceAdd, Nat.reduceLT, Nat.reduceBEq, Nat.zero_add, Bool.false_or, Bool.or_false, Bool.true_or, Bool.or_true, Bool.false_and, Bool.and_false, Bool.true_and, Bool.and_true, true_and, and_true, true_or, or_true, eq_self, Nat.le_refl, List.getElem?_cons_succ, List.getElem?_cons_zero, List.set_cons_succ, List.set_cons_zero, zk_0, zk_1, zk_2, zk_3, zk_4, zq_1, zq_2, Option.isSome_some, Option.getD_some, Option.toList_some, Option.toList_none, List.cons_append, List.nil_append]
  refine ⟨?_, g', q1, fun x h1 h2 h3 => ?_⟩
  · rw [q2 h (fun q => hrh q.symm) (fun q => hdh q.symm), zu_s]
  · rw [q2 x h2 h3, zu_n h1]
set_option maxHeartbeats 4000000 in
set_option maxRecDepth 100000 in
theorem c_V_factsOf (l : Launch) (D : va_G) (dA : Nat → ClassId) (z : Nat) (M : zVw) (h rw kn ed n cap it fc : Nat) (of mo nu sv rc du : Int32) (tm : Int64) (g : Nat → Option Nat) (j : Nat) (ka : Nat → Nat) (KF : Nat → Nat → Int32) (hM : M h = some (zDv of tm rw kn)) (hL : zLs M dA kn ed n cap g mo) (h4 : cap ≤ 20000) (hI : M it = some (iA (nI (j + 1)) sv rc fc du)) (hj : j < 1000) (hg : ∀ i, i < n → g i = some (ka i)) (hK : ∀ i, i < n → M (ka i) = some (fA (KF i))) : zMet l y_V_factsOf b_V_factsOf 3 (some (.object "DoorActs$Facts")) 4 104 0 0 D dA z [.ref h, .ref it] M (fun v M' => M' = M ∧ ((j < n ∧ v = some (.ref (ka j))) ∨ (n ≤ j ∧ v = some .null))) := by
  have hM2 := hM
  have hI2 := hI
  unfold zDv at hM2
  unfold iA at hI2
  have hnc : n ≤ cap := by
    rcases hL.2 with ⟨_, q1, q2⟩ | ⟨_, q1, _⟩
    · omega
    · exact q1
  have e1 : nI (j + 1) - 1 = nI j := nI_pred j
  refine z_of 3 false (by decide) (fun h => by first | rfl | cases h) (Nat.le_of_ble_eq_true rfl) trivial ?_
  intro p e s m args below meth c C hR
  refine zgo (cut := fun _ => false) 60 C lk_V hR ?_
  simp only [zs_null, zs_iconst, zs_iload_n, zs_aload_n, zs_istore_n, zs_isub, zs_if_lt, zs_icmp_ge, zs_goto, zs_get, zs_areturn0, zs_areturn1, zx_iv, zx_is, zx_it, zx_nw, zx_na, zx_an, zx_cc, zx_gs, zx_as, zx_ae, zx_ac, zx_at, zr_seg, zr_t, zr_f, zr_tp, zr_fp, zr_lg, zr_lr, zr_lr0, zr_wi, zr_wr, zr_wn, zr_wl, zr_vo, zr_so, zr_sI, zr_sL, zr_sA, zr_sN, zr_in, zr_rd, zr_wr2, zr_kf, zr_k0, zr_k1, zr_k2, zr_k3, zr_k3n, zr_k10, zr_k11, zr_k12, zr_k13, zr_k13n, zr_ai, zr_af, zr_aw, zr_aL, zr_Lf, zr_Lw, zr_l2, zr_l20, zr_al, zr_an, zr_aq, zr_ag, zr_rfs, zr_rfn, zr_r1, zr_r2, zr_w0, zr_w1, zr_tl, zr_40, zr_41, zr_42, zr_43, d_V_factsOf_0, d_V_factsOf_1, fl_V_27, d_V_factsOf_4, ci_1, d_V_factsOf_5, d_V_factsOf_6, d_V_factsOf_7, d_V_factsOf_8, zt_8_28, zo_8_28, d_V_factsOf_11, d_V_factsOf_12, d_V_factsOf_13, fl_V_24, d_V_factsOf_16, d_V_factsOf_19, zt_19_17, zo_19_17, d_V_factsOf_22, d_V_factsOf_23, d_V_factsOf_26, d_V_factsOf_27, d_V_factsOf_30, d_V_factsOf_33, zt_33_4, zo_33_4, d_V_factsOf_36, d_V_factsOf_37, za_0, za_i, za_r, za_n, za_l, zu_s, zu_u, Nat.reduceAdd, Nat.reduceLT, Nat.reduceBEq, Nat.zero_add, Bool.false_or, Bool.or_false, Bool.true_or, Bool.or_true, Bool.false_and, Bool.and_false, Bool.true_and, Bool.and_true, true_and, and_true, true_or, or_true, eq_self, Nat.le_refl, List.getElem?_cons_succ, List.getElem?_cons_zero, List.set_cons_succ, List.set_cons_zero, zk_0, zk_1, zk_2, zk_3, zk_4, zq_1, zq_2, Option.isSome_some, Option.getD_some, Option.toList_some, Option.toList_none, List.cons_append, List.nil_append, hM2, hI2, e1]
  refine ⟨fun q => absurd q (nI_pos (by omega)), fun _ => ?_⟩
  refine zJ_callV (As := []) (rest := [.int (nI j)]) C d_V_factsOf_16 (c_L_size l D dA z M kn ed n mo hL.1) k_V_33 n_L_size v_L_size hL.1 rfl rfl ⟨(Nat.le_of_ble_eq_true rfl), (Nat.le_of_ble_eq_true rfl)⟩ ⟨(Nat.le_of_ble_eq_true rfl), (Nat.le_of_ble_eq_true rfl)⟩ rfl (Nat.le_of_ble_eq_true rfl) ?_
  rintro v M' ⟨rfl, rfl⟩
  refine zgo (cut := fun _ => false) 60 C lk_V hR ?_
  simp only [zs_null, zs_iconst, zs_iload_n, zs_aload_n, zs_istore_n, zs_isub, zs_if_lt, zs_icmp_ge, zs_goto, zs_get, zs_areturn0, zs_areturn1, zx_iv, zx_is, zx_it, zx_nw, zx_na, zx_an, zx_cc, zx_gs, zx_as, zx_ae, zx_ac, zx_at, zr_seg, zr_t, zr_f, zr_tp, zr_fp, zr_lg, zr_lr, zr_lr0, zr_wi, zr_wr, zr_wn, zr_wl, zr_vo, zr_so, zr_sI, zr_sL, zr_sA, zr_sN, zr_in, zr_rd, zr_wr2, zr_kf, zr_k0, zr_k1, zr_k2, zr_k3, zr_k3n, zr_k10, zr_k11, zr_k12, zr_k13, zr_k13n, zr_ai, zr_af, zr_aw, zr_aL, zr_Lf, zr_Lw, zr_l2, zr_l20, zr_al, zr_an, zr_aq, zr_ag, zr_rfs, zr_rfn, zr_r1, zr_r2, zr_w0, zr_w1, zr_tl, zr_40, zr_41, zr_42, zr_43, d_V_factsOf_0, d_V_factsOf_1, fl_V_27, d_V_factsOf_4, ci_1, d_V_factsOf_5, d_V_factsOf_6, d_V_factsOf_7, d_V_factsOf_8, zt_8_28, zo_8_28, d_V_factsOf_11, d_V_factsOf_12, d_V_factsOf_13, fl_V_24, d_V_factsOf_16, d_V_factsOf_19, zt_19_17, zo_19_17, d_V_factsOf_22, d_V_factsOf_23, d_V_factsOf_26, d_V_factsOf_27, d_V_factsOf_30, d_V_factsOf_33, zt_33_4, zo_33_4, d_V_factsOf_36, d_V_factsOf_37, za_0, za_i, za_r, za_n, za_l, zu_s, zu_u, Nat.reduceAdd, Nat.reduceLT, Nat.reduceBEq, Nat.zero_add, Bool.false_or, Bool.or_false, Bool.true_or, Bool.or_true, Bool.false_and, Bool.and_false, Bool.true_and, Bool.and_true, true_and, and_true, true_or, or_true, eq_self, Nat.le_refl, List.getElem?_cons_succ, List.getElem?_cons_zero, List.set_cons_succ, List.set_cons_zero, zk_0, zk_1, zk_2, zk_3, zk_4, zq_1, zq_2, Option.isSome_some, Option.getD_some, Option.toList_some, Option.toList_none, List.cons_append, List.nil_append, hM2]
  refine ⟨fun q => Or.inr ?_, fun q => ?_⟩
  · rcases Nat.lt_or_ge j n with w | w
    · exact absurd q (nI_ge w (by omega))
    · exact w
  · have hlt : j < n := by
      rcases Nat.lt_or_ge j n with w | w
      · exact w
      · exact absurd (nI_le w (by omega)) q
    rcases hL.2 with ⟨_, w, _⟩ | ⟨hE, _, _⟩
    · omega
    refine zJ_callV (As := [.int (nI j)]) (rest := []) C d_V_factsOf_27 (c_L_get l D dA z M' kn ed n cap j (ka j) mo g hL.1 hE hlt hnc (by omega) (hg j hlt)) k_V_37 n_L_get v_L_get hL.1 rfl rfl ⟨(Nat.le_of_ble_eq_true rfl), (Nat.le_of_ble_eq_true rfl)⟩ ⟨(Nat.le_of_ble_eq_true rfl), (Nat.le_of_ble_eq_true rfl)⟩ rfl (Nat.le_of_ble_eq_true rfl) ?_
    rintro v M'' ⟨rfl, rfl⟩
    refine zJ_cast (ci := 5) (rest := []) C d_V_factsOf_30 (by decide +kernel) rfl rfl (hK j hlt) ?_
    refine zgo (cut := fun _ => false) 60 C lk_V hR ?_
    simp only [zs_null, zs_iconst, zs_iload_n, zs_aload_n, zs_istore_n, zs_isub, zs_if_lt, zs_icmp_ge, zs_goto, zs_get, zs_areturn0, zs_areturn1, zx_iv, zx_is, zx_it, zx_nw, zx_na, zx_an, zx_cc, zx_gs, zx_as, zx_ae, zx_ac, zx_at, zr_seg, zr_t, zr_f, zr_tp, zr_fp, zr_lg, zr_lr, zr_lr0, zr_wi, zr_wr, zr_wn, zr_wl, zr_vo, zr_so, zr_sI, zr_sL, zr_sA, zr_sN, zr_in, zr_rd, zr_wr2, zr_kf, zr_k0, zr_k1, zr_k2, zr_k3, zr_k3n, zr_k10, zr_k11, zr_k12, zr_k13, zr_k13n, zr_ai, zr_af, zr_aw, zr_aL, zr_Lf, zr_Lw, zr_l2, zr_l20, zr_al, zr_an, zr_aq, zr_ag, zr_rfs, zr_rfn, zr_r1, zr_r2, zr_w0, zr_w1, zr_tl, zr_40, zr_41, zr_42, zr_43, d_V_factsOf_0, d_V_factsOf_1, fl_V_27, d_V_factsOf_4, ci_1, d_V_factsOf_5, d_V_factsOf_6, d_V_factsOf_7, d_V_factsOf_8, zt_8_28, zo_8_28, d_V_factsOf_11, d_V_factsOf_12, d_V_factsOf_13, fl_V_24, d_V_factsOf_16, d_V_factsOf_19, zt_19_17, zo_19_17, d_V_factsOf_22, d_V_factsOf_23, d_V_factsOf_26, d_V_factsOf_27, d_V_factsOf_30, d_V_factsOf_33, zt_33_4, zo_33_4, d_V_factsOf_36, d_V_factsOf_37, za_0, za_i, za_r, za_n, za_l, zu_s, zu_u, Nat.reduceAdd, Nat.reduceLT, Nat.reduceBEq, Nat.zero_add, Bool.false_or, Bool.or_false, Bool.true_or, Bool.or_true, Bool.false_and, Bool.and_false, Bool.true_and, Bool.and_true, true_and, and_true, true_or, or_true, eq_self, Nat.le_refl, List.getElem?_cons_succ, List.getElem?_cons_zero, List.set_cons_succ, List.set_cons_zero, zk_0, zk_1, zk_2, zk_3, zk_4, zq_1, zq_2, Option.isSome_some, Option.getD_some, Option.toList_some, Option.toList_none, List.cons_append, List.nil_append]
    exact Or.inl hlt
end
section
/-! HELPERS of the class: who may have an item. -/
theorem zn_10 : ((1 : Int32) = 0) = False := eq_false (by decide)
noncomputable def zci (p : Prop) (a b : Int32) : Int32 := @ite Int32 p (Classical.propDecidable p) a b
theorem zci_t {p : Prop} {a b : Int32} (h : p) : zci p a b = a := by unfold zci; exact if_pos h
theorem zci_f {p : Prop} {a b : Int32} (h : ¬ p) : zci p a b = b := by unfold zci; exact if_neg h
def zDo (L1 L2 cn dv : Nat) (td : Int64) : va_E := .inr (0, [.ref L1, .ref L2, .ref cn, .ref dv, .long td])
def zOrd (f : Nat → Int32) (n : Nat) (sv rc who : Int32) : Prop := sv ≠ 2 ∧ zIn f n (zcode rc 1 who)
noncomputable def zTak (f : Nat → Int32) (n : Nat) (sv rc st who : Int32) : Int32 := zci (who = rc) 1 (zci (zOrd f n sv rc who) 2 (zci (sv ≤ 1 ∧ st ≠ 2 ∧ zIn f n (zcode rc 0 who)) 3 (-21)))
set_option maxHeartbeats 4000000 in
set_option maxRecDepth 100000 in
theorem c_D_hasOrder (l : Launch) (D : va_G) (dA : Nat → ClassId) (z : Nat) (M : zVw) (h L1 L2 cn dv tl n it fc : Nat) (td : Int64) (f : Nat → Int32) (nu sv rc du who : Int32) (hM : M h = some (zDo L1 L2 cn dv td)) (hH : M cn = some (zNo tl n)) (hT : M tl = some (zIa dA 100 f)) (hn : n ≤ 100) (hI : M it = some (iA nu sv rc fc du)) : zMet l y_D_hasOrder b_D_hasOrder 3 (some .boolean) 2 45 0 0 D dA z [.ref h, .ref it, .int who] M (fun v M' => M' = M ∧ v = some (.int (zci (zOrd f n sv rc who) 1 0))) := by
  have hM2 := hM
  have hI2 := hI
  unfold zDo at hM2
  unfold iA at hI2
  refine z_of 2 false (by decide) (fun h => by first | rfl | cases h) (Nat.le_of_ble_eq_true rfl) trivial ?_
  intro p e s m args below meth c C hR
  refine zgo (cut := fun _ => false) 60 C lk_D hR ?_
  simp only [zs_iconst, zs_iload_n, zs_aload_n, zs_if_eq, zs_icmp_eq, zs_goto, zs_get, zs_ireturn, zx_iv, zx_is, zx_it, zx_nw, zx_na, zx_an, zx_cc, zx_gs, zx_as, zx_ae, zx_ac, zx_at, zr_seg, zr_t, zr_f, zr_tp, zr_fp, zr_lg, zr_lr, zr_lr0, zr_wi, zr_wr, zr_wn, zr_wl, zr_vo, zr_so, zr_sI, zr_sL, zr_sA, zr_sN, zr_in, zr_rd, zr_wr2, zr_kf, zr_k0, zr_k1, zr_k2, zr_k3, zr_k3n, zr_k10, zr_k11, zr_k12, zr_k13, zr_k13n, zr_ai, zr_af, zr_aw, zr_aL, zr_Lf, zr_Lw, zr_l2, zr_l20, zr_al, zr_an, zr_aq, zr_ag, zr_rfs, zr_rfn, zr_r1, zr_r2, zr_w0, zr_w1, zr_tl, zr_40, zr_41, zr_42, zr_43, d_D_hasOrder_0, d_D_hasOrder_1, fl_D_144, d_D_hasOrder_4, ci_2, d_D_hasOrder_5, zt_5_23, zo_5_23, d_D_hasOrder_8, d_D_hasOrder_9, fl_D_22, d_D_hasOrder_12, d_D_hasOrder_13, fl_D_187, d_D_hasOrder_16, ci_1, d_D_hasOrder_17, d_D_hasOrder_18, d_D_hasOrder_21, zt_21_7, zo_21_7, d_D_hasOrder_24, d_D_hasOrder_25, zt_25_4, zo_25_4, d_D_hasOrder_28, ci_0, d_D_hasOrder_29, za_0, za_i, za_r, za_n, za_l, zu_s, zu_u, Nat.reduceAdd, Nat.reduceLT, Nat.reduceBEq, Nat.zero_add, Bool.false_or, Bool.or_false, Bool.true_or, Bool.or_true, Bool.false_and, Bool.and_false, Bool.true_and, Bool.and_true, true_and, and_true, true_or, or_true, eq_self, Nat.le_refl, List.getElem?_cons_succ, List.getElem?_cons_zero, List.set_cons_succ, List.set_cons_zero, zk_0, zk_1, zk_2, zk_3, zk_4, zq_1, zq_2, Option.isSome_some, Option.getD_some, Option.toList_some, Option.toList_none, List.cons_append, List.nil_append, hM2, hI2]
  refine ⟨fun q => by rw [zci_f (fun g => g.1 q)], fun q => ?_⟩
  refine zJ_callV (As := [.int rc, .int 1, .int who]) (rest := []) C d_D_hasOrder_18 (c_N_stand l D dA z M cn tl n f rc 1 who hH hT hn) k_D_194 n_N_stand v_N_stand hH rfl rfl ⟨(Nat.le_of_ble_eq_true rfl), (Nat.le_of_ble_eq_true rfl)⟩ ⟨(Nat.le_of_ble_eq_true rfl), (Nat.le_of_ble_eq_true rfl)⟩ rfl (Nat.le_of_ble_eq_true rfl) ?_
  rintro v M' ⟨rfl, hv⟩
  rcases hv with ⟨g, rfl⟩ | ⟨g, rfl⟩
  · refine zgo (cut := fun _ => false) 60 C lk_D hR ?_
    simp only [zs_iconst, zs_iload_n, zs_aload_n, zs_if_eq, zs_icmp_eq, zs_goto, zs_get, zs_ireturn, zx_iv, zx_is, zx_it, zx_nw, zx_na, zx_an, zx_cc, zx_gs, zx_as, zx_ae, zx_ac, zx_at, zr_seg, zr_t, zr_f, zr_tp, zr_fp, zr_lg, zr_lr, zr_lr0, zr_wi, zr_wr, zr_wn, zr_wl, zr_vo, zr_so, zr_sI, zr_sL, zr_sA, zr_sN, zr_in, zr_rd, zr_wr2, zr_kf, zr_k0, zr_k1, zr_k2, zr_k3, zr_k3n, zr_k10, zr_k11, zr_k12, zr_k13, zr_k13n, zr_ai, zr_af, zr_aw, zr_aL, zr_Lf, zr_Lw, zr_l2, zr_l20, zr_al, zr_an, zr_aq, zr_ag, zr_rfs, zr_rfn, zr_r1, zr_r2, zr_w0, zr_w1, zr_tl, zr_40, zr_41, zr_42, zr_43, d_D_hasOrder_0, d_D_hasOrder_1, fl_D_144, d_D_hasOrder_4, ci_2, d_D_hasOrder_5, zt_5_23, zo_5_23, d_D_hasOrder_8, d_D_hasOrder_9, fl_D_22, d_D_hasOrder_12, d_D_hasOrder_13, fl_D_187, d_D_hasOrder_16, ci_1, d_D_hasOrder_17, d_D_hasOrder_18, d_D_hasOrder_21, zt_21_7, zo_21_7, d_D_hasOrder_24, d_D_hasOrder_25, zt_25_4, zo_25_4, d_D_hasOrder_28, ci_0, d_D_hasOrder_29, za_0, za_i, za_r, za_n, za_l, zu_s, zu_u, Nat.reduceAdd, Nat.reduceLT, Nat.reduceBEq, Nat.zero_add, Bool.false_or, Bool.or_false, Bool.true_or, Bool.or_true, Bool.false_and, Bool.and_false, Bool.true_and, Bool.and_true, true_and, and_true, true_or, or_true, eq_self, Nat.le_refl, List.getElem?_cons_succ, List.getElem?_cons_zero, List.set_cons_succ, List.set_cons_zero, zk_0, zk_1, zk_2, zk_3, zk_4, zq_1, zq_2, Option.isSome_some, Option.getD_some, Option.toList_some, Option.toList_none, List.cons_append, List.nil_append]
    exact ⟨fun w => absurd w (by decide), fun _ => by rw [zci_t ⟨q, g⟩]⟩
  · refine zgo (cut := fun _ => false) 60 C lk_D hR ?_
    simp only [zs_iconst, zs_iload_n, zs_aload_n, zs_if_eq, zs_icmp_eq, zs_goto, zs_get, zs_ireturn, zx_iv, zx_is, zx_it, zx_nw, zx_na, zx_an, zx_cc, zx_gs, zx_as, zx_ae, zx_ac, zx_at, zr_seg, zr_t, zr_f, zr_tp, zr_fp, zr_lg, zr_lr, zr_lr0, zr_wi, zr_wr, zr_wn, zr_wl, zr_vo, zr_so, zr_sI, zr_sL, zr_sA, zr_sN, zr_in, zr_rd, zr_wr2, zr_kf, zr_k0, zr_k1, zr_k2, zr_k3, zr_k3n, zr_k10, zr_k11, zr_k12, zr_k13, zr_k13n, zr_ai, zr_af, zr_aw, zr_aL, zr_Lf, zr_Lw, zr_l2, zr_l20, zr_al, zr_an, zr_aq, zr_ag, zr_rfs, zr_rfn, zr_r1, zr_r2, zr_w0, zr_w1, zr_tl, zr_40, zr_41, zr_42, zr_43, d_D_hasOrder_0, d_D_hasOrder_1, fl_D_144, d_D_hasOrder_4, ci_2, d_D_hasOrder_5, zt_5_23, zo_5_23, d_D_hasOrder_8, d_D_hasOrder_9, fl_D_22, d_D_hasOrder_12, d_D_hasOrder_13, fl_D_187, d_D_hasOrder_16, ci_1, d_D_hasOrder_17, d_D_hasOrder_18, d_D_hasOrder_21, zt_21_7, zo_21_7, d_D_hasOrder_24, d_D_hasOrder_25, zt_25_4, zo_25_4, d_D_hasOrder_28, ci_0, d_D_hasOrder_29, za_0, za_i, za_r, za_n, za_l, zu_s, zu_u, Nat.reduceAdd, Nat.reduceLT, Nat.reduceBEq, Nat.zero_add, Bool.false_or, Bool.or_false, Bool.true_or, Bool.or_true, Bool.false_and, Bool.and_false, Bool.true_and, Bool.and_true, true_and, and_true, true_or, or_true, eq_self, Nat.le_refl, List.getElem?_cons_succ, List.getElem?_cons_zero, List.set_cons_succ, List.set_cons_zero, zk_0, zk_1, zk_2, zk_3, zk_4, zq_1, zq_2, Option.isSome_some, Option.getD_some, Option.toList_some, Option.toList_none, List.cons_append, List.nil_append]
    exact ⟨fun _ => by rw [zci_f (fun w => g w.2)], fun w => absurd (by decide) w⟩
set_option maxHeartbeats 4000000 in
set_option maxRecDepth 100000 in
theorem c_D_takerOutcome (l : Launch) (D : va_G) (dA : Nat → ClassId) (z : Nat) (M : zVw) (h L1 L2 cn dv tl n it fc se : Nat) (td : Int64) (f F : Nat → Int32) (nu sv rc du who : Int32) (hM : M h = some (zDo L1 L2 cn dv td)) (hH : M cn = some (zNo tl n)) (hT : M tl = some (zIa dA 100 f)) (hn : n ≤ 100) (hI : M it = some (iA nu sv rc fc du)) (hF : M se = some (fA F)) : zMet l y_D_takerOutcome b_D_takerOutcome 5 (some .int) 3 67 0 0 D dA z [.ref h, .ref it, .ref se, .int who] M (fun v M' => M' = M ∧ v = some (.int (zTak f n sv rc (F 0) who))) := by
  have hM2 := hM
  have hI2 := hI
  have hF2 := hF
  unfold zDo at hM2
  unfold iA at hI2
  unfold fA at hF2
  refine z_of 1 false (by decide) (fun h => by first | rfl | cases h) (Nat.le_of_ble_eq_true rfl) trivial ?_
  intro p e s m args below meth c C hR
  refine zgo (cut := fun _ => false) 60 C lk_D hR ?_
  simp only [zs_iconst, zs_bipush, zs_iload_n, zs_iload, zs_aload_n, zs_istore, zs_if_eq, zs_icmp_eq, zs_icmp_ne, zs_icmp_gt, zs_goto, zs_get, zs_ireturn, zx_iv, zx_is, zx_it, zx_nw, zx_na, zx_an, zx_cc, zx_gs, zx_as, zx_ae, zx_ac, zx_at, zr_seg, zr_t, zr_f, zr_tp, zr_fp, zr_lg, zr_lr, zr_lr0, zr_wi, zr_wr, zr_wn, zr_wl, zr_vo, zr_so, zr_sI, zr_sL, zr_sA, zr_sN, zr_in, zr_rd, zr_wr2, zr_kf, zr_k0, zr_k1, zr_k2, zr_k3, zr_k3n, zr_k10, zr_k11, zr_k12, zr_k13, zr_k13n, zr_ai, zr_af, zr_aw, zr_aL, zr_Lf, zr_Lw, zr_l2, zr_l20, zr_al, zr_an, zr_aq, zr_ag, zr_rfs, zr_rfn, zr_r1, zr_r2, zr_w0, zr_w1, zr_tl, zr_40, zr_41, zr_42, zr_43, d_D_takerOutcome_0, d_D_takerOutcome_1, d_D_takerOutcome_2, fl_D_187, d_D_takerOutcome_5, zt_5_5, zo_5_5, d_D_takerOutcome_8, ci_1, d_D_takerOutcome_9, d_D_takerOutcome_10, d_D_takerOutcome_11, d_D_takerOutcome_12, d_D_takerOutcome_13, d_D_takerOutcome_16, zt_16_5, zo_16_5, d_D_takerOutcome_19, ci_2, d_D_takerOutcome_20, d_D_takerOutcome_21, d_D_takerOutcome_22, fl_D_144, d_D_takerOutcome_25, d_D_takerOutcome_26, zt_26_15, zo_26_15, d_D_takerOutcome_29, d_D_takerOutcome_30, fl_D_157, d_D_takerOutcome_33, d_D_takerOutcome_34, zt_34_7, zo_34_7, d_D_takerOutcome_37, d_D_takerOutcome_38, zt_38_4, zo_38_4, d_D_takerOutcome_41, ci_0, d_D_takerOutcome_42, d_D_takerOutcome_44, d_D_takerOutcome_46, zt_46_23, zo_46_23, d_D_takerOutcome_49, d_D_takerOutcome_50, fl_D_22, d_D_takerOutcome_53, d_D_takerOutcome_54, d_D_takerOutcome_57, d_D_takerOutcome_58, d_D_takerOutcome_59, d_D_takerOutcome_62, zt_62_7, zo_62_7, d_D_takerOutcome_65, ci_3, d_D_takerOutcome_66, zt_66_5, zo_66_5, d_D_takerOutcome_69, cb_m21, d_D_takerOutcome_71, za_0, za_i, za_r, za_n, za_l, zu_s, zu_u, Nat.reduceAdd, Nat.reduceLT, Nat.reduceBEq, Nat.zero_add, Bool.false_or, Bool.or_false, Bool.true_or, Bool.or_true, Bool.false_and, Bool.and_false, Bool.true_and, Bool.and_true, true_and, and_true, true_or, or_true, eq_self, Nat.le_refl, List.getElem?_cons_succ, List.getElem?_cons_zero, List.set_cons_succ, List.set_cons_zero, zk_0, zk_1, zk_2, zk_3, zk_4, zq_1, zq_2, Option.isSome_some, Option.getD_some, Option.toList_some, Option.toList_none, List.cons_append, List.nil_append, hM2, hI2, hF2]
  refine ⟨fun q => ?_, fun q => by unfold zTak; rw [zci_t q]⟩
  refine zJ_callV (As := [.ref it, .int who]) (rest := []) C d_D_takerOutcome_13 (c_D_hasOrder l D dA z M h L1 L2 cn dv tl n it fc td f nu sv rc du who hM hH hT hn hI) k_D_190 n_D_hasOrder v_D_hasOrder hM rfl rfl ⟨(Nat.le_of_ble_eq_true rfl), (Nat.le_of_ble_eq_true rfl)⟩ ⟨(Nat.le_of_ble_eq_true rfl), (Nat.le_of_ble_eq_true rfl)⟩ rfl (Nat.le_of_ble_eq_true rfl) ?_
  rintro v M' ⟨rfl, rfl⟩
  by_cases g : zOrd f n sv rc who
  · rw [zci_t g]
    refine zgo (cut := fun _ => false) 60 C lk_D hR ?_
    simp only [zs_iconst, zs_bipush, zs_iload_n, zs_iload, zs_aload_n, zs_istore, zs_if_eq, zs_icmp_eq, zs_icmp_ne, zs_icmp_gt, zs_goto, zs_get, zs_ireturn, zx_iv, zx_is, zx_it, zx_nw, zx_na, zx_an, zx_cc, zx_gs, zx_as, zx_ae, zx_ac, zx_at, zr_seg, zr_t, zr_f, zr_tp, zr_fp, zr_lg, zr_lr, zr_lr0, zr_wi, zr_wr, zr_wn, zr_wl, zr_vo, zr_so, zr_sI, zr_sL, zr_sA, zr_sN, zr_in, zr_rd, zr_wr2, zr_kf, zr_k0, zr_k1, zr_k2, zr_k3, zr_k3n, zr_k10, zr_k11, zr_k12, zr_k13, zr_k13n, zr_ai, zr_af, zr_aw, zr_aL, zr_Lf, zr_Lw, zr_l2, zr_l20, zr_al, zr_an, zr_aq, zr_ag, zr_rfs, zr_rfn, zr_r1, zr_r2, zr_w0, zr_w1, zr_tl, zr_40, zr_41, zr_42, zr_43, d_D_takerOutcome_0, d_D_takerOutcome_1, d_D_takerOutcome_2, fl_D_187, d_D_takerOutcome_5, zt_5_5, zo_5_5, d_D_takerOutcome_8, ci_1, d_D_takerOutcome_9, d_D_takerOutcome_10, d_D_takerOutcome_11, d_D_takerOutcome_12, d_D_takerOutcome_13, d_D_takerOutcome_16, zt_16_5, zo_16_5, d_D_takerOutcome_19, ci_2, d_D_takerOutcome_20, d_D_takerOutcome_21, d_D_takerOutcome_22, fl_D_144, d_D_takerOutcome_25, d_D_takerOutcome_26, zt_26_15, zo_26_15, d_D_takerOutcome_29, d_D_takerOutcome_30, fl_D_157, d_D_takerOutcome_33, d_D_takerOutcome_34, zt_34_7, zo_34_7, d_D_takerOutcome_37, d_D_takerOutcome_38, zt_38_4, zo_38_4, d_D_takerOutcome_41, ci_0, d_D_takerOutcome_42, d_D_takerOutcome_44, d_D_takerOutcome_46, zt_46_23, zo_46_23, d_D_takerOutcome_49, d_D_takerOutcome_50, fl_D_22, d_D_takerOutcome_53, d_D_takerOutcome_54, d_D_takerOutcome_57, d_D_takerOutcome_58, d_D_takerOutcome_59, d_D_takerOutcome_62, zt_62_7, zo_62_7, d_D_takerOutcome_65, ci_3, d_D_takerOutcome_66, zt_66_5, zo_66_5, d_D_takerOutcome_69, cb_m21, d_D_takerOutcome_71, za_0, za_i, za_r, za_n, za_l, zu_s, zu_u, Nat.reduceAdd, Nat.reduceLT, Nat.reduceBEq, Nat.zero_add, Bool.false_or, Bool.or_false, Bool.true_or, Bool.or_true, Bool.false_and, Bool.and_false, Bool.true_and, Bool.and_true, true_and, and_true, true_or, or_true, eq_self, Nat.le_refl, List.getElem?_cons_succ, List.getElem?_cons_zero, List.set_cons_succ, List.set_cons_zero, zk_0, zk_1, zk_2, zk_3, zk_4, zq_1, zq_2, Option.isSome_some, Option.getD_some, Option.toList_some, Option.toList_none, List.cons_append, List.nil_append, hM2, hI2, hF2]
    exact ⟨fun w => absurd w (by decide), fun _ => by unfold zTak; rw [zci_f q, zci_t g]⟩
  · rw [zci_f g]
    refine zgo (cut := fun _ => false) 60 C lk_D hR ?_
    simp only [zs_iconst, zs_bipush, zs_iload_n, zs_iload, zs_aload_n, zs_istore, zs_if_eq, zs_icmp_eq, zs_icmp_ne, zs_icmp_gt, zs_goto, zs_get, zs_ireturn, zx_iv, zx_is, zx_it, zx_nw, zx_na, zx_an, zx_cc, zx_gs, zx_as, zx_ae, zx_ac, zx_at, zr_seg, zr_t, zr_f, zr_tp, zr_fp, zr_lg, zr_lr, zr_lr0, zr_wi, zr_wr, zr_wn, zr_wl, zr_vo, zr_so, zr_sI, zr_sL, zr_sA, zr_sN, zr_in, zr_rd, zr_wr2, zr_kf, zr_k0, zr_k1, zr_k2, zr_k3, zr_k3n, zr_k10, zr_k11, zr_k12, zr_k13, zr_k13n, zr_ai, zr_af, zr_aw, zr_aL, zr_Lf, zr_Lw, zr_l2, zr_l20, zr_al, zr_an, zr_aq, zr_ag, zr_rfs, zr_rfn, zr_r1, zr_r2, zr_w0, zr_w1, zr_tl, zr_40, zr_41, zr_42, zr_43, d_D_takerOutcome_0, d_D_takerOutcome_1, d_D_takerOutcome_2, fl_D_187, d_D_takerOutcome_5, zt_5_5, zo_5_5, d_D_takerOutcome_8, ci_1, d_D_takerOutcome_9, d_D_takerOutcome_10, d_D_takerOutcome_11, d_D_takerOutcome_12, d_D_takerOutcome_13, d_D_takerOutcome_16, zt_16_5, zo_16_5, d_D_takerOutcome_19, ci_2, d_D_takerOutcome_20, d_D_takerOutcome_21, d_D_takerOutcome_22, fl_D_144, d_D_takerOutcome_25, d_D_takerOutcome_26, zt_26_15, zo_26_15, d_D_takerOutcome_29, d_D_takerOutcome_30, fl_D_157, d_D_takerOutcome_33, d_D_takerOutcome_34, zt_34_7, zo_34_7, d_D_takerOutcome_37, d_D_takerOutcome_38, zt_38_4, zo_38_4, d_D_takerOutcome_41, ci_0, d_D_takerOutcome_42, d_D_takerOutcome_44, d_D_takerOutcome_46, zt_46_23, zo_46_23, d_D_takerOutcome_49, d_D_takerOutcome_50, fl_D_22, d_D_takerOutcome_53, d_D_takerOutcome_54, d_D_takerOutcome_57, d_D_takerOutcome_58, d_D_takerOutcome_59, d_D_takerOutcome_62, zt_62_7, zo_62_7, d_D_takerOutcome_65, ci_3, d_D_takerOutcome_66, zt_66_5, zo_66_5, d_D_takerOutcome_69, cb_m21, d_D_takerOutcome_71, za_0, za_i, za_r, za_n, za_l, zu_s, zu_u, Nat.reduceAdd, Nat.reduceLT, Nat.reduceBEq, Nat.zero_add, Bool.false_or, Bool.or_false, Bool.true_or, Bool.or_true, Bool.false_and, Bool.and_false, Bool.true_and, Bool.and_true, true_and, and_true, true_or, or_true, eq_self, Nat.le_refl, List.getElem?_cons_succ, List.getElem?_cons_zero, List.set_cons_succ, List.set_cons_zero, zk_0, zk_1, zk_2, zk_3, zk_4, zq_1, zq_2, Option.isSome_some, Option.getD_some, Option.toList_some, Option.toList_none, List.cons_append, List.nil_append, hM2, hI2, hF2]
    have no : ¬ (sv ≤ 1 ∧ F 0 ≠ 2 ∧ zIn f n (zcode rc 0 who)) → some (Value.int (-21)) = some (Value.int (zTak f n sv rc (F 0) who)) := fun w => by unfold zTak; rw [zci_f q, zci_f g, zci_f w]
    refine ⟨fun _ => ⟨fun w => ⟨fun _ => no (fun y => absurd y.1 (by clear hR C; (simp only [Int32.lt_iff_toInt_lt, Int32.le_iff_toInt_le, ← Int32.toInt_inj, Int32.reduceToInt] at *; omega))), fun w2 => absurd trivial w2⟩, fun w => ⟨fun w2 => ⟨fun _ => no (fun y => y.2.1 w2), fun w3 => absurd trivial w3⟩, fun w2 => ⟨fun w3 => absurd w3 (by decide), fun _ => ?_⟩⟩⟩, fun w => absurd trivial w⟩
    refine zJ_callV (As := [.int rc, .int 0, .int who]) (rest := []) C d_D_takerOutcome_59 (c_N_stand l D dA z M' cn tl n f rc 0 who hH hT hn) k_D_194 n_N_stand v_N_stand hH rfl rfl ⟨(Nat.le_of_ble_eq_true rfl), (Nat.le_of_ble_eq_true rfl)⟩ ⟨(Nat.le_of_ble_eq_true rfl), (Nat.le_of_ble_eq_true rfl)⟩ rfl (Nat.le_of_ble_eq_true rfl) ?_
    rintro v M'' ⟨rfl, hv⟩
    rcases hv with ⟨y, rfl⟩ | ⟨y, rfl⟩
    · refine zgo (cut := fun _ => false) 60 C lk_D hR ?_
      simp only [zs_iconst, zs_bipush, zs_iload_n, zs_iload, zs_aload_n, zs_istore, zs_if_eq, zs_icmp_eq, zs_icmp_ne, zs_icmp_gt, zs_goto, zs_get, zs_ireturn, zx_iv, zx_is, zx_it, zx_nw, zx_na, zx_an, zx_cc, zx_gs, zx_as, zx_ae, zx_ac, zx_at, zr_seg, zr_t, zr_f, zr_tp, zr_fp, zr_lg, zr_lr, zr_lr0, zr_wi, zr_wr, zr_wn, zr_wl, zr_vo, zr_so, zr_sI, zr_sL, zr_sA, zr_sN, zr_in, zr_rd, zr_wr2, zr_kf, zr_k0, zr_k1, zr_k2, zr_k3, zr_k3n, zr_k10, zr_k11, zr_k12, zr_k13, zr_k13n, zr_ai, zr_af, zr_aw, zr_aL, zr_Lf, zr_Lw, zr_l2, zr_l20, zr_al, zr_an, zr_aq, zr_ag, zr_rfs, zr_rfn, zr_r1, zr_r2, zr_w0, zr_w1, zr_tl, zr_40, zr_41, zr_42, zr_43, d_D_takerOutcome_0, d_D_takerOutcome_1, d_D_takerOutcome_2, fl_D_187, d_D_takerOutcome_5, zt_5_5, zo_5_5, d_D_takerOutcome_8, ci_1, d_D_takerOutcome_9, d_D_takerOutcome_10, d_D_takerOutcome_11, d_D_takerOutcome_12, d_D_takerOutcome_13, d_D_takerOutcome_16, zt_16_5, zo_16_5, d_D_takerOutcome_19, ci_2, d_D_takerOutcome_20, d_D_takerOutcome_21, d_D_takerOutcome_22, fl_D_144, d_D_takerOutcome_25, d_D_takerOutcome_26, zt_26_15, zo_26_15, d_D_takerOutcome_29, d_D_takerOutcome_30, fl_D_157, d_D_takerOutcome_33, d_D_takerOutcome_34, zt_34_7, zo_34_7, d_D_takerOutcome_37, d_D_takerOutcome_38, zt_38_4, zo_38_4, d_D_takerOutcome_41, ci_0, d_D_takerOutcome_42, d_D_takerOutcome_44, d_D_takerOutcome_46, zt_46_23, zo_46_23, d_D_takerOutcome_49, d_D_takerOutcome_50, fl_D_22, d_D_takerOutcome_53, d_D_takerOutcome_54, d_D_takerOutcome_57, d_D_takerOutcome_58, d_D_takerOutcome_59, d_D_takerOutcome_62, zt_62_7, zo_62_7, d_D_takerOutcome_65, ci_3, d_D_takerOutcome_66, zt_66_5, zo_66_5, d_D_takerOutcome_69, cb_m21, d_D_takerOutcome_71, za_0, za_i, za_r, za_n, za_l, zu_s, zu_u, Nat.reduceAdd, Nat.reduceLT, Nat.reduceBEq, Nat.zero_add, Bool.false_or, Bool.or_false, Bool.true_or, Bool.or_true, Bool.false_and, Bool.and_false, Bool.true_and, Bool.and_true, true_and, and_true, true_or, or_true, eq_self, Nat.le_refl, List.getElem?_cons_succ, List.getElem?_cons_zero, List.set_cons_succ, List.set_cons_zero, zk_0, zk_1, zk_2, zk_3, zk_4, zq_1, zq_2, Option.isSome_some, Option.getD_some, Option.toList_some, Option.toList_none, List.cons_append, List.nil_append]
      exact ⟨fun w3 => absurd w3 (by decide), fun _ => by unfold zTak; rw [zci_f q, zci_f g, zci_t ⟨by clear hR C; (simp only [Int32.lt_iff_toInt_lt, Int32.le_iff_toInt_le, ← Int32.toInt_inj, Int32.reduceToInt] at *; omega), w2, y⟩]⟩
    · refine zgo (cut := fun _ => false) 60 C lk_D hR ?_
      simp only [zs_iconst, zs_bipush, zs_iload_n, zs_iload, zs_aload_n, zs_istore, zs_if_eq, zs_icmp_eq, zs_icmp_ne, zs_icmp_gt, zs_goto, zs_get, zs_ireturn, zx_iv, zx_is, zx_it, zx_nw, zx_na, zx_an, zx_cc, zx_gs, zx_as, zx_ae, zx_ac, zx_at, zr_seg, zr_t, zr_f, zr_tp, zr_fp, zr_lg, zr_lr, zr_lr0, zr_wi, zr_wr, zr_wn, zr_wl, zr_vo, zr_so, zr_sI, zr_sL, zr_sA, zr_sN, zr_in, zr_rd, zr_wr2, zr_kf, zr_k0, zr_k1, zr_k2, zr_k3, zr_k3n, zr_k10, zr_k11, zr_k12, zr_k13, zr_k13n, zr_ai, zr_af, zr_aw, zr_aL, zr_Lf, zr_Lw, zr_l2, zr_l20, zr_al, zr_an, zr_aq, zr_ag, zr_rfs, zr_rfn, zr_r1, zr_r2, zr_w0, zr_w1, zr_tl, zr_40, zr_41, zr_42, zr_43, d_D_takerOutcome_0, d_D_takerOutcome_1, d_D_takerOutcome_2, fl_D_187, d_D_takerOutcome_5, zt_5_5, zo_5_5, d_D_takerOutcome_8, ci_1, d_D_takerOutcome_9, d_D_takerOutcome_10, d_D_takerOutcome_11, d_D_takerOutcome_12, d_D_takerOutcome_13, d_D_takerOutcome_16, zt_16_5, zo_16_5, d_D_takerOutcome_19, ci_2, d_D_takerOutcome_20, d_D_takerOutcome_21, d_D_takerOutcome_22, fl_D_144, d_D_takerOutcome_25, d_D_takerOutcome_26, zt_26_15, zo_26_15, d_D_takerOutcome_29, d_D_takerOutcome_30, fl_D_157, d_D_takerOutcome_33, d_D_takerOutcome_34, zt_34_7, zo_34_7, d_D_takerOutcome_37, d_D_takerOutcome_38, zt_38_4, zo_38_4, d_D_takerOutcome_41, ci_0, d_D_takerOutcome_42, d_D_takerOutcome_44, d_D_takerOutcome_46, zt_46_23, zo_46_23, d_D_takerOutcome_49, d_D_takerOutcome_50, fl_D_22, d_D_takerOutcome_53, d_D_takerOutcome_54, d_D_takerOutcome_57, d_D_takerOutcome_58, d_D_takerOutcome_59, d_D_takerOutcome_62, zt_62_7, zo_62_7, d_D_takerOutcome_65, ci_3, d_D_takerOutcome_66, zt_66_5, zo_66_5, d_D_takerOutcome_69, cb_m21, d_D_takerOutcome_71, za_0, za_i, za_r, za_n, za_l, zu_s, zu_u, Nat.reduceAdd, Nat.reduceLT, Nat.reduceBEq, Nat.zero_add, Bool.false_or, Bool.or_false, Bool.true_or, Bool.or_true, Bool.false_and, Bool.and_false, Bool.true_and, Bool.and_true, true_and, and_true, true_or, or_true, eq_self, Nat.le_refl, List.getElem?_cons_succ, List.getElem?_cons_zero, List.set_cons_succ, List.set_cons_zero, zk_0, zk_1, zk_2, zk_3, zk_4, zq_1, zq_2, Option.isSome_some, Option.getD_some, Option.toList_some, Option.toList_none, List.cons_append, List.nil_append]
      exact ⟨fun _ => no (fun y2 => y y2.2.2), fun w3 => absurd trivial w3⟩
abbrev zPrf (sv st who proof : Int32) : Prop := (proof = -1 ∧ st ≠ 2 ∧ (sv = 0 ∨ sv = 5)) ∨ (proof ≠ -1 ∧ proof / 4 = who ∧ ((sv = 2 ∧ (proof - proof / 4 * 4 = 1 ∨ proof - proof / 4 * 4 = 2)) ∨ (sv ≠ 2 ∧ (sv ≠ 3 ∨ proof - proof / 4 * 4 = 2))))
set_option maxHeartbeats 4000000 in
set_option maxRecDepth 100000 in
theorem c_D_isProofEnough (l : Launch) (D : va_G) (dA : Nat → ClassId) (z : Nat) (M : zVw) (it fc se : Nat) (F : Nat → Int32) (nu sv rc du who proof : Int32) (hI : M it = some (iA nu sv rc fc du)) (hF : M se = some (fA F)) : zMet l y_D_isProofEnough b_D_isProofEnough 5 (some .boolean) 0 0 0 0 D dA z [.ref it, .ref se, .int who, .int proof] M (fun v M' => M' = M ∧ v = some (.int (zb (zPrf sv (F 0) who proof)))) := by
  have hI2 := hI
  have hF2 := hF
  unfold iA at hI2
  unfold fA at hF2
  refine z_of 2 false (by decide) (fun h => by first | rfl | cases h) (Nat.le_of_ble_eq_true rfl) trivial ?_
  intro p e s m args below meth c C hR
  refine zgo (cut := fun _ => false) 60 C lk_D hR ?_
  simp only [zs_iconst, zs_iload_n, zs_iload, zs_aload_n, zs_istore, zs_idiv, zs_irem, zs_if_eq, zs_icmp_eq, zs_icmp_ne, zs_goto, zs_get, zs_ireturn, zx_iv, zx_is, zx_it, zx_nw, zx_na, zx_an, zx_cc, zx_gs, zx_as, zx_ae, zx_ac, zx_at, zr_seg, zr_t, zr_f, zr_tp, zr_fp, zr_lg, zr_lr, zr_lr0, zr_wi, zr_wr, zr_wn, zr_wl, zr_vo, zr_so, zr_sI, zr_sL, zr_sA, zr_sN, zr_in, zr_rd, zr_wr2, zr_kf, zr_k0, zr_k1, zr_k2, zr_k3, zr_k3n, zr_k10, zr_k11, zr_k12, zr_k13, zr_k13n, zr_ai, zr_af, zr_aw, zr_aL, zr_Lf, zr_Lw, zr_l2, zr_l20, zr_al, zr_an, zr_aq, zr_ag, zr_rfs, zr_rfn, zr_r1, zr_r2, zr_w0, zr_w1, zr_tl, zr_40, zr_41, zr_42, zr_43, d_D_isProofEnough_0, d_D_isProofEnough_1, ci_m1, d_D_isProofEnough_2, zt_2_32, zo_2_32, d_D_isProofEnough_5, d_D_isProofEnough_6, fl_D_157, d_D_isProofEnough_9, ci_2, d_D_isProofEnough_10, zt_10_22, zo_10_22, d_D_isProofEnough_13, d_D_isProofEnough_14, fl_D_144, d_D_isProofEnough_17, zt_17_11, zo_17_11, d_D_isProofEnough_20, d_D_isProofEnough_21, d_D_isProofEnough_24, ci_5, d_D_isProofEnough_25, zt_25_7, zo_25_7, d_D_isProofEnough_28, ci_1, d_D_isProofEnough_29, zt_29_4, zo_29_4, d_D_isProofEnough_32, ci_0, d_D_isProofEnough_33, d_D_isProofEnough_34, d_D_isProofEnough_35, ci_4, d_D_isProofEnough_36, d_D_isProofEnough_37, d_D_isProofEnough_38, zt_38_5, zo_38_5, d_D_isProofEnough_41, d_D_isProofEnough_42, d_D_isProofEnough_43, d_D_isProofEnough_44, d_D_isProofEnough_45, d_D_isProofEnough_46, d_D_isProofEnough_48, d_D_isProofEnough_49, d_D_isProofEnough_52, d_D_isProofEnough_53, zt_53_21, zo_53_21, d_D_isProofEnough_56, d_D_isProofEnough_58, d_D_isProofEnough_59, zt_59_9, zo_59_9, d_D_isProofEnough_62, d_D_isProofEnough_64, d_D_isProofEnough_65, zt_65_7, zo_65_7, d_D_isProofEnough_68, d_D_isProofEnough_69, zt_69_4, zo_69_4, d_D_isProofEnough_72, d_D_isProofEnough_73, d_D_isProofEnough_74, d_D_isProofEnough_75, d_D_isProofEnough_78, ci_3, d_D_isProofEnough_79, zt_79_9, zo_79_9, d_D_isProofEnough_82, d_D_isProofEnough_84, d_D_isProofEnough_85, zt_85_7, zo_85_7, d_D_isProofEnough_88, d_D_isProofEnough_89, zt_89_4, zo_89_4, d_D_isProofEnough_92, d_D_isProofEnough_93, za_0, za_i, za_r, za_n, za_l, zu_s, zu_u, Nat.reduceAdd, Nat.reduceLT, Nat.reduceBEq, Nat.zero_add, Bool.false_or, Bool.or_false, Bool.true_or, Bool.or_true, Bool.false_and, Bool.and_false, Bool.true_and, Bool.and_true, true_and, and_true, true_or, or_true, eq_self, Nat.le_refl, List.getElem?_cons_succ, List.getElem?_cons_zero, List.set_cons_succ, List.set_cons_zero, zk_0, zk_1, zk_2, zk_3, zk_4, zq_1, zq_2, Option.isSome_some, Option.getD_some, Option.toList_some, Option.toList_none, List.cons_append, List.nil_append, hI2, hF2]
  have z4 : ¬ (4 : Int32) = 0 := by decide
  simp only [z4, not_false_eq_true, true_and]
  clear hR C hI hI2 hF hF2
  (repeat' first | apply And.intro | intro _) <;> first | (rw [zb_t (by unfold zPrf; simp_all)]; done) | (rw [zb_f (by unfold zPrf; simp_all)]; done)
noncomputable def zHan (f : Nat → Int32) (n : Nat) (sv rc du st who proof : Int32) : Int32 := zci (zTak f n sv rc st who < 0) (zTak f n sv rc st who) (zci (¬ zPrf sv st who proof) (-22) (zci (0 < du) (-23) (zTak f n sv rc st who)))
set_option maxHeartbeats 4000000 in
set_option maxRecDepth 100000 in
theorem c_D_handOutcome (l : Launch) (D : va_G) (dA : Nat → ClassId) (z : Nat) (M : zVw) (h L1 L2 cn dv tl n it fc se : Nat) (td : Int64) (f F : Nat → Int32) (nu sv rc du who proof : Int32) (hM : M h = some (zDo L1 L2 cn dv td)) (hH : M cn = some (zNo tl n)) (hT : M tl = some (zIa dA 100 f)) (hn : n ≤ 100) (hI : M it = some (iA nu sv rc fc du)) (hF : M se = some (fA F)) : zMet l y_D_handOutcome b_D_handOutcome 6 (some .int) 4 91 0 0 D dA z [.ref h, .ref it, .ref se, .int who, .int proof] M (fun v M' => M' = M ∧ v = some (.int (zHan f n sv rc du (F 0) who proof))) := by
  have hI2 := hI
  unfold iA at hI2
  refine z_of 1 false (by decide) (fun h => by first | rfl | cases h) (Nat.le_of_ble_eq_true rfl) trivial ?_
  intro p e s m args below meth c C hR
  refine zgo (cut := fun _ => false) 60 C lk_D hR ?_
  simp only [zs_bipush, zs_iload_n, zs_iload, zs_aload_n, zs_istore, zs_if_ne, zs_if_ge, zs_if_le, zs_goto, zs_get, zs_ireturn, zx_iv, zx_is, zx_it, zx_nw, zx_na, zx_an, zx_cc, zx_gs, zx_as, zx_ae, zx_ac, zx_at, zr_seg, zr_t, zr_f, zr_tp, zr_fp, zr_lg, zr_lr, zr_lr0, zr_wi, zr_wr, zr_wn, zr_wl, zr_vo, zr_so, zr_sI, zr_sL, zr_sA, zr_sN, zr_in, zr_rd, zr_wr2, zr_kf, zr_k0, zr_k1, zr_k2, zr_k3, zr_k3n, zr_k10, zr_k11, zr_k12, zr_k13, zr_k13n, zr_ai, zr_af, zr_aw, zr_aL, zr_Lf, zr_Lw, zr_l2, zr_l20, zr_al, zr_an, zr_aq, zr_ag, zr_rfs, zr_rfn, zr_r1, zr_r2, zr_w0, zr_w1, zr_tl, zr_40, zr_41, zr_42, zr_43, d_D_handOutcome_0, d_D_handOutcome_1, d_D_handOutcome_2, d_D_handOutcome_3, d_D_handOutcome_4, d_D_handOutcome_7, d_D_handOutcome_9, d_D_handOutcome_11, zt_11_6, zo_11_6, d_D_handOutcome_14, d_D_handOutcome_16, d_D_handOutcome_17, d_D_handOutcome_18, d_D_handOutcome_19, d_D_handOutcome_20, d_D_handOutcome_22, d_D_handOutcome_25, zt_25_6, zo_25_6, d_D_handOutcome_28, cb_m22, d_D_handOutcome_30, d_D_handOutcome_31, d_D_handOutcome_32, fl_D_160, d_D_handOutcome_35, zt_35_8, zo_35_8, d_D_handOutcome_38, cb_m23, d_D_handOutcome_40, zt_40_5, zo_40_5, d_D_handOutcome_43, d_D_handOutcome_45, za_0, za_i, za_r, za_n, za_l, zu_s, zu_u, Nat.reduceAdd, Nat.reduceLT, Nat.reduceBEq, Nat.zero_add, Bool.false_or, Bool.or_false, Bool.true_or, Bool.or_true, Bool.false_and, Bool.and_false, Bool.true_and, Bool.and_true, true_and, and_true, true_or, or_true, eq_self, Nat.le_refl, List.getElem?_cons_succ, List.getElem?_cons_zero, List.set_cons_succ, List.set_cons_zero, zk_0, zk_1, zk_2, zk_3, zk_4, zq_1, zq_2, Option.isSome_some, Option.getD_some, Option.toList_some, Option.toList_none, List.cons_append, List.nil_append]
  refine zJ_callV (As := [.ref it, .ref se, .int who]) (rest := []) C d_D_handOutcome_4 (c_D_takerOutcome l D dA z M h L1 L2 cn dv tl n it fc se td f F nu sv rc du who hM hH hT hn hI hF) k_D_197 n_D_takerOutcome v_D_takerOutcome hM rfl rfl ⟨(Nat.le_of_ble_eq_true rfl), (Nat.le_of_ble_eq_true rfl)⟩ ⟨(Nat.le_of_ble_eq_true rfl), (Nat.le_of_ble_eq_true rfl)⟩ rfl (Nat.le_of_ble_eq_true rfl) ?_
  rintro v M' ⟨rfl, rfl⟩
  refine zgo (cut := fun _ => false) 60 C lk_D hR ?_
  simp only [zs_bipush, zs_iload_n, zs_iload, zs_aload_n, zs_istore, zs_if_ne, zs_if_ge, zs_if_le, zs_goto, zs_get, zs_ireturn, zx_iv, zx_is, zx_it, zx_nw, zx_na, zx_an, zx_cc, zx_gs, zx_as, zx_ae, zx_ac, zx_at, zr_seg, zr_t, zr_f, zr_tp, zr_fp, zr_lg, zr_lr, zr_lr0, zr_wi, zr_wr, zr_wn, zr_wl, zr_vo, zr_so, zr_sI, zr_sL, zr_sA, zr_sN, zr_in, zr_rd, zr_wr2, zr_kf, zr_k0, zr_k1, zr_k2, zr_k3, zr_k3n, zr_k10, zr_k11, zr_k12, zr_k13, zr_k13n, zr_ai, zr_af, zr_aw, zr_aL, zr_Lf, zr_Lw, zr_l2, zr_l20, zr_al, zr_an, zr_aq, zr_ag, zr_rfs, zr_rfn, zr_r1, zr_r2, zr_w0, zr_w1, zr_tl, zr_40, zr_41, zr_42, zr_43, d_D_handOutcome_0, d_D_handOutcome_1, d_D_handOutcome_2, d_D_handOutcome_3, d_D_handOutcome_4, d_D_handOutcome_7, d_D_handOutcome_9, d_D_handOutcome_11, zt_11_6, zo_11_6, d_D_handOutcome_14, d_D_handOutcome_16, d_D_handOutcome_17, d_D_handOutcome_18, d_D_handOutcome_19, d_D_handOutcome_20, d_D_handOutcome_22, d_D_handOutcome_25, zt_25_6, zo_25_6, d_D_handOutcome_28, cb_m22, d_D_handOutcome_30, d_D_handOutcome_31, d_D_handOutcome_32, fl_D_160, d_D_handOutcome_35, zt_35_8, zo_35_8, d_D_handOutcome_38, cb_m23, d_D_handOutcome_40, zt_40_5, zo_40_5, d_D_handOutcome_43, d_D_handOutcome_45, za_0, za_i, za_r, za_n, za_l, zu_s, zu_u, Nat.reduceAdd, Nat.reduceLT, Nat.reduceBEq, Nat.zero_add, Bool.false_or, Bool.or_false, Bool.true_or, Bool.or_true, Bool.false_and, Bool.and_false, Bool.true_and, Bool.and_true, true_and, and_true, true_or, or_true, eq_self, Nat.le_refl, List.getElem?_cons_succ, List.getElem?_cons_zero, List.set_cons_succ, List.set_cons_zero, zk_0, zk_1, zk_2, zk_3, zk_4, zq_1, zq_2, Option.isSome_some, Option.getD_some, Option.toList_some, Option.toList_none, List.cons_append, List.nil_append]
  refine ⟨fun q => ?_, fun q => ?_⟩
  · have q2 : ¬ zTak f n sv rc (F 0) who < 0 := by clear hR C; (simp only [Int32.lt_iff_toInt_lt, Int32.le_iff_toInt_le, ← Int32.toInt_inj, Int32.reduceToInt] at *; omega)
    refine zJ_callS (As := [.ref it, .ref se, .int who, .int proof]) (rest := []) C d_D_handOutcome_22 (c_D_isProofEnough l D dA z M' it fc se F nu sv rc du who proof hI hF) k_D_201 s_D_isProofEnough ⟨(Nat.le_of_ble_eq_true rfl), (Nat.le_of_ble_eq_true rfl)⟩ ⟨(Nat.le_of_ble_eq_true rfl), (Nat.le_of_ble_eq_true rfl)⟩ rfl (Nat.le_of_ble_eq_true rfl) ?_
    rintro v M'' ⟨rfl, rfl⟩
    refine zgo (cut := fun _ => false) 60 C lk_D hR ?_
    simp only [zs_bipush, zs_iload_n, zs_iload, zs_aload_n, zs_istore, zs_if_ne, zs_if_ge, zs_if_le, zs_goto, zs_get, zs_ireturn, zx_iv, zx_is, zx_it, zx_nw, zx_na, zx_an, zx_cc, zx_gs, zx_as, zx_ae, zx_ac, zx_at, zr_seg, zr_t, zr_f, zr_tp, zr_fp, zr_lg, zr_lr, zr_lr0, zr_wi, zr_wr, zr_wn, zr_wl, zr_vo, zr_so, zr_sI, zr_sL, zr_sA, zr_sN, zr_in, zr_rd, zr_wr2, zr_kf, zr_k0, zr_k1, zr_k2, zr_k3, zr_k3n, zr_k10, zr_k11, zr_k12, zr_k13, zr_k13n, zr_ai, zr_af, zr_aw, zr_aL, zr_Lf, zr_Lw, zr_l2, zr_l20, zr_al, zr_an, zr_aq, zr_ag, zr_rfs, zr_rfn, zr_r1, zr_r2, zr_w0, zr_w1, zr_tl, zr_40, zr_41, zr_42, zr_43, d_D_handOutcome_0, d_D_handOutcome_1, d_D_handOutcome_2, d_D_handOutcome_3, d_D_handOutcome_4, d_D_handOutcome_7, d_D_handOutcome_9, d_D_handOutcome_11, zt_11_6, zo_11_6, d_D_handOutcome_14, d_D_handOutcome_16, d_D_handOutcome_17, d_D_handOutcome_18, d_D_handOutcome_19, d_D_handOutcome_20, d_D_handOutcome_22, d_D_handOutcome_25, zt_25_6, zo_25_6, d_D_handOutcome_28, cb_m22, d_D_handOutcome_30, d_D_handOutcome_31, d_D_handOutcome_32, fl_D_160, d_D_handOutcome_35, zt_35_8, zo_35_8, d_D_handOutcome_38, cb_m23, d_D_handOutcome_40, zt_40_5, zo_40_5, d_D_handOutcome_43, d_D_handOutcome_45, za_0, za_i, za_r, za_n, za_l, zu_s, zu_u, Nat.reduceAdd, Nat.reduceLT, Nat.reduceBEq, Nat.zero_add, Bool.false_or, Bool.or_false, Bool.true_or, Bool.or_true, Bool.false_and, Bool.and_false, Bool.true_and, Bool.and_true, true_and, and_true, true_or, or_true, eq_self, Nat.le_refl, List.getElem?_cons_succ, List.getElem?_cons_zero, List.set_cons_succ, List.set_cons_zero, zk_0, zk_1, zk_2, zk_3, zk_4, zq_1, zq_2, Option.isSome_some, Option.getD_some, Option.toList_some, Option.toList_none, List.cons_append, List.nil_append, hI2, zb_e0]
    refine ⟨fun w => ⟨fun y => ?_, fun y => ?_⟩, fun w => ?_⟩
    · unfold zHan; rw [zci_f q2, zci_f w, zci_f (by clear hR C; (simp only [Int32.lt_iff_toInt_lt, Int32.le_iff_toInt_le, ← Int32.toInt_inj, Int32.reduceToInt] at *; omega))]
    · unfold zHan; rw [zci_f q2, zci_f w, zci_t (by clear hR C; (simp only [Int32.lt_iff_toInt_lt, Int32.le_iff_toInt_le, ← Int32.toInt_inj, Int32.reduceToInt] at *; omega))]
    · unfold zHan; rw [zci_f q2, zci_t w]
  · have q2 : zTak f n sv rc (F 0) who < 0 := by clear hR C; (simp only [Int32.lt_iff_toInt_lt, Int32.le_iff_toInt_le, ← Int32.toInt_inj, Int32.reduceToInt] at *; omega)
    unfold zHan; rw [zci_t q2]
noncomputable def zOut (f : Nat → Int32) (n : Nat) (sv rc du st kind who proof : Int32) : Int32 :=
  zci (kind = 0) (zHan f n sv rc du st who proof) (zci (kind = 1) (zci (st = 0) 5 6) (zci (kind = 2) (zci (who = rc ∨ zOrd f n sv rc who) 7 (-21)) (zci (kind = 3) 8 (zci (kind = 4) 9 (zci (sv = 0 ∧ zIn f n (zcode rc 2 (-1))) 4 (-21))))))
set_option maxHeartbeats 4000000 in
set_option maxRecDepth 100000 in
theorem c_D_outcomeOf (l : Launch) (D : va_G) (dA : Nat → ClassId) (z : Nat) (M : zVw) (h L1 L2 cn dv tl n it fc se : Nat) (td : Int64) (f F : Nat → Int32) (nu sv rc du kind who proof : Int32) (hM : M h = some (zDo L1 L2 cn dv td)) (hH : M cn = some (zNo tl n)) (hT : M tl = some (zIa dA 100 f)) (hn : n ≤ 100) (hI : M it = some (iA nu sv rc fc du)) (hF : M se = some (fA F)) : zMet l y_D_outcomeOf b_D_outcomeOf 6 (some .int) 5 116 0 0 D dA z [.ref h, .ref it, .ref se, .int kind, .int who, .int proof] M (fun v M' => M' = M ∧ v = some (.int (zOut f n sv rc du (F 0) kind who proof))) := by
  have hM2 := hM
  have hI2 := hI
  have hF2 := hF
  unfold zDo at hM2
  unfold iA at hI2
  unfold fA at hF2
  refine z_of 1 false (by decide) (fun h => by first | rfl | cases h) (Nat.le_of_ble_eq_true rfl) trivial ?_
  intro p e s m args below meth c C hR
  refine zgo (cut := fun _ => false) 60 C lk_D hR ?_
  simp only [zs_iconst, zs_bipush, zs_iload_n, zs_iload, zs_aload_n, zs_if_eq, zs_if_ne, zs_icmp_eq, zs_goto, zs_tsw, zs_get, zs_ireturn, zx_iv, zx_is, zx_it, zx_nw, zx_na, zx_an, zx_cc, zx_gs, zx_as, zx_ae, zx_ac, zx_at, zr_seg, zr_t, zr_f, zr_tp, zr_fp, zr_lg, zr_lr, zr_lr0, zr_wi, zr_wr, zr_wn, zr_wl, zr_vo, zr_so, zr_sI, zr_sL, zr_sA, zr_sN, zr_in, zr_rd, zr_wr2, zr_kf, zr_k0, zr_k1, zr_k2, zr_k3, zr_k3n, zr_k10, zr_k11, zr_k12, zr_k13, zr_k13n, zr_ai, zr_af, zr_aw, zr_aL, zr_Lf, zr_Lw, zr_l2, zr_l20, zr_al, zr_an, zr_aq, zr_ag, zr_rfs, zr_rfn, zr_r1, zr_r2, zr_w0, zr_w1, zr_tl, zr_40, zr_41, zr_42, zr_43, d_D_outcomeOf_0, d_D_outcomeOf_1, sw_0, sw_1, sw_2, sw_3, sw_4, sw_5, sw_6, Int.reduceAdd, Int.zero_add, zt_1_93, zo_1_93, zt_1_35, zo_1_35, zt_1_46, zo_1_46, zt_1_60, zo_1_60, zt_1_87, zo_1_87, zt_1_90, zo_1_90, d_D_outcomeOf_36, d_D_outcomeOf_37, d_D_outcomeOf_38, d_D_outcomeOf_39, d_D_outcomeOf_41, d_D_outcomeOf_43, d_D_outcomeOf_46, d_D_outcomeOf_47, d_D_outcomeOf_48, fl_D_157, d_D_outcomeOf_51, zt_51_7, zo_51_7, d_D_outcomeOf_54, ci_5, d_D_outcomeOf_55, zt_55_5, zo_55_5, d_D_outcomeOf_58, cb_6, d_D_outcomeOf_60, d_D_outcomeOf_61, d_D_outcomeOf_63, d_D_outcomeOf_64, fl_D_187, d_D_outcomeOf_67, zt_67_13, zo_67_13, d_D_outcomeOf_70, d_D_outcomeOf_71, d_D_outcomeOf_72, d_D_outcomeOf_74, d_D_outcomeOf_77, zt_77_8, zo_77_8, d_D_outcomeOf_80, cb_7, d_D_outcomeOf_82, zt_82_5, zo_82_5, d_D_outcomeOf_85, cb_m21, d_D_outcomeOf_87, d_D_outcomeOf_88, cb_8, d_D_outcomeOf_90, d_D_outcomeOf_91, cb_9, d_D_outcomeOf_93, d_D_outcomeOf_94, d_D_outcomeOf_95, fl_D_144, d_D_outcomeOf_98, zt_98_23, zo_98_23, d_D_outcomeOf_101, d_D_outcomeOf_102, fl_D_22, d_D_outcomeOf_105, d_D_outcomeOf_106, d_D_outcomeOf_109, ci_2, d_D_outcomeOf_110, ci_m1, d_D_outcomeOf_111, d_D_outcomeOf_114, zt_114_7, zo_114_7, d_D_outcomeOf_117, ci_4, d_D_outcomeOf_118, zt_118_5, zo_118_5, d_D_outcomeOf_121, d_D_outcomeOf_123, za_0, za_i, za_r, za_n, za_l, zu_s, zu_u, Nat.reduceAdd, Nat.reduceLT, Nat.reduceBEq, Nat.zero_add, Bool.false_or, Bool.or_false, Bool.true_or, Bool.or_true, Bool.false_and, Bool.and_false, Bool.true_and, Bool.and_true, true_and, and_true, true_or, or_true, eq_self, Nat.le_refl, List.getElem?_cons_succ, List.getElem?_cons_zero, List.set_cons_succ, List.set_cons_zero, zk_0, zk_1, zk_2, zk_3, zk_4, zq_1, zq_2, Option.isSome_some, Option.getD_some, Option.toList_some, Option.toList_none, List.cons_append, List.nil_append, hM2, hI2, hF2, true_implies, false_implies, not_true_eq_false, not_false_eq_true, zn_10, Int32.reduceLT, Int32.reduceLE, implies_true, and_self]
  have kk : ∀ j : Int32, kind.toInt = j.toInt → kind = j := fun j q => Int32.toInt_inj.mp q
  have kn : ∀ j : Int32, ¬ kind.toInt = j.toInt → ¬ kind = j := fun j q w => q (by rw [w])
  have o0 : kind = 0 → zOut f n sv rc du (F 0) kind who proof = zHan f n sv rc du (F 0) who proof := fun q => by unfold zOut; rw [zci_t q]
  have o1 : kind = 1 → zOut f n sv rc du (F 0) kind who proof = zci (F 0 = 0) 5 6 := fun q => by subst q; unfold zOut; rw [zci_f (by decide), zci_t rfl]
  have o2 : kind = 2 → zOut f n sv rc du (F 0) kind who proof = zci (who = rc ∨ zOrd f n sv rc who) 7 (-21) := fun q => by subst q; unfold zOut; rw [zci_f (by decide), zci_f (by decide), zci_t rfl]
  have o3 : kind = 3 → zOut f n sv rc du (F 0) kind who proof = 8 := fun q => by subst q; unfold zOut; rw [zci_f (by decide), zci_f (by decide), zci_f (by decide), zci_t rfl]
  have o4 : kind = 4 → zOut f n sv rc du (F 0) kind who proof = 9 := fun q => by subst q; unfold zOut; rw [zci_f (by decide), zci_f (by decide), zci_f (by decide), zci_f (by decide), zci_t rfl]
  have o5 : (kind.toInt < 0 ∨ 4 < kind.toInt) → zOut f n sv rc du (F 0) kind who proof = zci (sv = 0 ∧ zIn f n (zcode rc 2 (-1))) 4 (-21) := fun q => by
    have a0 : ¬ kind = 0 := fun w => by rw [w] at q; revert q; decide
    have a1 : ¬ kind = 1 := fun w => by rw [w] at q; revert q; decide
    have a2 : ¬ kind = 2 := fun w => by rw [w] at q; revert q; decide
    have a3 : ¬ kind = 3 := fun w => by rw [w] at q; revert q; decide
    have a4 : ¬ kind = 4 := fun w => by rw [w] at q; revert q; decide
    unfold zOut; rw [zci_f a0, zci_f a1, zci_f a2, zci_f a3, zci_f a4]
  refine ⟨fun q => ⟨fun w => ?_, fun w => ?_⟩, fun q => ?_, fun q => ⟨fun w => ?_, fun w => ?_⟩, fun q => ⟨fun w => ?_, fun w => ?_⟩, fun q => ?_, fun q => ?_⟩
  · rw [o5 q, zci_f (fun y => w y.1)]
  · refine zJ_callV (As := [.int rc, .int 2, .int (-1)]) (rest := []) C d_D_outcomeOf_111 (c_N_stand l D dA z M cn tl n f rc 2 (-1) hH hT hn) k_D_194 n_N_stand v_N_stand hH rfl rfl ⟨(Nat.le_of_ble_eq_true rfl), (Nat.le_of_ble_eq_true rfl)⟩ ⟨(Nat.le_of_ble_eq_true rfl), (Nat.le_of_ble_eq_true rfl)⟩ rfl (Nat.le_of_ble_eq_true rfl) ?_
    rintro v M' ⟨rfl, hv⟩
    rcases hv with ⟨y, rfl⟩ | ⟨y, rfl⟩
    · refine zgo (cut := fun _ => false) 60 C lk_D hR ?_
      simp only [zs_iconst, zs_bipush, zs_iload_n, zs_iload, zs_aload_n, zs_if_eq, zs_if_ne, zs_icmp_eq, zs_goto, zs_tsw, zs_get, zs_ireturn, zx_iv, zx_is, zx_it, zx_nw, zx_na, zx_an, zx_cc, zx_gs, zx_as, zx_ae, zx_ac, zx_at, zr_seg, zr_t, zr_f, zr_tp, zr_fp, zr_lg, zr_lr, zr_lr0, zr_wi, zr_wr, zr_wn, zr_wl, zr_vo, zr_so, zr_sI, zr_sL, zr_sA, zr_sN, zr_in, zr_rd, zr_wr2, zr_kf, zr_k0, zr_k1, zr_k2, zr_k3, zr_k3n, zr_k10, zr_k11, zr_k12, zr_k13, zr_k13n, zr_ai, zr_af, zr_aw, zr_aL, zr_Lf, zr_Lw, zr_l2, zr_l20, zr_al, zr_an, zr_aq, zr_ag, zr_rfs, zr_rfn, zr_r1, zr_r2, zr_w0, zr_w1, zr_tl, zr_40, zr_41, zr_42, zr_43, d_D_outcomeOf_0, d_D_outcomeOf_1, sw_0, sw_1, sw_2, sw_3, sw_4, sw_5, sw_6, Int.reduceAdd, Int.zero_add, zt_1_93, zo_1_93, zt_1_35, zo_1_35, zt_1_46, zo_1_46, zt_1_60, zo_1_60, zt_1_87, zo_1_87, zt_1_90, zo_1_90, d_D_outcomeOf_36, d_D_outcomeOf_37, d_D_outcomeOf_38, d_D_outcomeOf_39, d_D_outcomeOf_41, d_D_outcomeOf_43, d_D_outcomeOf_46, d_D_outcomeOf_47, d_D_outcomeOf_48, fl_D_157, d_D_outcomeOf_51, zt_51_7, zo_51_7, d_D_outcomeOf_54, ci_5, d_D_outcomeOf_55, zt_55_5, zo_55_5, d_D_outcomeOf_58, cb_6, d_D_outcomeOf_60, d_D_outcomeOf_61, d_D_outcomeOf_63, d_D_outcomeOf_64, fl_D_187, d_D_outcomeOf_67, zt_67_13, zo_67_13, d_D_outcomeOf_70, d_D_outcomeOf_71, d_D_outcomeOf_72, d_D_outcomeOf_74, d_D_outcomeOf_77, zt_77_8, zo_77_8, d_D_outcomeOf_80, cb_7, d_D_outcomeOf_82, zt_82_5, zo_82_5, d_D_outcomeOf_85, cb_m21, d_D_outcomeOf_87, d_D_outcomeOf_88, cb_8, d_D_outcomeOf_90, d_D_outcomeOf_91, cb_9, d_D_outcomeOf_93, d_D_outcomeOf_94, d_D_outcomeOf_95, fl_D_144, d_D_outcomeOf_98, zt_98_23, zo_98_23, d_D_outcomeOf_101, d_D_outcomeOf_102, fl_D_22, d_D_outcomeOf_105, d_D_outcomeOf_106, d_D_outcomeOf_109, ci_2, d_D_outcomeOf_110, ci_m1, d_D_outcomeOf_111, d_D_outcomeOf_114, zt_114_7, zo_114_7, d_D_outcomeOf_117, ci_4, d_D_outcomeOf_118, zt_118_5, zo_118_5, d_D_outcomeOf_121, d_D_outcomeOf_123, za_0, za_i, za_r, za_n, za_l, zu_s, zu_u, Nat.reduceAdd, Nat.reduceLT, Nat.reduceBEq, Nat.zero_add, Bool.false_or, Bool.or_false, Bool.true_or, Bool.or_true, Bool.false_and, Bool.and_false, Bool.true_and, Bool.and_true, true_and, and_true, true_or, or_true, eq_self, Nat.le_refl, List.getElem?_cons_succ, List.getElem?_cons_zero, List.set_cons_succ, List.set_cons_zero, zk_0, zk_1, zk_2, zk_3, zk_4, zq_1, zq_2, Option.isSome_some, Option.getD_some, Option.toList_some, Option.toList_none, List.cons_append, List.nil_append, true_implies, false_implies, not_true_eq_false, not_false_eq_true, zn_10, Int32.reduceLT, Int32.reduceLE, implies_true, and_self]
      rw [o5 q, zci_t ⟨w, y⟩]
    · refine zgo (cut := fun _ => false) 60 C lk_D hR ?_
      simp only [zs_iconst, zs_bipush, zs_iload_n, zs_iload, zs_aload_n, zs_if_eq, zs_if_ne, zs_icmp_eq, zs_goto, zs_tsw, zs_get, zs_ireturn, zx_iv, zx_is, zx_it, zx_nw, zx_na, zx_an, zx_cc, zx_gs, zx_as, zx_ae, zx_ac, zx_at, zr_seg, zr_t, zr_f, zr_tp, zr_fp, zr_lg, zr_lr, zr_lr0, zr_wi, zr_wr, zr_wn, zr_wl, zr_vo, zr_so, zr_sI, zr_sL, zr_sA, zr_sN, zr_in, zr_rd, zr_wr2, zr_kf, zr_k0, zr_k1, zr_k2, zr_k3, zr_k3n, zr_k10, zr_k11, zr_k12, zr_k13, zr_k13n, zr_ai, zr_af, zr_aw, zr_aL, zr_Lf, zr_Lw, zr_l2, zr_l20, zr_al, zr_an, zr_aq, zr_ag, zr_rfs, zr_rfn, zr_r1, zr_r2, zr_w0, zr_w1, zr_tl, zr_40, zr_41, zr_42, zr_43, d_D_outcomeOf_0, d_D_outcomeOf_1, sw_0, sw_1, sw_2, sw_3, sw_4, sw_5, sw_6, Int.reduceAdd, Int.zero_add, zt_1_93, zo_1_93, zt_1_35, zo_1_35, zt_1_46, zo_1_46, zt_1_60, zo_1_60, zt_1_87, zo_1_87, zt_1_90, zo_1_90, d_D_outcomeOf_36, d_D_outcomeOf_37, d_D_outcomeOf_38, d_D_outcomeOf_39, d_D_outcomeOf_41, d_D_outcomeOf_43, d_D_outcomeOf_46, d_D_outcomeOf_47, d_D_outcomeOf_48, fl_D_157, d_D_outcomeOf_51, zt_51_7, zo_51_7, d_D_outcomeOf_54, ci_5, d_D_outcomeOf_55, zt_55_5, zo_55_5, d_D_outcomeOf_58, cb_6, d_D_outcomeOf_60, d_D_outcomeOf_61, d_D_outcomeOf_63, d_D_outcomeOf_64, fl_D_187, d_D_outcomeOf_67, zt_67_13, zo_67_13, d_D_outcomeOf_70, d_D_outcomeOf_71, d_D_outcomeOf_72, d_D_outcomeOf_74, d_D_outcomeOf_77, zt_77_8, zo_77_8, d_D_outcomeOf_80, cb_7, d_D_outcomeOf_82, zt_82_5, zo_82_5, d_D_outcomeOf_85, cb_m21, d_D_outcomeOf_87, d_D_outcomeOf_88, cb_8, d_D_outcomeOf_90, d_D_outcomeOf_91, cb_9, d_D_outcomeOf_93, d_D_outcomeOf_94, d_D_outcomeOf_95, fl_D_144, d_D_outcomeOf_98, zt_98_23, zo_98_23, d_D_outcomeOf_101, d_D_outcomeOf_102, fl_D_22, d_D_outcomeOf_105, d_D_outcomeOf_106, d_D_outcomeOf_109, ci_2, d_D_outcomeOf_110, ci_m1, d_D_outcomeOf_111, d_D_outcomeOf_114, zt_114_7, zo_114_7, d_D_outcomeOf_117, ci_4, d_D_outcomeOf_118, zt_118_5, zo_118_5, d_D_outcomeOf_121, d_D_outcomeOf_123, za_0, za_i, za_r, za_n, za_l, zu_s, zu_u, Nat.reduceAdd, Nat.reduceLT, Nat.reduceBEq, Nat.zero_add, Bool.false_or, Bool.or_false, Bool.true_or, Bool.or_true, Bool.false_and, Bool.and_false, Bool.true_and, Bool.and_true, true_and, and_true, true_or, or_true, eq_self, Nat.le_refl, List.getElem?_cons_succ, List.getElem?_cons_zero, List.set_cons_succ, List.set_cons_zero, zk_0, zk_1, zk_2, zk_3, zk_4, zq_1, zq_2, Option.isSome_some, Option.getD_some, Option.toList_some, Option.toList_none, List.cons_append, List.nil_append, true_implies, false_implies, not_true_eq_false, not_false_eq_true, zn_10, Int32.reduceLT, Int32.reduceLE, implies_true, and_self]
      rw [o5 q, zci_f (fun y2 => y y2.2)]
  · refine zJ_callV (As := [.ref it, .ref se, .int who, .int proof]) (rest := []) C d_D_outcomeOf_43 (c_D_handOutcome l D dA z M h L1 L2 cn dv tl n it fc se td f F nu sv rc du who proof hM hH hT hn hI hF) k_D_183 n_D_handOutcome v_D_handOutcome hM rfl rfl ⟨(Nat.le_of_ble_eq_true rfl), (Nat.le_of_ble_eq_true rfl)⟩ ⟨(Nat.le_of_ble_eq_true rfl), (Nat.le_of_ble_eq_true rfl)⟩ rfl (Nat.le_of_ble_eq_true rfl) ?_
    rintro v M' ⟨rfl, rfl⟩
    refine zgo (cut := fun _ => false) 60 C lk_D hR ?_
    simp only [zs_iconst, zs_bipush, zs_iload_n, zs_iload, zs_aload_n, zs_if_eq, zs_if_ne, zs_icmp_eq, zs_goto, zs_tsw, zs_get, zs_ireturn, zx_iv, zx_is, zx_it, zx_nw, zx_na, zx_an, zx_cc, zx_gs, zx_as, zx_ae, zx_ac, zx_at, zr_seg, zr_t, zr_f, zr_tp, zr_fp, zr_lg, zr_lr, zr_lr0, zr_wi, zr_wr, zr_wn, zr_wl, zr_vo, zr_so, zr_sI, zr_sL, zr_sA, zr_sN, zr_in, zr_rd, zr_wr2, zr_kf, zr_k0, zr_k1, zr_k2, zr_k3, zr_k3n, zr_k10, zr_k11, zr_k12, zr_k13, zr_k13n, zr_ai, zr_af, zr_aw, zr_aL, zr_Lf, zr_Lw, zr_l2, zr_l20, zr_al, zr_an, zr_aq, zr_ag, zr_rfs, zr_rfn, zr_r1, zr_r2, zr_w0, zr_w1, zr_tl, zr_40, zr_41, zr_42, zr_43, d_D_outcomeOf_0, d_D_outcomeOf_1, sw_0, sw_1, sw_2, sw_3, sw_4, sw_5, sw_6, Int.reduceAdd, Int.zero_add, zt_1_93, zo_1_93, zt_1_35, zo_1_35, zt_1_46, zo_1_46, zt_1_60, zo_1_60, zt_1_87, zo_1_87, zt_1_90, zo_1_90, d_D_outcomeOf_36, d_D_outcomeOf_37, d_D_outcomeOf_38, d_D_outcomeOf_39, d_D_outcomeOf_41, d_D_outcomeOf_43, d_D_outcomeOf_46, d_D_outcomeOf_47, d_D_outcomeOf_48, fl_D_157, d_D_outcomeOf_51, zt_51_7, zo_51_7, d_D_outcomeOf_54, ci_5, d_D_outcomeOf_55, zt_55_5, zo_55_5, d_D_outcomeOf_58, cb_6, d_D_outcomeOf_60, d_D_outcomeOf_61, d_D_outcomeOf_63, d_D_outcomeOf_64, fl_D_187, d_D_outcomeOf_67, zt_67_13, zo_67_13, d_D_outcomeOf_70, d_D_outcomeOf_71, d_D_outcomeOf_72, d_D_outcomeOf_74, d_D_outcomeOf_77, zt_77_8, zo_77_8, d_D_outcomeOf_80, cb_7, d_D_outcomeOf_82, zt_82_5, zo_82_5, d_D_outcomeOf_85, cb_m21, d_D_outcomeOf_87, d_D_outcomeOf_88, cb_8, d_D_outcomeOf_90, d_D_outcomeOf_91, cb_9, d_D_outcomeOf_93, d_D_outcomeOf_94, d_D_outcomeOf_95, fl_D_144, d_D_outcomeOf_98, zt_98_23, zo_98_23, d_D_outcomeOf_101, d_D_outcomeOf_102, fl_D_22, d_D_outcomeOf_105, d_D_outcomeOf_106, d_D_outcomeOf_109, ci_2, d_D_outcomeOf_110, ci_m1, d_D_outcomeOf_111, d_D_outcomeOf_114, zt_114_7, zo_114_7, d_D_outcomeOf_117, ci_4, d_D_outcomeOf_118, zt_118_5, zo_118_5, d_D_outcomeOf_121, d_D_outcomeOf_123, za_0, za_i, za_r, za_n, za_l, zu_s, zu_u, Nat.reduceAdd, Nat.reduceLT, Nat.reduceBEq, Nat.zero_add, Bool.false_or, Bool.or_false, Bool.true_or, Bool.or_true, Bool.false_and, Bool.and_false, Bool.true_and, Bool.and_true, true_and, and_true, true_or, or_true, eq_self, Nat.le_refl, List.getElem?_cons_succ, List.getElem?_cons_zero, List.set_cons_succ, List.set_cons_zero, zk_0, zk_1, zk_2, zk_3, zk_4, zq_1, zq_2, Option.isSome_some, Option.getD_some, Option.toList_some, Option.toList_none, List.cons_append, List.nil_append, true_implies, false_implies, not_true_eq_false, not_false_eq_true, zn_10, Int32.reduceLT, Int32.reduceLE, implies_true, and_self]
    rw [o0 (kk 0 q)]
  · rw [o1 (kk 1 q), zci_f w]
  · rw [o1 (kk 1 q), zci_t w]
  · rw [o2 (kk 2 q), zci_t (Or.inl w)]
  · refine zJ_callV (As := [.ref it, .int who]) (rest := []) C d_D_outcomeOf_74 (c_D_hasOrder l D dA z M h L1 L2 cn dv tl n it fc td f nu sv rc du who hM hH hT hn hI) k_D_190 n_D_hasOrder v_D_hasOrder hM rfl rfl ⟨(Nat.le_of_ble_eq_true rfl), (Nat.le_of_ble_eq_true rfl)⟩ ⟨(Nat.le_of_ble_eq_true rfl), (Nat.le_of_ble_eq_true rfl)⟩ rfl (Nat.le_of_ble_eq_true rfl) ?_
    rintro v M' ⟨rfl, rfl⟩
    by_cases g : zOrd f n sv rc who
    · rw [zci_t g]
      refine zgo (cut := fun _ => false) 60 C lk_D hR ?_
      simp only [zs_iconst, zs_bipush, zs_iload_n, zs_iload, zs_aload_n, zs_if_eq, zs_if_ne, zs_icmp_eq, zs_goto, zs_tsw, zs_get, zs_ireturn, zx_iv, zx_is, zx_it, zx_nw, zx_na, zx_an, zx_cc, zx_gs, zx_as, zx_ae, zx_ac, zx_at, zr_seg, zr_t, zr_f, zr_tp, zr_fp, zr_lg, zr_lr, zr_lr0, zr_wi, zr_wr, zr_wn, zr_wl, zr_vo, zr_so, zr_sI, zr_sL, zr_sA, zr_sN, zr_in, zr_rd, zr_wr2, zr_kf, zr_k0, zr_k1, zr_k2, zr_k3, zr_k3n, zr_k10, zr_k11, zr_k12, zr_k13, zr_k13n, zr_ai, zr_af, zr_aw, zr_aL, zr_Lf, zr_Lw, zr_l2, zr_l20, zr_al, zr_an, zr_aq, zr_ag, zr_rfs, zr_rfn, zr_r1, zr_r2, zr_w0, zr_w1, zr_tl, zr_40, zr_41, zr_42, zr_43, d_D_outcomeOf_0, d_D_outcomeOf_1, sw_0, sw_1, sw_2, sw_3, sw_4, sw_5, sw_6, Int.reduceAdd, Int.zero_add, zt_1_93, zo_1_93, zt_1_35, zo_1_35, zt_1_46, zo_1_46, zt_1_60, zo_1_60, zt_1_87, zo_1_87, zt_1_90, zo_1_90, d_D_outcomeOf_36, d_D_outcomeOf_37, d_D_outcomeOf_38, d_D_outcomeOf_39, d_D_outcomeOf_41, d_D_outcomeOf_43, d_D_outcomeOf_46, d_D_outcomeOf_47, d_D_outcomeOf_48, fl_D_157, d_D_outcomeOf_51, zt_51_7, zo_51_7, d_D_outcomeOf_54, ci_5, d_D_outcomeOf_55, zt_55_5, zo_55_5, d_D_outcomeOf_58, cb_6, d_D_outcomeOf_60, d_D_outcomeOf_61, d_D_outcomeOf_63, d_D_outcomeOf_64, fl_D_187, d_D_outcomeOf_67, zt_67_13, zo_67_13, d_D_outcomeOf_70, d_D_outcomeOf_71, d_D_outcomeOf_72, d_D_outcomeOf_74, d_D_outcomeOf_77, zt_77_8, zo_77_8, d_D_outcomeOf_80, cb_7, d_D_outcomeOf_82, zt_82_5, zo_82_5, d_D_outcomeOf_85, cb_m21, d_D_outcomeOf_87, d_D_outcomeOf_88, cb_8, d_D_outcomeOf_90, d_D_outcomeOf_91, cb_9, d_D_outcomeOf_93, d_D_outcomeOf_94, d_D_outcomeOf_95, fl_D_144, d_D_outcomeOf_98, zt_98_23, zo_98_23, d_D_outcomeOf_101, d_D_outcomeOf_102, fl_D_22, d_D_outcomeOf_105, d_D_outcomeOf_106, d_D_outcomeOf_109, ci_2, d_D_outcomeOf_110, ci_m1, d_D_outcomeOf_111, d_D_outcomeOf_114, zt_114_7, zo_114_7, d_D_outcomeOf_117, ci_4, d_D_outcomeOf_118, zt_118_5, zo_118_5, d_D_outcomeOf_121, d_D_outcomeOf_123, za_0, za_i, za_r, za_n, za_l, zu_s, zu_u, Nat.reduceAdd, Nat.reduceLT, Nat.reduceBEq, Nat.zero_add, Bool.false_or, Bool.or_false, Bool.true_or, Bool.or_true, Bool.false_and, Bool.and_false, Bool.true_and, Bool.and_true, true_and, and_true, true_or, or_true, eq_self, Nat.le_refl, List.getElem?_cons_succ, List.getElem?_cons_zero, List.set_cons_succ, List.set_cons_zero, zk_0, zk_1, zk_2, zk_3, zk_4, zq_1, zq_2, Option.isSome_some, Option.getD_some, Option.toList_some, Option.toList_none, List.cons_append, List.nil_append, true_implies, false_implies, not_true_eq_false, not_false_eq_true, zn_10, Int32.reduceLT, Int32.reduceLE, implies_true, and_self]
      rw [o2 (kk 2 q), zci_t (Or.inr g)]
    · rw [zci_f g]
      refine zgo (cut := fun _ => false) 60 C lk_D hR ?_
      simp only [zs_iconst, zs_bipush, zs_iload_n, zs_iload, zs_aload_n, zs_if_eq, zs_if_ne, zs_icmp_eq, zs_goto, zs_tsw, zs_get, zs_ireturn, zx_iv, zx_is, zx_it, zx_nw, zx_na, zx_an, zx_cc, zx_gs, zx_as, zx_ae, zx_ac, zx_at, zr_seg, zr_t, zr_f, zr_tp, zr_fp, zr_lg, zr_lr, zr_lr0, zr_wi, zr_wr, zr_wn, zr_wl, zr_vo, zr_so, zr_sI, zr_sL, zr_sA, zr_sN, zr_in, zr_rd, zr_wr2, zr_kf, zr_k0, zr_k1, zr_k2, zr_k3, zr_k3n, zr_k10, zr_k11, zr_k12, zr_k13, zr_k13n, zr_ai, zr_af, zr_aw, zr_aL, zr_Lf, zr_Lw, zr_l2, zr_l20, zr_al, zr_an, zr_aq, zr_ag, zr_rfs, zr_rfn, zr_r1, zr_r2, zr_w0, zr_w1, zr_tl, zr_40, zr_41, zr_42, zr_43, d_D_outcomeOf_0, d_D_outcomeOf_1, sw_0, sw_1, sw_2, sw_3, sw_4, sw_5, sw_6, Int.reduceAdd, Int.zero_add, zt_1_93, zo_1_93, zt_1_35, zo_1_35, zt_1_46, zo_1_46, zt_1_60, zo_1_60, zt_1_87, zo_1_87, zt_1_90, zo_1_90, d_D_outcomeOf_36, d_D_outcomeOf_37, d_D_outcomeOf_38, d_D_outcomeOf_39, d_D_outcomeOf_41, d_D_outcomeOf_43, d_D_outcomeOf_46, d_D_outcomeOf_47, d_D_outcomeOf_48, fl_D_157, d_D_outcomeOf_51, zt_51_7, zo_51_7, d_D_outcomeOf_54, ci_5, d_D_outcomeOf_55, zt_55_5, zo_55_5, d_D_outcomeOf_58, cb_6, d_D_outcomeOf_60, d_D_outcomeOf_61, d_D_outcomeOf_63, d_D_outcomeOf_64, fl_D_187, d_D_outcomeOf_67, zt_67_13, zo_67_13, d_D_outcomeOf_70, d_D_outcomeOf_71, d_D_outcomeOf_72, d_D_outcomeOf_74, d_D_outcomeOf_77, zt_77_8, zo_77_8, d_D_outcomeOf_80, cb_7, d_D_outcomeOf_82, zt_82_5, zo_82_5, d_D_outcomeOf_85, cb_m21, d_D_outcomeOf_87, d_D_outcomeOf_88, cb_8, d_D_outcomeOf_90, d_D_outcomeOf_91, cb_9, d_D_outcomeOf_93, d_D_outcomeOf_94, d_D_outcomeOf_95, fl_D_144, d_D_outcomeOf_98, zt_98_23, zo_98_23, d_D_outcomeOf_101, d_D_outcomeOf_102, fl_D_22, d_D_outcomeOf_105, d_D_outcomeOf_106, d_D_outcomeOf_109, ci_2, d_D_outcomeOf_110, ci_m1, d_D_outcomeOf_111, d_D_outcomeOf_114, zt_114_7, zo_114_7, d_D_outcomeOf_117, ci_4, d_D_outcomeOf_118, zt_118_5, zo_118_5, d_D_outcomeOf_121, d_D_outcomeOf_123, za_0, za_i, za_r, za_n, za_l, zu_s, zu_u, Nat.reduceAdd, Nat.reduceLT, Nat.reduceBEq, Nat.zero_add, Bool.false_or, Bool.or_false, Bool.true_or, Bool.or_true, Bool.false_and, Bool.and_false, Bool.true_and, Bool.and_true, true_and, and_true, true_or, or_true, eq_self, Nat.le_refl, List.getElem?_cons_succ, List.getElem?_cons_zero, List.set_cons_succ, List.set_cons_zero, zk_0, zk_1, zk_2, zk_3, zk_4, zq_1, zq_2, Option.isSome_some, Option.getD_some, Option.toList_some, Option.toList_none, List.cons_append, List.nil_append, true_implies, false_implies, not_true_eq_false, not_false_eq_true, zn_10, Int32.reduceLT, Int32.reduceLE, implies_true, and_self]
      rw [o2 (kk 2 q), zci_f (fun y => y.elim w g)]
  · rw [o3 (kk 3 q)]
  · rw [o4 (kk 4 q)]
abbrev zSaid (kind who proof : Int32) : Prop := 0 ≤ kind ∧ kind ≤ 5 ∧ -1 ≤ proof ∧ proof ≤ 399 ∧ ((0 ≤ who ∧ who < 100) ∨ (who = -1 ∧ kind ≠ 0 ∧ kind ≠ 2))
set_option maxHeartbeats 4000000 in
set_option maxRecDepth 100000 in
theorem c_D_isActAsSaid (l : Launch) (D : va_G) (dA : Nat → ClassId) (z : Nat) (M : zVw) (kind who proof : Int32) : zMet l y_D_isActAsSaid b_D_isActAsSaid 4 (some .boolean) 1 20 0 0 D dA z [.int kind, .int who, .int proof] M (fun v M' => M' = M ∧ v = some (.int (zb (zSaid kind who proof)))) := by
  refine z_of 2 false (by decide) (fun h => by first | rfl | cases h) (Nat.le_of_ble_eq_true rfl) trivial ?_
  intro p e s m args below meth c C hR
  have tail : ∀ b : Int32, (b = 0 ∨ b = 1) → (0 ≤ kind ∧ kind ≤ 5 ∧ -1 ≤ proof ∧ proof ≤ 399) → (b = 0 ↔ kind ≠ 0 ∧ kind ≠ 2) → zJ p l e (zR 1 20 0 0) s m args below meth c (MQ below (zQ D dA z (fun v M' => M' = M ∧ v = some (.int (zb (zSaid kind who proof))))) args s 0 0 (fun q => z ≤ q)) 4 z D 39 [(3, .int b), (0, .int kind), (1, .int who), (2, .int proof)] [.int who] M 0 0 := by
    intro b hb hk hb2
    refine zJ_callS (As := [.int who]) (rest := []) C d_D_isActAsSaid_39 (c_D_isPerson l D dA z M who) k_D_37 s_D_isPerson ⟨(Nat.le_of_ble_eq_true rfl), (Nat.le_of_ble_eq_true rfl)⟩ ⟨(Nat.le_of_ble_eq_true rfl), (Nat.le_of_ble_eq_true rfl)⟩ rfl (Nat.le_of_ble_eq_true rfl) ?_
    rintro v M' ⟨rfl, rfl⟩
    refine zgo (cut := fun _ => false) 60 C lk_D hR ?_
    simp only [zs_iconst, zs_sipush, zs_iload_n, zs_istore_n, zs_if_eq, zs_if_ne, zs_if_lt, zs_icmp_ne, zs_icmp_lt, zs_icmp_gt, zs_icmp_le, zs_goto, zs_ireturn, zx_iv, zx_is, zx_it, zx_nw, zx_na, zx_an, zx_cc, zx_gs, zx_as, zx_ae, zx_ac, zx_at, zr_seg, zr_t, zr_f, zr_tp, zr_fp, zr_lg, zr_lr, zr_lr0, zr_wi, zr_wr, zr_wn, zr_wl, zr_vo, zr_so, zr_sI, zr_sL, zr_sA, zr_sN, zr_in, zr_rd, zr_wr2, zr_kf, zr_k0, zr_k1, zr_k2, zr_k3, zr_k3n, zr_k10, zr_k11, zr_k12, zr_k13, zr_k13n, zr_ai, zr_af, zr_aw, zr_aL, zr_Lf, zr_Lw, zr_l2, zr_l20, zr_al, zr_an, zr_aq, zr_ag, zr_rfs, zr_rfn, zr_r1, zr_r2, zr_w0, zr_w1, zr_tl, zr_40, zr_41, zr_42, zr_43, d_D_isActAsSaid_0, d_D_isActAsSaid_1, zt_1_20, zo_1_20, d_D_isActAsSaid_4, d_D_isActAsSaid_5, ci_5, d_D_isActAsSaid_6, zt_6_15, zo_6_15, d_D_isActAsSaid_9, d_D_isActAsSaid_10, ci_m1, d_D_isActAsSaid_11, zt_11_10, zo_11_10, d_D_isActAsSaid_14, d_D_isActAsSaid_15, cs_399, d_D_isActAsSaid_18, zt_18_5, zo_18_5, d_D_isActAsSaid_21, ci_0, d_D_isActAsSaid_22, d_D_isActAsSaid_23, d_D_isActAsSaid_24, zt_24_8, zo_24_8, d_D_isActAsSaid_27, d_D_isActAsSaid_28, ci_2, d_D_isActAsSaid_29, zt_29_7, zo_29_7, d_D_isActAsSaid_32, ci_1, d_D_isActAsSaid_33, zt_33_4, zo_33_4, d_D_isActAsSaid_36, d_D_isActAsSaid_37, d_D_isActAsSaid_38, d_D_isActAsSaid_39, d_D_isActAsSaid_42, zt_42_12, zo_42_12, d_D_isActAsSaid_45, d_D_isActAsSaid_46, d_D_isActAsSaid_47, zt_47_11, zo_47_11, d_D_isActAsSaid_50, d_D_isActAsSaid_51, zt_51_7, zo_51_7, d_D_isActAsSaid_54, d_D_isActAsSaid_55, zt_55_4, zo_55_4, d_D_isActAsSaid_58, d_D_isActAsSaid_59, za_0, za_i, za_r, za_n, za_l, zu_s, zu_u, Nat.reduceAdd, Nat.reduceLT, Nat.reduceBEq, Nat.zero_add, Bool.false_or, Bool.or_false, Bool.true_or, Bool.or_true, Bool.false_and, Bool.and_false, Bool.true_and, Bool.and_true, true_and, and_true, true_or, or_true, eq_self, Nat.le_refl, List.getElem?_cons_succ, List.getElem?_cons_zero, List.set_cons_succ, List.set_cons_zero, zk_0, zk_1, zk_2, zk_3, zk_4, zq_1, zq_2, Option.isSome_some, Option.getD_some, Option.toList_some, Option.toList_none, List.cons_append, List.nil_append, zb_e0, true_implies, false_implies, not_true_eq_false, not_false_eq_true, zn_10, Int32.reduceLT, Int32.reduceLE, implies_true, and_self]
    clear hR C
    refine ⟨fun q => ?_, fun q => ⟨fun w => ?_, fun w => ⟨fun y => ?_, fun y => ?_⟩⟩⟩
    · rw [zb_t ⟨hk.1, hk.2.1, hk.2.2.1, hk.2.2.2, Or.inl (by (simp only [Int32.lt_iff_toInt_lt, Int32.le_iff_toInt_le, ← Int32.toInt_inj, Int32.reduceToInt] at *; omega))⟩]
    · rw [zb_f (fun g => g.2.2.2.2.elim q (fun g2 => w g2.1))]
    · rw [zb_f (fun g => g.2.2.2.2.elim q (fun g2 => y (hb2.mpr g2.2)))]
    · rw [zb_t ⟨hk.1, hk.2.1, hk.2.2.1, hk.2.2.2, Or.inr ⟨w, hb2.mp y⟩⟩]
  refine zgo (cut := fun _ => false) 60 C lk_D hR ?_
  simp only [zs_iconst, zs_sipush, zs_iload_n, zs_istore_n, zs_if_eq, zs_if_ne, zs_if_lt, zs_icmp_ne, zs_icmp_lt, zs_icmp_gt, zs_icmp_le, zs_goto, zs_ireturn, zx_iv, zx_is, zx_it, zx_nw, zx_na, zx_an, zx_cc, zx_gs, zx_as, zx_ae, zx_ac, zx_at, zr_seg, zr_t, zr_f, zr_tp, zr_fp, zr_lg, zr_lr, zr_lr0, zr_wi, zr_wr, zr_wn, zr_wl, zr_vo, zr_so, zr_sI, zr_sL, zr_sA, zr_sN, zr_in, zr_rd, zr_wr2, zr_kf, zr_k0, zr_k1, zr_k2, zr_k3, zr_k3n, zr_k10, zr_k11, zr_k12, zr_k13, zr_k13n, zr_ai, zr_af, zr_aw, zr_aL, zr_Lf, zr_Lw, zr_l2, zr_l20, zr_al, zr_an, zr_aq, zr_ag, zr_rfs, zr_rfn, zr_r1, zr_r2, zr_w0, zr_w1, zr_tl, zr_40, zr_41, zr_42, zr_43, d_D_isActAsSaid_0, d_D_isActAsSaid_1, zt_1_20, zo_1_20, d_D_isActAsSaid_4, d_D_isActAsSaid_5, ci_5, d_D_isActAsSaid_6, zt_6_15, zo_6_15, d_D_isActAsSaid_9, d_D_isActAsSaid_10, ci_m1, d_D_isActAsSaid_11, zt_11_10, zo_11_10, d_D_isActAsSaid_14, d_D_isActAsSaid_15, cs_399, d_D_isActAsSaid_18, zt_18_5, zo_18_5, d_D_isActAsSaid_21, ci_0, d_D_isActAsSaid_22, d_D_isActAsSaid_23, d_D_isActAsSaid_24, zt_24_8, zo_24_8, d_D_isActAsSaid_27, d_D_isActAsSaid_28, ci_2, d_D_isActAsSaid_29, zt_29_7, zo_29_7, d_D_isActAsSaid_32, ci_1, d_D_isActAsSaid_33, zt_33_4, zo_33_4, d_D_isActAsSaid_36, d_D_isActAsSaid_37, d_D_isActAsSaid_38, d_D_isActAsSaid_39, d_D_isActAsSaid_42, zt_42_12, zo_42_12, d_D_isActAsSaid_45, d_D_isActAsSaid_46, d_D_isActAsSaid_47, zt_47_11, zo_47_11, d_D_isActAsSaid_50, d_D_isActAsSaid_51, zt_51_7, zo_51_7, d_D_isActAsSaid_54, d_D_isActAsSaid_55, zt_55_4, zo_55_4, d_D_isActAsSaid_58, d_D_isActAsSaid_59, za_0, za_i, za_r, za_n, za_l, zu_s, zu_u, Nat.reduceAdd, Nat.reduceLT, Nat.reduceBEq, Nat.zero_add, Bool.false_or, Bool.or_false, Bool.true_or, Bool.or_true, Bool.false_and, Bool.and_false, Bool.true_and, Bool.and_true, true_and, and_true, true_or, or_true, eq_self, Nat.le_refl, List.getElem?_cons_succ, List.getElem?_cons_zero, List.set_cons_succ, List.set_cons_zero, zk_0, zk_1, zk_2, zk_3, zk_4, zq_1, zq_2, Option.isSome_some, Option.getD_some, Option.toList_some, Option.toList_none, List.cons_append, List.nil_append, true_implies, false_implies, not_true_eq_false, not_false_eq_true, zn_10, Int32.reduceLT, Int32.reduceLE, implies_true, and_self]
  refine ⟨fun q => ?_, fun q1 => ⟨fun q => ?_, fun q2 => ⟨fun q => ?_, fun q3 => ⟨fun q4 => ⟨fun q => ?_, fun q5 => ⟨fun q => ?_, fun q => ?_⟩⟩, fun q => ?_⟩⟩⟩⟩
  · clear hR C tail; first | (rw [zb_t (by (simp only [Int32.lt_iff_toInt_lt, Int32.le_iff_toInt_le, ← Int32.toInt_inj, Int32.reduceToInt, zSaid] at *; omega))]; done) | (rw [zb_f (by (simp only [Int32.lt_iff_toInt_lt, Int32.le_iff_toInt_le, ← Int32.toInt_inj, Int32.reduceToInt, zSaid] at *; omega))]; done)
  · clear hR C tail; first | (rw [zb_t (by (simp only [Int32.lt_iff_toInt_lt, Int32.le_iff_toInt_le, ← Int32.toInt_inj, Int32.reduceToInt, zSaid] at *; omega))]; done) | (rw [zb_f (by (simp only [Int32.lt_iff_toInt_lt, Int32.le_iff_toInt_le, ← Int32.toInt_inj, Int32.reduceToInt, zSaid] at *; omega))]; done)
  · clear hR C tail; first | (rw [zb_t (by (simp only [Int32.lt_iff_toInt_lt, Int32.le_iff_toInt_le, ← Int32.toInt_inj, Int32.reduceToInt, zSaid] at *; omega))]; done) | (rw [zb_f (by (simp only [Int32.lt_iff_toInt_lt, Int32.le_iff_toInt_le, ← Int32.toInt_inj, Int32.reduceToInt, zSaid] at *; omega))]; done)
  · exact tail 1 (Or.inr rfl) (by clear hR C tail; (simp only [Int32.lt_iff_toInt_lt, Int32.le_iff_toInt_le, ← Int32.toInt_inj, Int32.reduceToInt] at *; omega)) ⟨fun w => absurd w (by decide), fun w => absurd q w.1⟩
  · exact tail 0 (Or.inl rfl) (by clear hR C tail; (simp only [Int32.lt_iff_toInt_lt, Int32.le_iff_toInt_le, ← Int32.toInt_inj, Int32.reduceToInt] at *; omega)) ⟨fun _ => ⟨q5, q⟩, fun _ => rfl⟩
  · exact tail 1 (Or.inr rfl) (by clear hR C tail; (simp only [Int32.lt_iff_toInt_lt, Int32.le_iff_toInt_le, ← Int32.toInt_inj, Int32.reduceToInt] at *; omega)) ⟨fun w => absurd w (by decide), fun w => absurd q w.2⟩
  · clear hR C tail; first | (rw [zb_t (by (simp only [Int32.lt_iff_toInt_lt, Int32.le_iff_toInt_le, ← Int32.toInt_inj, Int32.reduceToInt, zSaid] at *; omega))]; done) | (rw [zb_f (by (simp only [Int32.lt_iff_toInt_lt, Int32.le_iff_toInt_le, ← Int32.toInt_inj, Int32.reduceToInt, zSaid] at *; omega))]; done)
set_option maxHeartbeats 4000000 in
set_option maxRecDepth 100000 in
theorem c_D_itemOf (l : Launch) (D : va_G) (dA : Nat → ClassId) (z : Nat) (M : zVw) (h L1 L2 cn dv ed n cap : Nat) (td : Int64) (mo x : Int32) (g : Nat → Option Nat) (ia : Nat → Nat) (hM : M h = some (zDo L1 L2 cn dv td)) (hL : zLs M dA L1 ed n cap g mo) (h4 : cap ≤ 20000) (hg : ∀ i, i < n → g i = some (ia i)) (hK : ∀ i, i < n → ∃ fs, M (ia i) = some (.inr (6, fs))) : zMet l y_D_itemOf b_D_itemOf 2 (some (.object "DoorActs$Item")) 4 104 0 0 D dA z [.ref h, .int x] M (fun v M' => M' = M ∧ ((∃ j, j < n ∧ x = nI (j + 1) ∧ v = some (.ref (ia j))) ∨ (¬ (1 ≤ x ∧ x ≤ nI n) ∧ v = some .null))) := by
  have hM2 := hM
  unfold zDo at hM2
  have hnc : n ≤ cap := by
    rcases hL.2 with ⟨_, q1, q2⟩ | ⟨_, q1, _⟩
    · omega
    · exact q1
  refine z_of 3 false (by decide) (fun h => by first | rfl | cases h) (Nat.le_of_ble_eq_true rfl) trivial ?_
  intro p e s m args below meth c C hR
  refine zgo (cut := fun _ => false) 60 C lk_D hR ?_
  simp only [zs_null, zs_iconst, zs_iload_n, zs_aload_n, zs_isub, zs_icmp_lt, zs_icmp_gt, zs_goto, zs_get, zs_areturn0, zs_areturn1, zx_iv, zx_is, zx_it, zx_nw, zx_na, zx_an, zx_cc, zx_gs, zx_as, zx_ae, zx_ac, zx_at, zr_seg, zr_t, zr_f, zr_tp, zr_fp, zr_lg, zr_lr, zr_lr0, zr_wi, zr_wr, zr_wn, zr_wl, zr_vo, zr_so, zr_sI, zr_sL, zr_sA, zr_sN, zr_in, zr_rd, zr_wr2, zr_kf, zr_k0, zr_k1, zr_k2, zr_k3, zr_k3n, zr_k10, zr_k11, zr_k12, zr_k13, zr_k13n, zr_ai, zr_af, zr_aw, zr_aL, zr_Lf, zr_Lw, zr_l2, zr_l20, zr_al, zr_an, zr_aq, zr_ag, zr_rfs, zr_rfn, zr_r1, zr_r2, zr_w0, zr_w1, zr_tl, zr_40, zr_41, zr_42, zr_43, d_D_itemOf_0, d_D_itemOf_1, ci_1, d_D_itemOf_2, zt_2_30, zo_2_30, d_D_itemOf_5, d_D_itemOf_6, d_D_itemOf_7, fl_D_12, d_D_itemOf_10, d_D_itemOf_13, zt_13_19, zo_13_19, d_D_itemOf_16, d_D_itemOf_17, d_D_itemOf_20, d_D_itemOf_21, d_D_itemOf_22, d_D_itemOf_23, d_D_itemOf_26, d_D_itemOf_29, zt_29_4, zo_29_4, d_D_itemOf_32, d_D_itemOf_33, za_0, za_i, za_r, za_n, za_l, zu_s, zu_u, Nat.reduceAdd, Nat.reduceLT, Nat.reduceBEq, Nat.zero_add, Bool.false_or, Bool.or_false, Bool.true_or, Bool.or_true, Bool.false_and, Bool.and_false, Bool.true_and, Bool.and_true, true_and, and_true, true_or, or_true, eq_self, Nat.le_refl, List.getElem?_cons_succ, List.getElem?_cons_zero, List.set_cons_succ, List.set_cons_zero, zk_0, zk_1, zk_2, zk_3, zk_4, zq_1, zq_2, Option.isSome_some, Option.getD_some, Option.toList_some, Option.toList_none, List.cons_append, List.nil_append, hM2, true_implies, false_implies, not_true_eq_false, not_false_eq_true, zn_10, Int32.reduceLT, Int32.reduceLE, implies_true, and_self]
  refine ⟨fun q => Or.inr (by clear hR C; (simp only [Int32.lt_iff_toInt_lt, Int32.le_iff_toInt_le, ← Int32.toInt_inj, Int32.reduceToInt] at *; omega)), fun q => ?_⟩
  refine zJ_callV (As := []) (rest := [.int x]) C d_D_itemOf_10 (c_L_size l D dA z M L1 ed n mo hL.1) k_D_41 n_L_size v_L_size hL.1 rfl rfl ⟨(Nat.le_of_ble_eq_true rfl), (Nat.le_of_ble_eq_true rfl)⟩ ⟨(Nat.le_of_ble_eq_true rfl), (Nat.le_of_ble_eq_true rfl)⟩ rfl (Nat.le_of_ble_eq_true rfl) ?_
  rintro v M' ⟨rfl, rfl⟩
  refine zgo (cut := fun _ => false) 60 C lk_D hR ?_
  simp only [zs_null, zs_iconst, zs_iload_n, zs_aload_n, zs_isub, zs_icmp_lt, zs_icmp_gt, zs_goto, zs_get, zs_areturn0, zs_areturn1, zx_iv, zx_is, zx_it, zx_nw, zx_na, zx_an, zx_cc, zx_gs, zx_as, zx_ae, zx_ac, zx_at, zr_seg, zr_t, zr_f, zr_tp, zr_fp, zr_lg, zr_lr, zr_lr0, zr_wi, zr_wr, zr_wn, zr_wl, zr_vo, zr_so, zr_sI, zr_sL, zr_sA, zr_sN, zr_in, zr_rd, zr_wr2, zr_kf, zr_k0, zr_k1, zr_k2, zr_k3, zr_k3n, zr_k10, zr_k11, zr_k12, zr_k13, zr_k13n, zr_ai, zr_af, zr_aw, zr_aL, zr_Lf, zr_Lw, zr_l2, zr_l20, zr_al, zr_an, zr_aq, zr_ag, zr_rfs, zr_rfn, zr_r1, zr_r2, zr_w0, zr_w1, zr_tl, zr_40, zr_41, zr_42, zr_43, d_D_itemOf_0, d_D_itemOf_1, ci_1, d_D_itemOf_2, zt_2_30, zo_2_30, d_D_itemOf_5, d_D_itemOf_6, d_D_itemOf_7, fl_D_12, d_D_itemOf_10, d_D_itemOf_13, zt_13_19, zo_13_19, d_D_itemOf_16, d_D_itemOf_17, d_D_itemOf_20, d_D_itemOf_21, d_D_itemOf_22, d_D_itemOf_23, d_D_itemOf_26, d_D_itemOf_29, zt_29_4, zo_29_4, d_D_itemOf_32, d_D_itemOf_33, za_0, za_i, za_r, za_n, za_l, zu_s, zu_u, Nat.reduceAdd, Nat.reduceLT, Nat.reduceBEq, Nat.zero_add, Bool.false_or, Bool.or_false, Bool.true_or, Bool.or_true, Bool.false_and, Bool.and_false, Bool.true_and, Bool.and_true, true_and, and_true, true_or, or_true, eq_self, Nat.le_refl, List.getElem?_cons_succ, List.getElem?_cons_zero, List.set_cons_succ, List.set_cons_zero, zk_0, zk_1, zk_2, zk_3, zk_4, zq_1, zq_2, Option.isSome_some, Option.getD_some, Option.toList_some, Option.toList_none, List.cons_append, List.nil_append, hM2, true_implies, false_implies, not_true_eq_false, not_false_eq_true, zn_10, Int32.reduceLT, Int32.reduceLE, implies_true, and_self]
  refine ⟨fun q2 => Or.inr (by clear hR C; (simp only [Int32.lt_iff_toInt_lt, Int32.le_iff_toInt_le, ← Int32.toInt_inj, Int32.reduceToInt] at *; omega)), fun q2 => ?_⟩
  obtain ⟨j, hj, hx⟩ : ∃ j, j < n ∧ x = nI (j + 1) := by
    have e1 : ¬ x < 0 := by clear hR C; (simp only [Int32.lt_iff_toInt_lt, Int32.le_iff_toInt_le, ← Int32.toInt_inj, Int32.reduceToInt] at *; omega)
    have e2 : x ≤ nI n := by clear hR C; (simp only [Int32.lt_iff_toInt_lt, Int32.le_iff_toInt_le, ← Int32.toInt_inj, Int32.reduceToInt] at *; omega)
    obtain ⟨j, j1, j2⟩ := nI_of2 (M := nI n) (n := n) (nI_toInt (by omega)) e1 e2
    cases j with
    | zero => exfalso; rw [j2] at q; exact q (by decide)
    | succ j => exact ⟨j, by omega, j2⟩
  have e1 : x - 1 = nI j := by rw [hx]; exact nI_pred j
  rcases hL.2 with ⟨_, w, _⟩ | ⟨hE, _, _⟩
  · omega
  rw [e1]
  refine zJ_callV (As := [.int (nI j)]) (rest := []) C d_D_itemOf_23 (c_L_get l D dA z M' L1 ed n cap j (ia j) mo g hL.1 hE hj hnc (by omega) (hg j hj)) k_D_109 n_L_get v_L_get hL.1 rfl rfl ⟨(Nat.le_of_ble_eq_true rfl), (Nat.le_of_ble_eq_true rfl)⟩ ⟨(Nat.le_of_ble_eq_true rfl), (Nat.le_of_ble_eq_true rfl)⟩ rfl (Nat.le_of_ble_eq_true rfl) ?_
  rintro v M'' ⟨rfl, rfl⟩
  obtain ⟨fs, hfs⟩ := hK j hj
  refine zJ_cast (ci := 6) (rest := []) C d_D_itemOf_26 (by decide +kernel) rfl rfl hfs ?_
  refine zgo (cut := fun _ => false) 60 C lk_D hR ?_
  simp only [zs_null, zs_iconst, zs_iload_n, zs_aload_n, zs_isub, zs_icmp_lt, zs_icmp_gt, zs_goto, zs_get, zs_areturn0, zs_areturn1, zx_iv, zx_is, zx_it, zx_nw, zx_na, zx_an, zx_cc, zx_gs, zx_as, zx_ae, zx_ac, zx_at, zr_seg, zr_t, zr_f, zr_tp, zr_fp, zr_lg, zr_lr, zr_lr0, zr_wi, zr_wr, zr_wn, zr_wl, zr_vo, zr_so, zr_sI, zr_sL, zr_sA, zr_sN, zr_in, zr_rd, zr_wr2, zr_kf, zr_k0, zr_k1, zr_k2, zr_k3, zr_k3n, zr_k10, zr_k11, zr_k12, zr_k13, zr_k13n, zr_ai, zr_af, zr_aw, zr_aL, zr_Lf, zr_Lw, zr_l2, zr_l20, zr_al, zr_an, zr_aq, zr_ag, zr_rfs, zr_rfn, zr_r1, zr_r2, zr_w0, zr_w1, zr_tl, zr_40, zr_41, zr_42, zr_43, d_D_itemOf_0, d_D_itemOf_1, ci_1, d_D_itemOf_2, zt_2_30, zo_2_30, d_D_itemOf_5, d_D_itemOf_6, d_D_itemOf_7, fl_D_12, d_D_itemOf_10, d_D_itemOf_13, zt_13_19, zo_13_19, d_D_itemOf_16, d_D_itemOf_17, d_D_itemOf_20, d_D_itemOf_21, d_D_itemOf_22, d_D_itemOf_23, d_D_itemOf_26, d_D_itemOf_29, zt_29_4, zo_29_4, d_D_itemOf_32, d_D_itemOf_33, za_0, za_i, za_r, za_n, za_l, zu_s, zu_u, Nat.reduceAdd, Nat.reduceLT, Nat.reduceBEq, Nat.zero_add, Bool.false_or, Bool.or_false, Bool.true_or, Bool.or_true, Bool.false_and, Bool.and_false, Bool.true_and, Bool.and_true, true_and, and_true, true_or, or_true, eq_self, Nat.le_refl, List.getElem?_cons_succ, List.getElem?_cons_zero, List.set_cons_succ, List.set_cons_zero, zk_0, zk_1, zk_2, zk_3, zk_4, zq_1, zq_2, Option.isSome_some, Option.getD_some, Option.toList_some, Option.toList_none, List.cons_append, List.nil_append, true_implies, false_implies, not_true_eq_false, not_false_eq_true, zn_10, Int32.reduceLT, Int32.reduceLE, implies_true, and_self]
  exact Or.inl ⟨j, hj, hx, rfl⟩
end
section
/-! THE STATE OF THE CLASS: each live object has an address A t i and a role zr t i; S, N, T are the state's numbers. -/
def zr (t i : Nat) : Nat := t * 100000 + i
def zAt (M : zVw) (rl : Nat → Nat) (x r : Nat) (e : va_E) : Prop := M x = some e ∧ rl x = r
def zLr (M : zVw) (rl : Nat → Nat) (dA : Nat → ClassId) (a ra ed re n : Nat) (ea : Nat → Nat) : Prop := ∃ (cap : Nat) (g : Nat → Option Nat) (mo : Int32), zLs M dA a ed n cap g mo ∧ cap ≤ 1000 ∧ rl a = ra ∧ (cap = 0 ∨ rl ed = re) ∧ ∀ i, i < n → g i = some (ea i)
def zRep (M : zVw) (rl : Nat → Nat) (dA : Nat → ClassId) (A : Nat → Nat → Nat) (S : Nat → Nat → Nat → Int32) (N : Nat → Nat → Nat) (T : Nat → Int64) : Prop :=
  zAt M rl (A 0 0) (zr 0 0) (zDo (A 0 1) (A 0 2) (A 0 3) (A 0 5) (T 8)) ∧
  zLr M rl dA (A 0 1) (zr 0 1) (A 0 6) (zr 0 6) (N 0 0) (A 1) ∧
  zLr M rl dA (A 0 2) (zr 0 2) (A 0 7) (zr 0 7) (N 1 0) (A 3) ∧
  zAt M rl (A 0 3) (zr 0 3) (zNo (A 0 4) (N 2 0)) ∧
  zAt M rl (A 0 4) (zr 0 4) (zIa dA 100 (S 3 0)) ∧
  (∃ g : Nat → Option Nat, zAt M rl (A 0 5) (zr 0 5) (.inl (dA 1, 8, .inr (.inr (.inr (.inr g))))) ∧ ∀ d, d < 8 → g d = some (A 4 d)) ∧
  (∀ j, j < N 0 0 → zAt M rl (A 1 j) (zr 1 j) (iA (nI (j + 1)) (S 0 j 1) (S 0 j 2) (A 2 j) (S 0 j 4)) ∧ zAt M rl (A 2 j) (zr 2 j) (fA (S 1 j)) ∧ (S 1 j 2 = 0 ∨ S 1 j 2 = 1)) ∧
  (∀ i, i < N 1 0 → zAt M rl (A 3 i) (zr 3 i) (.inr (2, [.int (S 2 i 0), .int (S 2 i 1), .int (S 2 i 2)]))) ∧
  (∀ d, d < 8 → zAt M rl (A 4 d) (zr 4 d) (zDv (S 4 d 0) (T d) (A 5 d) (A 6 d)) ∧ (S 4 d 0 = 0 ∨ S 4 d 0 = 1) ∧ zLr M rl dA (A 5 d) (zr 5 d) (A 7 d) (zr 7 d) (N 3 d) (fun j => A 9 (100 * d + j)) ∧ zLr M rl dA (A 6 d) (zr 6 d) (A 8 d) (zr 8 d) (N 4 d) (fun j => A 10 (100 * d + j)) ∧ N 3 d ≤ 30 ∧ N 4 d ≤ N 0 0) ∧
  (∀ d j, d < 8 → j < N 3 d → zAt M rl (A 9 (100 * d + j)) (zr 9 (100 * d + j)) (aA (A 1 (N 5 (100 * d + j))) (S 5 (100 * d + j))) ∧ N 5 (100 * d + j) < N 0 0) ∧
  (∀ d j, d < 8 → j < N 4 d → zAt M rl (A 10 (100 * d + j)) (zr 10 (100 * d + j)) (fA (S 6 (100 * d + j))) ∧ (S 6 (100 * d + j) 2 = 0 ∨ S 6 (100 * d + j) 2 = 1)) ∧
  N 0 0 ≤ 60 ∧ N 1 0 ≤ 512 ∧ N 2 0 ≤ 100
/-- what a step of the class leaves alone: the reference's cells, whose roles are five million and more -/
def zFr (M : zVw) (rl : Nat → Nat) (M' : zVw) (rl' : Nat → Nat) : Prop := ∀ x, M x ≠ none → 5000000 ≤ rl x → M' x = M x ∧ rl' x = rl x
theorem zFr_r (M : zVw) (rl : Nat → Nat) : zFr M rl M rl := fun _ _ _ => ⟨rfl, rfl⟩
theorem zAt_k {M M' : zVw} {rl : Nat → Nat} {x r r0 : Nat} {e : va_E} (hk : ∀ x, rl x ≠ r0 → M' x = M x) (h : zAt M rl x r e) (hne : r ≠ r0) : zAt M' rl x r e := ⟨by rw [hk x (by rw [h.2]; exact hne)]; exact h.1, h.2⟩
theorem zLr_k {M M' : zVw} {rl : Nat → Nat} {dA : Nat → ClassId} {a ra ed re n r0 : Nat} {ea : Nat → Nat} (hk : ∀ x, rl x ≠ r0 → M' x = M x) (h : zLr M rl dA a ra ed re n ea) (h1 : ra ≠ r0) (h2 : re ≠ r0) : zLr M' rl dA a ra ed re n ea := by
  obtain ⟨cap, g, mo, ⟨q1, q2⟩, q3, q4, q5, q6⟩ := h
  refine ⟨cap, g, mo, ⟨by rw [hk a (by rw [q4]; exact h1)]; exact q1, ?_⟩, q3, q4, q5, q6⟩
  rcases q2 with q2 | ⟨q7, q8, q9⟩
  · exact Or.inl q2
  · refine Or.inr ⟨?_, q8, q9⟩
    rcases q5 with q5 | q5
    · omega
    · rw [hk ed (by rw [q5]; exact h2)]; exact q7
theorem zu_k {M : zVw} {rl : Nat → Nat} {x0 r0 : Nat} {e : va_E} (h : rl x0 = r0) : ∀ x, rl x ≠ r0 → zu M x0 e x = M x := fun x hx => zu_n (fun q => hx (by rw [q]; exact h))
theorem zLr_get {M : zVw} {rl : Nat → Nat} {dA : Nat → ClassId} {a ra ed re n : Nat} {ea : Nat → Nat} (h : zLr M rl dA a ra ed re n ea) : ∃ (cap : Nat) (g : Nat → Option Nat) (mo : Int32), zLs M dA a ed n cap g mo ∧ cap ≤ 20000 ∧ ∀ i, i < n → g i = some (ea i) := by
  obtain ⟨cap, g, mo, q1, q2, q3, q4, q5⟩ := h
  exact ⟨cap, g, mo, q1, by omega, q5⟩
/-- itemOf over the state -/
theorem r_itemOf (l : Launch) (D : va_G) (dA : Nat → ClassId) (z : Nat) (M : zVw) (rl : Nat → Nat) (A : Nat → Nat → Nat) (S : Nat → Nat → Nat → Int32) (N : Nat → Nat → Nat) (T : Nat → Int64) (x : Int32) (hr : zRep M rl dA A S N T) : zMet l y_D_itemOf b_D_itemOf 2 (some (.object "DoorActs$Item")) 4 104 0 0 D dA z [.ref (A 0 0), .int x] M (fun v M' => M' = M ∧ ((∃ j, j < N 0 0 ∧ x = nI (j + 1) ∧ v = some (.ref (A 1 j))) ∨ (¬ (1 ≤ x ∧ x ≤ nI (N 0 0)) ∧ v = some .null))) := by
  obtain ⟨cap, g, mo, q1, q2, q3⟩ := zLr_get hr.2.1
  exact c_D_itemOf l D dA z M (A 0 0) _ _ _ _ _ _ cap (T 8) mo x g (A 1) hr.1.1 q1 q2 q3 (fun i hi => ⟨_, (hr.2.2.2.2.2.2.1 i hi).1.1⟩)
set_option maxHeartbeats 4000000 in
set_option maxRecDepth 100000 in
/-- tries -/
theorem c_D_tries (l : Launch) (D : va_G) (dA : Nat → ClassId) (z : Nat) (M : zVw) (rl : Nat → Nat) (A : Nat → Nat → Nat) (S : Nat → Nat → Nat → Int32) (N : Nat → Nat → Nat) (T : Nat → Int64) (x : Int32) (hr : zRep M rl dA A S N T) : zMet l y_D_tries b_D_tries 3 (some .int) 5 125 0 0 D dA z [.ref (A 0 0), .int x] M (fun v M' => M' = M ∧ ((∃ j, j < N 0 0 ∧ x = nI (j + 1) ∧ v = some (.int (S 1 j 3))) ∨ (¬ (1 ≤ x ∧ x ≤ nI (N 0 0)) ∧ v = some (.int (-11))))) := by
  refine z_of 1 false (by decide) (fun h => by first | rfl | cases h) (Nat.le_of_ble_eq_true rfl) trivial ?_
  intro p e s m args below meth c C hR
  refine zgo (cut := fun _ => false) 60 C lk_D hR ?_
  simp only [zs_bipush, zs_iload_n, zs_aload_n, zs_astore_n0, zs_astore_n1, zs_ifnonnull0, zs_ifnonnull1, zs_goto, zs_get, zs_ireturn, zx_iv, zx_is, zx_it, zx_nw, zx_na, zx_an, zx_cc, zx_gs, zx_as, zx_ae, zx_ac, zx_at, zr_seg, zr_t, zr_f, zr_tp, zr_fp, zr_lg, zr_lr, zr_lr0, zr_wi, zr_wr, zr_wn, zr_wl, zr_vo, zr_so, zr_sI, zr_sL, zr_sA, zr_sN, zr_in, zr_rd, zr_wr2, zr_kf, zr_k0, zr_k1, zr_k2, zr_k3, zr_k3n, zr_k10, zr_k11, zr_k12, zr_k13, zr_k13n, zr_ai, zr_af, zr_aw, zr_aL, zr_Lf, zr_Lw, zr_l2, zr_l20, zr_al, zr_an, zr_aq, zr_ag, zr_rfs, zr_rfn, zr_r1, zr_r2, zr_w0, zr_w1, zr_tl, zr_40, zr_41, zr_42, zr_43, d_D_tries_0, d_D_tries_1, d_D_tries_2, d_D_tries_5, d_D_tries_6, d_D_tries_7, zt_7_8, zo_7_8, d_D_tries_10, cb_m11, d_D_tries_12, zt_12_10, zo_12_10, d_D_tries_15, d_D_tries_16, fl_D_73, d_D_tries_19, fl_D_135, d_D_tries_22, za_0, za_i, za_r, za_n, za_l, zu_s, zu_u, Nat.reduceAdd, Nat.reduceLT, Nat.reduceBEq, Nat.zero_add, Bool.false_or, Bool.or_false, Bool.true_or, Bool.or_true, Bool.false_and, Bool.and_false, Bool.true_and, Bool.and_true, true_and, and_true, true_or, or_true, eq_self, Nat.le_refl, List.getElem?_cons_succ, List.getElem?_cons_zero, List.set_cons_succ, List.set_cons_zero, zk_0, zk_1, zk_2, zk_3, zk_4, zq_1, zq_2, Option.isSome_some, Option.getD_some, Option.toList_some, Option.toList_none, List.cons_append, List.nil_append, true_implies, false_implies, not_true_eq_false, not_false_eq_true, zn_10, Int32.reduceLT, Int32.reduceLE, implies_true, and_self]
  refine zJ_callV (As := [.int x]) (rest := []) C d_D_tries_2 (r_itemOf l D dA z M rl A S N T x hr) k_D_58 n_D_itemOf v_D_itemOf hr.1.1 rfl rfl ⟨(Nat.le_of_ble_eq_true rfl), (Nat.le_of_ble_eq_true rfl)⟩ ⟨(Nat.le_of_ble_eq_true rfl), (Nat.le_of_ble_eq_true rfl)⟩ rfl (Nat.le_of_ble_eq_true rfl) ?_
  rintro v M' ⟨rfl, hv⟩
  rcases hv with ⟨j, hj, hx, rfl⟩ | ⟨hx, rfl⟩
  · have a1 := (hr.2.2.2.2.2.2.1 j hj).1.1
    have a2 := (hr.2.2.2.2.2.2.1 j hj).2.1.1
    unfold iA at a1
    unfold fA at a2
    refine zgo (cut := fun _ => false) 60 C lk_D hR ?_
    simp only [zs_bipush, zs_iload_n, zs_aload_n, zs_astore_n0, zs_astore_n1, zs_ifnonnull0, zs_ifnonnull1, zs_goto, zs_get, zs_ireturn, zx_iv, zx_is, zx_it, zx_nw, zx_na, zx_an, zx_cc, zx_gs, zx_as, zx_ae, zx_ac, zx_at, zr_seg, zr_t, zr_f, zr_tp, zr_fp, zr_lg, zr_lr, zr_lr0, zr_wi, zr_wr, zr_wn, zr_wl, zr_vo, zr_so, zr_sI, zr_sL, zr_sA, zr_sN, zr_in, zr_rd, zr_wr2, zr_kf, zr_k0, zr_k1, zr_k2, zr_k3, zr_k3n, zr_k10, zr_k11, zr_k12, zr_k13, zr_k13n, zr_ai, zr_af, zr_aw, zr_aL, zr_Lf, zr_Lw, zr_l2, zr_l20, zr_al, zr_an, zr_aq, zr_ag, zr_rfs, zr_rfn, zr_r1, zr_r2, zr_w0, zr_w1, zr_tl, zr_40, zr_41, zr_42, zr_43, d_D_tries_0, d_D_tries_1, d_D_tries_2, d_D_tries_5, d_D_tries_6, d_D_tries_7, zt_7_8, zo_7_8, d_D_tries_10, cb_m11, d_D_tries_12, zt_12_10, zo_12_10, d_D_tries_15, d_D_tries_16, fl_D_73, d_D_tries_19, fl_D_135, d_D_tries_22, za_0, za_i, za_r, za_n, za_l, zu_s, zu_u, Nat.reduceAdd, Nat.reduceLT, Nat.reduceBEq, Nat.zero_add, Bool.false_or, Bool.or_false, Bool.true_or, Bool.or_true, Bool.false_and, Bool.and_false, Bool.true_and, Bool.and_true, true_and, and_true, true_or, or_true, eq_self, Nat.le_refl, List.getElem?_cons_succ, List.getElem?_cons_zero, List.set_cons_succ, List.set_cons_zero, zk_0, zk_1, zk_2, zk_3, zk_4, zq_1, zq_2, Option.isSome_some, Option.getD_some, Option.toList_some, Option.toList_none, List.cons_append, List.nil_append, a1, a2, true_implies, false_implies, not_true_eq_false, not_false_eq_true, zn_10, Int32.reduceLT, Int32.reduceLE, implies_true, and_self]
    exact Or.inl ⟨j, hj, hx, rfl⟩
  · refine zgo (cut := fun _ => false) 60 C lk_D hR ?_
    simp only [zs_bipush, zs_iload_n, zs_aload_n, zs_astore_n0, zs_astore_n1, zs_ifnonnull0, zs_ifnonnull1, zs_goto, zs_get, zs_ireturn, zx_iv, zx_is, zx_it, zx_nw, zx_na, zx_an, zx_cc, zx_gs, zx_as, zx_ae, zx_ac, zx_at, zr_seg, zr_t, zr_f, zr_tp, zr_fp, zr_lg, zr_lr, zr_lr0, zr_wi, zr_wr, zr_wn, zr_wl, zr_vo, zr_so, zr_sI, zr_sL, zr_sA, zr_sN, zr_in, zr_rd, zr_wr2, zr_kf, zr_k0, zr_k1, zr_k2, zr_k3, zr_k3n, zr_k10, zr_k11, zr_k12, zr_k13, zr_k13n, zr_ai, zr_af, zr_aw, zr_aL, zr_Lf, zr_Lw, zr_l2, zr_l20, zr_al, zr_an, zr_aq, zr_ag, zr_rfs, zr_rfn, zr_r1, zr_r2, zr_w0, zr_w1, zr_tl, zr_40, zr_41, zr_42, zr_43, d_D_tries_0, d_D_tries_1, d_D_tries_2, d_D_tries_5, d_D_tries_6, d_D_tries_7, zt_7_8, zo_7_8, d_D_tries_10, cb_m11, d_D_tries_12, zt_12_10, zo_12_10, d_D_tries_15, d_D_tries_16, fl_D_73, d_D_tries_19, fl_D_135, d_D_tries_22, za_0, za_i, za_r, za_n, za_l, zu_s, zu_u, Nat.reduceAdd, Nat.reduceLT, Nat.reduceBEq, Nat.zero_add, Bool.false_or, Bool.or_false, Bool.true_or, Bool.or_true, Bool.false_and, Bool.and_false, Bool.true_and, Bool.and_true, true_and, and_true, true_or, or_true, eq_self, Nat.le_refl, List.getElem?_cons_succ, List.getElem?_cons_zero, List.set_cons_succ, List.set_cons_zero, zk_0, zk_1, zk_2, zk_3, zk_4, zq_1, zq_2, Option.isSome_some, Option.getD_some, Option.toList_some, Option.toList_none, List.cons_append, List.nil_append, true_implies, false_implies, not_true_eq_false, not_false_eq_true, zn_10, Int32.reduceLT, Int32.reduceLE, implies_true, and_self]
    exact Or.inr hx
set_option maxHeartbeats 4000000 in
set_option maxRecDepth 100000 in
/-- state -/
theorem c_D_state (l : Launch) (D : va_G) (dA : Nat → ClassId) (z : Nat) (M : zVw) (rl : Nat → Nat) (A : Nat → Nat → Nat) (S : Nat → Nat → Nat → Int32) (N : Nat → Nat → Nat) (T : Nat → Int64) (x : Int32) (hr : zRep M rl dA A S N T) : zMet l y_D_state b_D_state 3 (some .int) 5 125 0 0 D dA z [.ref (A 0 0), .int x] M (fun v M' => M' = M ∧ ((∃ j, j < N 0 0 ∧ x = nI (j + 1) ∧ ((S 1 j 2 = 0 ∧ v = some (.int (S 1 j 0))) ∨ (S 1 j 2 ≠ 0 ∧ v = some (.int (S 1 j 0 + 10))))) ∨ (¬ (1 ≤ x ∧ x ≤ nI (N 0 0)) ∧ v = some (.int (-11))))) := by
  refine z_of 1 false (by decide) (fun h => by first | rfl | cases h) (Nat.le_of_ble_eq_true rfl) trivial ?_
  intro p e s m args below meth c C hR
  refine zgo (cut := fun _ => false) 60 C lk_D hR ?_
  simp only [zs_bipush, zs_iload_n, zs_aload_n, zs_astore_n0, zs_astore_n1, zs_iadd, zs_if_eq, zs_ifnonnull0, zs_ifnonnull1, zs_goto, zs_get, zs_ireturn, zx_iv, zx_is, zx_it, zx_nw, zx_na, zx_an, zx_cc, zx_gs, zx_as, zx_ae, zx_ac, zx_at, zr_seg, zr_t, zr_f, zr_tp, zr_fp, zr_lg, zr_lr, zr_lr0, zr_wi, zr_wr, zr_wn, zr_wl, zr_vo, zr_so, zr_sI, zr_sL, zr_sA, zr_sN, zr_in, zr_rd, zr_wr2, zr_kf, zr_k0, zr_k1, zr_k2, zr_k3, zr_k3n, zr_k10, zr_k11, zr_k12, zr_k13, zr_k13n, zr_ai, zr_af, zr_aw, zr_aL, zr_Lf, zr_Lw, zr_l2, zr_l20, zr_al, zr_an, zr_aq, zr_ag, zr_rfs, zr_rfn, zr_r1, zr_r2, zr_w0, zr_w1, zr_tl, zr_40, zr_41, zr_42, zr_43, d_D_state_0, d_D_state_1, d_D_state_2, d_D_state_5, d_D_state_6, d_D_state_7, zt_7_6, zo_7_6, d_D_state_10, cb_m11, d_D_state_12, d_D_state_13, d_D_state_14, fl_D_73, d_D_state_17, fl_D_163, d_D_state_20, zt_20_16, zo_20_16, d_D_state_23, d_D_state_24, d_D_state_27, fl_D_157, d_D_state_30, cb_10, d_D_state_32, d_D_state_33, zt_33_10, zo_33_10, d_D_state_36, d_D_state_37, d_D_state_40, d_D_state_43, za_0, za_i, za_r, za_n, za_l, zu_s, zu_u, Nat.reduceAdd, Nat.reduceLT, Nat.reduceBEq, Nat.zero_add, Bool.false_or, Bool.or_false, Bool.true_or, Bool.or_true, Bool.false_and, Bool.and_false, Bool.true_and, Bool.and_true, true_and, and_true, true_or, or_true, eq_self, Nat.le_refl, List.getElem?_cons_succ, List.getElem?_cons_zero, List.set_cons_succ, List.set_cons_zero, zk_0, zk_1, zk_2, zk_3, zk_4, zq_1, zq_2, Option.isSome_some, Option.getD_some, Option.toList_some, Option.toList_none, List.cons_append, List.nil_append, true_implies, false_implies, not_true_eq_false, not_false_eq_true, zn_10, Int32.reduceLT, Int32.reduceLE, implies_true, and_self]
  refine zJ_callV (As := [.int x]) (rest := []) C d_D_state_2 (r_itemOf l D dA z M rl A S N T x hr) k_D_58 n_D_itemOf v_D_itemOf hr.1.1 rfl rfl ⟨(Nat.le_of_ble_eq_true rfl), (Nat.le_of_ble_eq_true rfl)⟩ ⟨(Nat.le_of_ble_eq_true rfl), (Nat.le_of_ble_eq_true rfl)⟩ rfl (Nat.le_of_ble_eq_true rfl) ?_
  rintro v M' ⟨rfl, hv⟩
  rcases hv with ⟨j, hj, hx, rfl⟩ | ⟨hx, rfl⟩
  · have a1 := (hr.2.2.2.2.2.2.1 j hj).1.1
    have a2 := (hr.2.2.2.2.2.2.1 j hj).2.1.1
    unfold iA at a1
    unfold fA at a2
    refine zgo (cut := fun _ => false) 60 C lk_D hR ?_
    simp only [zs_bipush, zs_iload_n, zs_aload_n, zs_astore_n0, zs_astore_n1, zs_iadd, zs_if_eq, zs_ifnonnull0, zs_ifnonnull1, zs_goto, zs_get, zs_ireturn, zx_iv, zx_is, zx_it, zx_nw, zx_na, zx_an, zx_cc, zx_gs, zx_as, zx_ae, zx_ac, zx_at, zr_seg, zr_t, zr_f, zr_tp, zr_fp, zr_lg, zr_lr, zr_lr0, zr_wi, zr_wr, zr_wn, zr_wl, zr_vo, zr_so, zr_sI, zr_sL, zr_sA, zr_sN, zr_in, zr_rd, zr_wr2, zr_kf, zr_k0, zr_k1, zr_k2, zr_k3, zr_k3n, zr_k10, zr_k11, zr_k12, zr_k13, zr_k13n, zr_ai, zr_af, zr_aw, zr_aL, zr_Lf, zr_Lw, zr_l2, zr_l20, zr_al, zr_an, zr_aq, zr_ag, zr_rfs, zr_rfn, zr_r1, zr_r2, zr_w0, zr_w1, zr_tl, zr_40, zr_41, zr_42, zr_43, d_D_state_0, d_D_state_1, d_D_state_2, d_D_state_5, d_D_state_6, d_D_state_7, zt_7_6, zo_7_6, d_D_state_10, cb_m11, d_D_state_12, d_D_state_13, d_D_state_14, fl_D_73, d_D_state_17, fl_D_163, d_D_state_20, zt_20_16, zo_20_16, d_D_state_23, d_D_state_24, d_D_state_27, fl_D_157, d_D_state_30, cb_10, d_D_state_32, d_D_state_33, zt_33_10, zo_33_10, d_D_state_36, d_D_state_37, d_D_state_40, d_D_state_43, za_0, za_i, za_r, za_n, za_l, zu_s, zu_u, Nat.reduceAdd, Nat.reduceLT, Nat.reduceBEq, Nat.zero_add, Bool.false_or, Bool.or_false, Bool.true_or, Bool.or_true, Bool.false_and, Bool.and_false, Bool.true_and, Bool.and_true, true_and, and_true, true_or, or_true, eq_self, Nat.le_refl, List.getElem?_cons_succ, List.getElem?_cons_zero, List.set_cons_succ, List.set_cons_zero, zk_0, zk_1, zk_2, zk_3, zk_4, zq_1, zq_2, Option.isSome_some, Option.getD_some, Option.toList_some, Option.toList_none, List.cons_append, List.nil_append, a1, a2, true_implies, false_implies, not_true_eq_false, not_false_eq_true, zn_10, Int32.reduceLT, Int32.reduceLE, implies_true, and_self]
    exact ⟨fun q => Or.inl ⟨j, hj, hx, Or.inl ⟨q, rfl⟩⟩, fun q => Or.inl ⟨j, hj, hx, Or.inr ⟨q, rfl⟩⟩⟩
  · refine zgo (cut := fun _ => false) 60 C lk_D hR ?_
    simp only [zs_bipush, zs_iload_n, zs_aload_n, zs_astore_n0, zs_astore_n1, zs_iadd, zs_if_eq, zs_ifnonnull0, zs_ifnonnull1, zs_goto, zs_get, zs_ireturn, zx_iv, zx_is, zx_it, zx_nw, zx_na, zx_an, zx_cc, zx_gs, zx_as, zx_ae, zx_ac, zx_at, zr_seg, zr_t, zr_f, zr_tp, zr_fp, zr_lg, zr_lr, zr_lr0, zr_wi, zr_wr, zr_wn, zr_wl, zr_vo, zr_so, zr_sI, zr_sL, zr_sA, zr_sN, zr_in, zr_rd, zr_wr2, zr_kf, zr_k0, zr_k1, zr_k2, zr_k3, zr_k3n, zr_k10, zr_k11, zr_k12, zr_k13, zr_k13n, zr_ai, zr_af, zr_aw, zr_aL, zr_Lf, zr_Lw, zr_l2, zr_l20, zr_al, zr_an, zr_aq, zr_ag, zr_rfs, zr_rfn, zr_r1, zr_r2, zr_w0, zr_w1, zr_tl, zr_40, zr_41, zr_42, zr_43, d_D_state_0, d_D_state_1, d_D_state_2, d_D_state_5, d_D_state_6, d_D_state_7, zt_7_6, zo_7_6, d_D_state_10, cb_m11, d_D_state_12, d_D_state_13, d_D_state_14, fl_D_73, d_D_state_17, fl_D_163, d_D_state_20, zt_20_16, zo_20_16, d_D_state_23, d_D_state_24, d_D_state_27, fl_D_157, d_D_state_30, cb_10, d_D_state_32, d_D_state_33, zt_33_10, zo_33_10, d_D_state_36, d_D_state_37, d_D_state_40, d_D_state_43, za_0, za_i, za_r, za_n, za_l, zu_s, zu_u, Nat.reduceAdd, Nat.reduceLT, Nat.reduceBEq, Nat.zero_add, Bool.false_or, Bool.or_false, Bool.true_or, Bool.or_true, Bool.false_and, Bool.and_false, Bool.true_and, Bool.and_true, true_and, and_true, true_or, or_true, eq_self, Nat.le_refl, List.getElem?_cons_succ, List.getElem?_cons_zero, List.set_cons_succ, List.set_cons_zero, zk_0, zk_1, zk_2, zk_3, zk_4, zq_1, zq_2, Option.isSome_some, Option.getD_some, Option.toList_some, Option.toList_none, List.cons_append, List.nil_append, true_implies, false_implies, not_true_eq_false, not_false_eq_true, zn_10, Int32.reduceLT, Int32.reduceLE, implies_true, and_self]
    exact Or.inr hx
end
section
/-! HOW THE CLASS'S STATE MOVES, written by wip/whole/genupd.py. -/
def zS (S : Nat → Nat → Nat → Int32) (t i : Nat) (F : Nat → Int32) : Nat → Nat → Nat → Int32 := fun t' i' => if t' = t ∧ i' = i then F else S t' i'
theorem zS_e (S : Nat → Nat → Nat → Int32) (t i : Nat) (F : Nat → Int32) : zS S t i F t i = F := if_pos ⟨rfl, rfl⟩
theorem zS_n {S : Nat → Nat → Nat → Int32} {t i i' : Nat} {F : Nat → Int32} (h : i' ≠ i) : zS S t i F t i' = S t i' := if_neg (fun q => h q.2)
theorem zS_t {S : Nat → Nat → Nat → Int32} {t t' i i' : Nat} {F : Nat → Int32} (h : t' ≠ t) : zS S t i F t' i' = S t' i' := if_neg (fun q => h q.1)
set_option maxHeartbeats 4000000 in
set_option maxRecDepth 100000 in
theorem rep_facts {M : zVw} {rl : Nat → Nat} {dA : Nat → ClassId} {A : Nat → Nat → Nat} {S : Nat → Nat → Nat → Int32} {N : Nat → Nat → Nat} {T : Nat → Int64} {j0 : Nat} {F : Nat → Int32} (hr : zRep M rl dA A S N T) (hj0 : j0 < N 0 0) (hb : F 2 = 0 ∨ F 2 = 1) : zRep (zu M (A 2 j0) (fA F)) rl dA A (zS S 1 j0 F) N T := by
  obtain ⟨h1, h2, h3, h4, h5, ⟨g6, h6, h6b⟩, h7, h8, h9, h10, h11, b1, b2, b3⟩ := hr
  have hk := zu_k (M := M) (e := fA F) (h7 j0 hj0).2.1.2
  refine ⟨zAt_k hk h1 (by unfold zr; omega), zLr_k hk h2 (by unfold zr; omega) (by unfold zr; omega), zLr_k hk h3 (by unfold zr; omega) (by unfold zr; omega), zAt_k hk h4 (by unfold zr; omega), zAt_k hk h5 (by unfold zr; omega), ⟨g6, zAt_k hk h6 (by unfold zr; omega), h6b⟩, ?_, fun i hi => zAt_k hk (h8 i hi) (by unfold zr; omega), fun d hd => ⟨zAt_k hk (h9 d hd).1 (by unfold zr; omega), (h9 d hd).2.1, zLr_k hk (h9 d hd).2.2.1 (by unfold zr; omega) (by unfold zr; omega), zLr_k hk (h9 d hd).2.2.2.1 (by unfold zr; omega) (by unfold zr; omega), (h9 d hd).2.2.2.2⟩, fun d j hd hj => ⟨zAt_k hk (h10 d j hd hj).1 (by have := (h9 d hd).2.2.2.2; unfold zr; omega), (h10 d j hd hj).2⟩, fun d j hd hj => ⟨zAt_k hk (h11 d j hd hj).1 (by have := (h9 d hd).2.2.2.2; unfold zr; omega), (h11 d j hd hj).2⟩, ⟨b1, b2, b3⟩⟩
  intro j hj
  by_cases e : j = j0
  · subst e
    rw [zS_e]
    exact ⟨zAt_k hk (h7 j hj).1 (by unfold zr; omega), ⟨zu_s _ _ _, (h7 j hj).2.1.2⟩, hb⟩
  · rw [zS_n e]
    exact ⟨zAt_k hk (h7 j hj).1 (by unfold zr; omega), zAt_k hk (h7 j hj).2.1 (by unfold zr; omega), (h7 j hj).2.2⟩
set_option maxHeartbeats 4000000 in
set_option maxRecDepth 100000 in
theorem rep_due {M : zVw} {rl : Nat → Nat} {dA : Nat → ClassId} {A : Nat → Nat → Nat} {S : Nat → Nat → Nat → Int32} {N : Nat → Nat → Nat} {T : Nat → Int64} {j0 : Nat} {x : Int32} (hr : zRep M rl dA A S N T) (hj0 : j0 < N 0 0) : zRep (zu M (A 1 j0) (iA (nI (j0 + 1)) (S 0 j0 1) (S 0 j0 2) (A 2 j0) x)) rl dA A (zS S 0 j0 (upd (S 0 j0) 4 x)) N T := by
  obtain ⟨h1, h2, h3, h4, h5, ⟨g6, h6, h6b⟩, h7, h8, h9, h10, h11, b1, b2, b3⟩ := hr
  have hk := zu_k (M := M) (e := iA (nI (j0 + 1)) (S 0 j0 1) (S 0 j0 2) (A 2 j0) x) (h7 j0 hj0).1.2
  refine ⟨zAt_k hk h1 (by unfold zr; omega), zLr_k hk h2 (by unfold zr; omega) (by unfold zr; omega), zLr_k hk h3 (by unfold zr; omega) (by unfold zr; omega), zAt_k hk h4 (by unfold zr; omega), zAt_k hk h5 (by unfold zr; omega), ⟨g6, zAt_k hk h6 (by unfold zr; omega), h6b⟩, ?_, fun i hi => zAt_k hk (h8 i hi) (by unfold zr; omega), fun d hd => ⟨zAt_k hk (h9 d hd).1 (by unfold zr; omega), (h9 d hd).2.1, zLr_k hk (h9 d hd).2.2.1 (by unfold zr; omega) (by unfold zr; omega), zLr_k hk (h9 d hd).2.2.2.1 (by unfold zr; omega) (by unfold zr; omega), (h9 d hd).2.2.2.2⟩, fun d j hd hj => ⟨zAt_k hk (h10 d j hd hj).1 (by have := (h9 d hd).2.2.2.2; unfold zr; omega), (h10 d j hd hj).2⟩, fun d j hd hj => ⟨zAt_k hk (h11 d j hd hj).1 (by have := (h9 d hd).2.2.2.2; unfold zr; omega), (h11 d j hd hj).2⟩, ⟨b1, b2, b3⟩⟩
  intro j hj
  by_cases e : j = j0
  · subst e
    rw [zS_e]
    exact ⟨⟨zu_s _ _ _, (h7 j hj).1.2⟩, zAt_k hk (h7 j hj).2.1 (by unfold zr; omega), (h7 j hj).2.2⟩
  · rw [zS_n e]
    exact ⟨zAt_k hk (h7 j hj).1 (by unfold zr; omega), zAt_k hk (h7 j hj).2.1 (by unfold zr; omega), (h7 j hj).2.2⟩
set_option maxHeartbeats 4000000 in
set_option maxRecDepth 100000 in
theorem rep_known {M : zVw} {rl : Nat → Nat} {dA : Nat → ClassId} {A : Nat → Nat → Nat} {S : Nat → Nat → Nat → Int32} {N : Nat → Nat → Nat} {T : Nat → Int64} {d0 j0 : Nat} {F : Nat → Int32} (hr : zRep M rl dA A S N T) (hd0 : d0 < 8) (hj0 : j0 < N 4 d0) (hb : F 2 = 0 ∨ F 2 = 1) : zRep (zu M (A 10 (100 * d0 + j0)) (fA F)) rl dA A (zS S 6 (100 * d0 + j0) F) N T := by
  obtain ⟨h1, h2, h3, h4, h5, ⟨g6, h6, h6b⟩, h7, h8, h9, h10, h11, b1, b2, b3⟩ := hr
  have c0 := (h9 d0 hd0).2.2.2.2
  have hk := zu_k (M := M) (e := fA F) (h11 d0 j0 hd0 hj0).1.2
  refine ⟨zAt_k hk h1 (by unfold zr; omega), zLr_k hk h2 (by unfold zr; omega) (by unfold zr; omega), zLr_k hk h3 (by unfold zr; omega) (by unfold zr; omega), zAt_k hk h4 (by unfold zr; omega), zAt_k hk h5 (by unfold zr; omega), ⟨g6, zAt_k hk h6 (by unfold zr; omega), h6b⟩, fun j hj => ⟨zAt_k hk (h7 j hj).1 (by unfold zr; omega), zAt_k hk (h7 j hj).2.1 (by unfold zr; omega), (h7 j hj).2.2⟩, fun i hi => zAt_k hk (h8 i hi) (by unfold zr; omega), fun d hd => ⟨zAt_k hk (h9 d hd).1 (by unfold zr; omega), (h9 d hd).2.1, zLr_k hk (h9 d hd).2.2.1 (by unfold zr; omega) (by unfold zr; omega), zLr_k hk (h9 d hd).2.2.2.1 (by unfold zr; omega) (by unfold zr; omega), (h9 d hd).2.2.2.2⟩, fun d j hd hj => ⟨zAt_k hk (h10 d j hd hj).1 (by have := (h9 d hd).2.2.2.2; unfold zr; omega), (h10 d j hd hj).2⟩, ?_, ⟨b1, b2, b3⟩⟩
  intro d j hd hj
  have c1 := (h9 d hd).2.2.2.2
  by_cases e : 100 * d + j = 100 * d0 + j0
  · have e1 : d = d0 := by omega
    have e2 : j = j0 := by omega
    subst e1 e2
    rw [zS_e]
    exact ⟨⟨zu_s _ _ _, (h11 d j hd hj).1.2⟩, hb⟩
  · rw [zS_n e]
    exact ⟨zAt_k hk (h11 d j hd hj).1 (by unfold zr; omega), (h11 d j hd hj).2⟩
set_option maxHeartbeats 4000000 in
set_option maxRecDepth 100000 in
theorem rep_today {M : zVw} {rl : Nat → Nat} {dA : Nat → ClassId} {A : Nat → Nat → Nat} {S : Nat → Nat → Nat → Int32} {N : Nat → Nat → Nat} {T : Nat → Int64} {x : Int64} (hr : zRep M rl dA A S N T) : zRep (zu M (A 0 0) (zDo (A 0 1) (A 0 2) (A 0 3) (A 0 5) x)) rl dA A S N (va_up T 8 x) := by
  obtain ⟨h1, h2, h3, h4, h5, ⟨g6, h6, h6b⟩, h7, h8, h9, h10, h11, b1, b2, b3⟩ := hr
  have hk := zu_k (M := M) (e := zDo (A 0 1) (A 0 2) (A 0 3) (A 0 5) x) h1.2
  have e8 : va_up T 8 x 8 = x := va_up_self _ _ _
  have en : ∀ d, d < 8 → va_up T 8 x d = T d := fun d hd => va_up_ne _ _ (by omega)
  refine ⟨?_, zLr_k hk h2 (by unfold zr; omega) (by unfold zr; omega), zLr_k hk h3 (by unfold zr; omega) (by unfold zr; omega), zAt_k hk h4 (by unfold zr; omega), zAt_k hk h5 (by unfold zr; omega), ⟨g6, zAt_k hk h6 (by unfold zr; omega), h6b⟩, fun j hj => ⟨zAt_k hk (h7 j hj).1 (by unfold zr; omega), zAt_k hk (h7 j hj).2.1 (by unfold zr; omega), (h7 j hj).2.2⟩, fun i hi => zAt_k hk (h8 i hi) (by unfold zr; omega), ?_, fun d j hd hj => ⟨zAt_k hk (h10 d j hd hj).1 (by have := (h9 d hd).2.2.2.2; unfold zr; omega), (h10 d j hd hj).2⟩, fun d j hd hj => ⟨zAt_k hk (h11 d j hd hj).1 (by have := (h9 d hd).2.2.2.2; unfold zr; omega), (h11 d j hd hj).2⟩, ⟨b1, b2, b3⟩⟩
  · rw [e8]; exact ⟨zu_s _ _ _, h1.2⟩
  · intro d hd
    rw [en d hd]
    exact ⟨zAt_k hk (h9 d hd).1 (by unfold zr; omega), (h9 d hd).2.1, zLr_k hk (h9 d hd).2.2.1 (by unfold zr; omega) (by unfold zr; omega), zLr_k hk (h9 d hd).2.2.2.1 (by unfold zr; omega) (by unfold zr; omega), (h9 d hd).2.2.2.2⟩
set_option maxHeartbeats 4000000 in
set_option maxRecDepth 100000 in
theorem rep_dev {M : zVw} {rl : Nat → Nat} {dA : Nat → ClassId} {A : Nat → Nat → Nat} {S : Nat → Nat → Nat → Int32} {N : Nat → Nat → Nat} {T : Nat → Int64} {d0 : Nat} {x : Int32} {t : Int64} (hr : zRep M rl dA A S N T) (hd0 : d0 < 8) (hb : x = 0 ∨ x = 1) : zRep (zu M (A 4 d0) (zDv x t (A 5 d0) (A 6 d0))) rl dA A (zS S 4 d0 (fun _ => x)) N (va_up T d0 t) := by
  obtain ⟨h1, h2, h3, h4, h5, ⟨g6, h6, h6b⟩, h7, h8, h9, h10, h11, b1, b2, b3⟩ := hr
  have hk := zu_k (M := M) (e := zDv x t (A 5 d0) (A 6 d0)) (h9 d0 hd0).1.2
  have e8 : va_up T d0 t 8 = T 8 := va_up_ne _ _ (by omega)
  refine ⟨?_, zLr_k hk h2 (by unfold zr; omega) (by unfold zr; omega), zLr_k hk h3 (by unfold zr; omega) (by unfold zr; omega), zAt_k hk h4 (by unfold zr; omega), zAt_k hk h5 (by unfold zr; omega), ⟨g6, zAt_k hk h6 (by unfold zr; omega), h6b⟩, fun j hj => ⟨zAt_k hk (h7 j hj).1 (by unfold zr; omega), zAt_k hk (h7 j hj).2.1 (by unfold zr; omega), (h7 j hj).2.2⟩, fun i hi => zAt_k hk (h8 i hi) (by unfold zr; omega), ?_, fun d j hd hj => ⟨zAt_k hk (h10 d j hd hj).1 (by have := (h9 d hd).2.2.2.2; unfold zr; omega), (h10 d j hd hj).2⟩, fun d j hd hj => ⟨zAt_k hk (h11 d j hd hj).1 (by have := (h9 d hd).2.2.2.2; unfold zr; omega), (h11 d j hd hj).2⟩, ⟨b1, b2, b3⟩⟩
  · rw [e8]; exact zAt_k hk h1 (by unfold zr; omega)
  · intro d hd
    by_cases e : d = d0
    · subst e
      rw [zS_e, va_up_self]
      exact ⟨⟨zu_s _ _ _, (h9 d hd).1.2⟩, hb, zLr_k hk (h9 d hd).2.2.1 (by unfold zr; omega) (by unfold zr; omega), zLr_k hk (h9 d hd).2.2.2.1 (by unfold zr; omega) (by unfold zr; omega), (h9 d hd).2.2.2.2⟩
    · rw [zS_n e, va_up_ne _ _ e]
      exact ⟨zAt_k hk (h9 d hd).1 (by unfold zr; omega), (h9 d hd).2.1, zLr_k hk (h9 d hd).2.2.1 (by unfold zr; omega) (by unfold zr; omega), zLr_k hk (h9 d hd).2.2.2.1 (by unfold zr; omega) (by unfold zr; omega), (h9 d hd).2.2.2.2⟩
def zN1 (N : Nat → Nat → Nat) (t i x : Nat) : Nat → Nat → Nat := fun t' i' => if t' = t ∧ i' = i then x else N t' i'
theorem zN_e (N : Nat → Nat → Nat) (t i x : Nat) : zN1 N t i x t i = x := if_pos ⟨rfl, rfl⟩
theorem zN_n {N : Nat → Nat → Nat} {t i x i' : Nat} (h : i' ≠ i) : zN1 N t i x t i' = N t i' := if_neg (fun q => h q.2)
theorem zN_t {N : Nat → Nat → Nat} {t t' i i' x : Nat} (h : t' ≠ t) : zN1 N t i x t' i' = N t' i' := if_neg (fun q => h q.1)
set_option maxHeartbeats 4000000 in
set_option maxRecDepth 100000 in
theorem rep_count {M : zVw} {rl : Nat → Nat} {dA : Nat → ClassId} {A : Nat → Nat → Nat} {S : Nat → Nat → Nat → Int32} {N : Nat → Nat → Nat} {T : Nat → Int64} {x : Nat} (hr : zRep M rl dA A S N T) (hx : x ≤ 100) : zRep (zu M (A 0 3) (zNo (A 0 4) x)) rl dA A S (zN1 N 2 0 x) T := by
  obtain ⟨h1, h2, h3, h4, h5, ⟨g6, h6, h6b⟩, h7, h8, h9, h10, h11, b1, b2, b3⟩ := hr
  have hk := zu_k (M := M) (e := zNo (A 0 4) x) h4.2
  have e0 : zN1 N 2 0 x 0 0 = N 0 0 := zN_t (by decide)
  have e1 : zN1 N 2 0 x 1 0 = N 1 0 := zN_t (by decide)
  have e3 : ∀ d, zN1 N 2 0 x 3 d = N 3 d := fun d => zN_t (by decide)
  have e4 : ∀ d, zN1 N 2 0 x 4 d = N 4 d := fun d => zN_t (by decide)
  have e5 : ∀ d, zN1 N 2 0 x 5 d = N 5 d := fun d => zN_t (by decide)
  unfold zRep
  simp only [e0, e1, e3, e4, e5, zN_e]
  exact ⟨zAt_k hk h1 (by unfold zr; omega), zLr_k hk h2 (by unfold zr; omega) (by unfold zr; omega), zLr_k hk h3 (by unfold zr; omega) (by unfold zr; omega), ⟨zu_s _ _ _, h4.2⟩, zAt_k hk h5 (by unfold zr; omega), ⟨g6, zAt_k hk h6 (by unfold zr; omega), h6b⟩, fun j hj => ⟨zAt_k hk (h7 j hj).1 (by unfold zr; omega), zAt_k hk (h7 j hj).2.1 (by unfold zr; omega), (h7 j hj).2.2⟩, fun i hi => zAt_k hk (h8 i hi) (by unfold zr; omega), fun d hd => ⟨zAt_k hk (h9 d hd).1 (by unfold zr; omega), (h9 d hd).2.1, zLr_k hk (h9 d hd).2.2.1 (by unfold zr; omega) (by unfold zr; omega), zLr_k hk (h9 d hd).2.2.2.1 (by unfold zr; omega) (by unfold zr; omega), (h9 d hd).2.2.2.2⟩, fun d j hd hj => ⟨zAt_k hk (h10 d j hd hj).1 (by have := (h9 d hd).2.2.2.2; unfold zr; omega), (h10 d j hd hj).2⟩, fun d j hd hj => ⟨zAt_k hk (h11 d j hd hj).1 (by have := (h9 d hd).2.2.2.2; unfold zr; omega), (h11 d j hd hj).2⟩, ⟨b1, b2, hx⟩⟩
set_option maxHeartbeats 4000000 in
set_option maxRecDepth 100000 in
theorem rep_codes {M : zVw} {rl : Nat → Nat} {dA : Nat → ClassId} {A : Nat → Nat → Nat} {S : Nat → Nat → Nat → Int32} {N : Nat → Nat → Nat} {T : Nat → Int64} {f : Nat → Int32} (hr : zRep M rl dA A S N T) : zRep (zu M (A 0 4) (zIa dA 100 f)) rl dA A (zS S 3 0 f) N T := by
  obtain ⟨h1, h2, h3, h4, h5, ⟨g6, h6, h6b⟩, h7, h8, h9, h10, h11, b1, b2, b3⟩ := hr
  have hk := zu_k (M := M) (e := zIa dA 100 f) h5.2
  exact ⟨zAt_k hk h1 (by unfold zr; omega), zLr_k hk h2 (by unfold zr; omega) (by unfold zr; omega), zLr_k hk h3 (by unfold zr; omega) (by unfold zr; omega), zAt_k hk h4 (by unfold zr; omega), ⟨zu_s _ _ _, h5.2⟩, ⟨g6, zAt_k hk h6 (by unfold zr; omega), h6b⟩, fun j hj => ⟨zAt_k hk (h7 j hj).1 (by unfold zr; omega), zAt_k hk (h7 j hj).2.1 (by unfold zr; omega), (h7 j hj).2.2⟩, fun i hi => zAt_k hk (h8 i hi) (by unfold zr; omega), fun d hd => ⟨zAt_k hk (h9 d hd).1 (by unfold zr; omega), (h9 d hd).2.1, zLr_k hk (h9 d hd).2.2.1 (by unfold zr; omega) (by unfold zr; omega), zLr_k hk (h9 d hd).2.2.2.1 (by unfold zr; omega) (by unfold zr; omega), (h9 d hd).2.2.2.2⟩, fun d j hd hj => ⟨zAt_k hk (h10 d j hd hj).1 (by have := (h9 d hd).2.2.2.2; unfold zr; omega), (h10 d j hd hj).2⟩, fun d j hd hj => ⟨zAt_k hk (h11 d j hd hj).1 (by have := (h9 d hd).2.2.2.2; unfold zr; omega), (h11 d j hd hj).2⟩, ⟨b1, b2, b3⟩⟩
end
section
/-! CALLS of the class over its state: slip, cash, clash, consent. -/
theorem zFr_u {M : zVw} {rl : Nat → Nat} {x0 : Nat} {e : va_E} (h : rl x0 < 5000000) : zFr M rl (zu M x0 e) rl := fun x _ hx => ⟨zu_n (fun q => by rw [q] at hx; omega), rfl⟩
theorem zFr_t {M M' M'' : zVw} {rl rl' rl'' : Nat → Nat} (h1 : zFr M rl M' rl') (h2 : zFr M' rl' M'' rl'') : zFr M rl M'' rl'' := fun x hx hr => by
  obtain ⟨a1, a2⟩ := h1 x hx hr
  obtain ⟨b1, b2⟩ := h2 x (by rw [a1]; exact hx) (by rw [a2]; exact hr)
  exact ⟨b1.trans a1, b2.trans a2⟩
def zSlip (S : Nat → Nat → Nat → Int32) (N : Nat → Nat → Nat) (x who v : Int32) (S' : Nat → Nat → Nat → Int32) : Prop :=
  (¬ (1 ≤ x ∧ x ≤ nI (N 0 0)) ∧ v = -11 ∧ S' = S) ∨ ∃ j, j < N 0 0 ∧ x = nI (j + 1) ∧
    ((¬ (who = -1 ∨ (0 ≤ who ∧ who < 100)) ∧ v = -12 ∧ S' = S) ∨ ((who = -1 ∨ (0 ≤ who ∧ who < 100)) ∧
      ((¬ (S 0 j 1 = 4 ∧ (3 ≤ S 1 j 0 ∧ S 1 j 0 ≤ 6) ∧ S 1 j 9 = (if who = -1 then 1 else 0)) ∧ v = -13 ∧ S' = S) ∨
        ((S 0 j 1 = 4 ∧ (3 ≤ S 1 j 0 ∧ S 1 j 0 ≤ 6) ∧ S 1 j 9 = (if who = -1 then 1 else 0)) ∧
          ((who ≠ -1 ∧ who ≠ S 1 j 8 ∧ v = -21 ∧ S' = S) ∨ ((who = -1 ∨ who = S 1 j 8) ∧ v = (if who = -1 then 2 else 1) ∧ S' = zS S 1 j (upd (S 1 j) 9 v)))))))
set_option maxHeartbeats 4000000 in
set_option maxRecDepth 100000 in
/-- slip -/
theorem c_D_slip (l : Launch) (D : va_G) (dA : Nat → ClassId) (z : Nat) (M : zVw) (rl : Nat → Nat) (A : Nat → Nat → Nat) (S : Nat → Nat → Nat → Int32) (N : Nat → Nat → Nat) (T : Nat → Int64) (x who : Int32) (hr : zRep M rl dA A S N T) : zMet l y_D_slip b_D_slip 6 (some .int) 5 125 0 0 D dA z [.ref (A 0 0), .int x, .int who] M (fun v M' => ∃ r S', v = some (.int r) ∧ zRep M' rl dA A S' N T ∧ zFr M rl M' rl ∧ zSlip S N x who r S') := by
  refine z_of 1 false (by decide) (fun h => by first | rfl | cases h) (Nat.le_of_ble_eq_true rfl) trivial ?_
  intro p e s m args below meth c C hR
  refine zgo (cut := fun _ => false) 60 C lk_D hR ?_
  simp only [zs_iconst, zs_bipush, zs_iload_n, zs_iload, zs_aload_n, zs_aload, zs_astore_n0, zs_astore_n1, zs_istore, zs_astore0, zs_astore1, zs_if_eq, zs_if_ne, zs_icmp_eq, zs_icmp_ne, zs_ifnonnull0, zs_ifnonnull1, zs_goto, zs_get, zs_put, zs_ireturn, zx_iv, zx_is, zx_it, zx_nw, zx_na, zx_an, zx_cc, zx_gs, zx_as, zx_ae, zx_ac, zx_at, zr_seg, zr_t, zr_f, zr_tp, zr_fp, zr_lg, zr_lr, zr_lr0, zr_wi, zr_wr, zr_wn, zr_wl, zr_vo, zr_so, zr_sI, zr_sL, zr_sA, zr_sN, zr_in, zr_rd, zr_wr2, zr_kf, zr_k0, zr_k1, zr_k2, zr_k3, zr_k3n, zr_k10, zr_k11, zr_k12, zr_k13, zr_k13n, zr_ai, zr_af, zr_aw, zr_aL, zr_Lf, zr_Lw, zr_l2, zr_l20, zr_al, zr_an, zr_aq, zr_ag, zr_rfs, zr_rfn, zr_r1, zr_r2, zr_w0, zr_w1, zr_tl, zr_40, zr_41, zr_42, zr_43, d_D_slip_0, d_D_slip_1, d_D_slip_2, d_D_slip_5, d_D_slip_6, d_D_slip_7, zt_7_6, zo_7_6, d_D_slip_10, cb_m11, d_D_slip_12, d_D_slip_13, d_D_slip_14, ci_m1, d_D_slip_15, zt_15_13, zo_15_13, d_D_slip_18, d_D_slip_19, d_D_slip_22, zt_22_6, zo_22_6, d_D_slip_25, cb_m12, d_D_slip_27, d_D_slip_28, d_D_slip_29, fl_D_73, d_D_slip_32, d_D_slip_34, d_D_slip_35, d_D_slip_36, zt_36_7, zo_36_7, d_D_slip_39, ci_1, d_D_slip_40, zt_40_4, zo_40_4, d_D_slip_43, ci_0, d_D_slip_44, d_D_slip_46, d_D_slip_47, fl_D_144, d_D_slip_50, ci_4, d_D_slip_51, zt_51_21, zo_51_21, d_D_slip_54, d_D_slip_56, d_D_slip_59, zt_59_13, zo_59_13, d_D_slip_62, d_D_slip_64, fl_D_151, d_D_slip_67, d_D_slip_69, zt_69_6, zo_69_6, d_D_slip_72, cb_m13, d_D_slip_74, d_D_slip_75, d_D_slip_76, d_D_slip_77, zt_77_15, zo_77_15, d_D_slip_80, d_D_slip_81, d_D_slip_83, fl_D_154, d_D_slip_86, zt_86_6, zo_86_6, d_D_slip_89, cb_m21, d_D_slip_91, d_D_slip_92, d_D_slip_94, d_D_slip_95, d_D_slip_96, zt_96_7, zo_96_7, d_D_slip_99, ci_2, d_D_slip_100, zt_100_4, zo_100_4, d_D_slip_103, d_D_slip_104, d_D_slip_107, d_D_slip_109, d_D_slip_112, za_0, za_i, za_r, za_n, za_l, zu_s, zu_u, Nat.reduceAdd, Nat.reduceLT, Nat.reduceBEq, Nat.zero_add, Bool.false_or, Bool.or_false, Bool.true_or, Bool.or_true, Bool.false_and, Bool.and_false, Bool.true_and, Bool.and_true, true_and, and_true, true_or, or_true, eq_self, Nat.le_refl, List.getElem?_cons_succ, List.getElem?_cons_zero, List.set_cons_succ, List.set_cons_zero, zk_0, zk_1, zk_2, zk_3, zk_4, zq_1, zq_2, Option.isSome_some, Option.getD_some, Option.toList_some, Option.toList_none, List.cons_append, List.nil_append, true_implies, false_implies, not_true_eq_false, not_false_eq_true, zn_10, Int32.reduceLT, Int32.reduceLE, implies_true, and_self]
  refine zJ_callV (As := [.int x]) (rest := []) C d_D_slip_2 (r_itemOf l D dA z M rl A S N T x hr) k_D_58 n_D_itemOf v_D_itemOf hr.1.1 rfl rfl ⟨(Nat.le_of_ble_eq_true rfl), (Nat.le_of_ble_eq_true rfl)⟩ ⟨(Nat.le_of_ble_eq_true rfl), (Nat.le_of_ble_eq_true rfl)⟩ rfl (Nat.le_of_ble_eq_true rfl) ?_
  rintro v M' ⟨rfl, hv⟩
  rcases hv with ⟨j, hj, hx, rfl⟩ | ⟨hx, rfl⟩
  · have a1 := (hr.2.2.2.2.2.2.1 j hj).1.1
    have a2 := (hr.2.2.2.2.2.2.1 j hj).2.1.1
    have hf := a2
    have hrl : rl (A 2 j) < 5000000 := by rw [(hr.2.2.2.2.2.2.1 j hj).2.1.2]; have := hr.2.2.2.2.2.2.2.2.2.2.2.1; unfold zr; omega
    unfold iA at a1
    unfold fA at a2
    by_cases hw : who = -1
    · subst hw
      refine zgo (cut := fun _ => false) 60 C lk_D hR ?_
      simp only [zs_iconst, zs_bipush, zs_iload_n, zs_iload, zs_aload_n, zs_aload, zs_astore_n0, zs_astore_n1, zs_istore, zs_astore0, zs_astore1, zs_if_eq, zs_if_ne, zs_icmp_eq, zs_icmp_ne, zs_ifnonnull0, zs_ifnonnull1, zs_goto, zs_get, zs_put, zs_ireturn, zx_iv, zx_is, zx_it, zx_nw, zx_na, zx_an, zx_cc, zx_gs, zx_as, zx_ae, zx_ac, zx_at, zr_seg, zr_t, zr_f, zr_tp, zr_fp, zr_lg, zr_lr, zr_lr0, zr_wi, zr_wr, zr_wn, zr_wl, zr_vo, zr_so, zr_sI, zr_sL, zr_sA, zr_sN, zr_in, zr_rd, zr_wr2, zr_kf, zr_k0, zr_k1, zr_k2, zr_k3, zr_k3n, zr_k10, zr_k11, zr_k12, zr_k13, zr_k13n, zr_ai, zr_af, zr_aw, zr_aL, zr_Lf, zr_Lw, zr_l2, zr_l20, zr_al, zr_an, zr_aq, zr_ag, zr_rfs, zr_rfn, zr_r1, zr_r2, zr_w0, zr_w1, zr_tl, zr_40, zr_41, zr_42, zr_43, d_D_slip_0, d_D_slip_1, d_D_slip_2, d_D_slip_5, d_D_slip_6, d_D_slip_7, zt_7_6, zo_7_6, d_D_slip_10, cb_m11, d_D_slip_12, d_D_slip_13, d_D_slip_14, ci_m1, d_D_slip_15, zt_15_13, zo_15_13, d_D_slip_18, d_D_slip_19, d_D_slip_22, zt_22_6, zo_22_6, d_D_slip_25, cb_m12, d_D_slip_27, d_D_slip_28, d_D_slip_29, fl_D_73, d_D_slip_32, d_D_slip_34, d_D_slip_35, d_D_slip_36, zt_36_7, zo_36_7, d_D_slip_39, ci_1, d_D_slip_40, zt_40_4, zo_40_4, d_D_slip_43, ci_0, d_D_slip_44, d_D_slip_46, d_D_slip_47, fl_D_144, d_D_slip_50, ci_4, d_D_slip_51, zt_51_21, zo_51_21, d_D_slip_54, d_D_slip_56, d_D_slip_59, zt_59_13, zo_59_13, d_D_slip_62, d_D_slip_64, fl_D_151, d_D_slip_67, d_D_slip_69, zt_69_6, zo_69_6, d_D_slip_72, cb_m13, d_D_slip_74, d_D_slip_75, d_D_slip_76, d_D_slip_77, zt_77_15, zo_77_15, d_D_slip_80, d_D_slip_81, d_D_slip_83, fl_D_154, d_D_slip_86, zt_86_6, zo_86_6, d_D_slip_89, cb_m21, d_D_slip_91, d_D_slip_92, d_D_slip_94, d_D_slip_95, d_D_slip_96, zt_96_7, zo_96_7, d_D_slip_99, ci_2, d_D_slip_100, zt_100_4, zo_100_4, d_D_slip_103, d_D_slip_104, d_D_slip_107, d_D_slip_109, d_D_slip_112, za_0, za_i, za_r, za_n, za_l, zu_s, zu_u, Nat.reduceAdd, Nat.reduceLT, Nat.reduceBEq, Nat.zero_add, Bool.false_or, Bool.or_false, Bool.true_or, Bool.or_true, Bool.false_and, Bool.and_false, Bool.true_and, Bool.and_true, true_and, and_true, true_or, or_true, eq_self, Nat.le_refl, List.getElem?_cons_succ, List.getElem?_cons_zero, List.set_cons_succ, List.set_cons_zero, zk_0, zk_1, zk_2, zk_3, zk_4, zq_1, zq_2, Option.isSome_some, Option.getD_some, Option.toList_some, Option.toList_none, List.cons_append, List.nil_append, a1, a2, true_implies, false_implies, not_true_eq_false, not_false_eq_true, zn_10, Int32.reduceLT, Int32.reduceLE, implies_true, and_self]
      refine ⟨fun q => ⟨-13, S, rfl, hr, zFr_r _ _, Or.inr ⟨j, hj, hx, Or.inr ⟨Or.inl rfl, Or.inl ⟨fun w => q w.1, rfl, rfl⟩⟩⟩⟩, fun q => ?_⟩
      refine zJ_callV (As := []) (rest := []) C d_D_slip_56 (c_F_isHandedOver l D dA z M' (A 2 j) (S 1 j) hf) k_D_147 n_F_isHandedOver v_F_isHandedOver hf rfl rfl ⟨(Nat.le_of_ble_eq_true rfl), (Nat.le_of_ble_eq_true rfl)⟩ ⟨(Nat.le_of_ble_eq_true rfl), (Nat.le_of_ble_eq_true rfl)⟩ rfl (Nat.le_of_ble_eq_true rfl) ?_
      rintro v M'' ⟨rfl, rfl⟩
      refine zgo (cut := fun _ => false) 60 C lk_D hR ?_
      simp only [zs_iconst, zs_bipush, zs_iload_n, zs_iload, zs_aload_n, zs_aload, zs_astore_n0, zs_astore_n1, zs_istore, zs_astore0, zs_astore1, zs_if_eq, zs_if_ne, zs_icmp_eq, zs_icmp_ne, zs_ifnonnull0, zs_ifnonnull1, zs_goto, zs_get, zs_put, zs_ireturn, zx_iv, zx_is, zx_it, zx_nw, zx_na, zx_an, zx_cc, zx_gs, zx_as, zx_ae, zx_ac, zx_at, zr_seg, zr_t, zr_f, zr_tp, zr_fp, zr_lg, zr_lr, zr_lr0, zr_wi, zr_wr, zr_wn, zr_wl, zr_vo, zr_so, zr_sI, zr_sL, zr_sA, zr_sN, zr_in, zr_rd, zr_wr2, zr_kf, zr_k0, zr_k1, zr_k2, zr_k3, zr_k3n, zr_k10, zr_k11, zr_k12, zr_k13, zr_k13n, zr_ai, zr_af, zr_aw, zr_aL, zr_Lf, zr_Lw, zr_l2, zr_l20, zr_al, zr_an, zr_aq, zr_ag, zr_rfs, zr_rfn, zr_r1, zr_r2, zr_w0, zr_w1, zr_tl, zr_40, zr_41, zr_42, zr_43, d_D_slip_0, d_D_slip_1, d_D_slip_2, d_D_slip_5, d_D_slip_6, d_D_slip_7, zt_7_6, zo_7_6, d_D_slip_10, cb_m11, d_D_slip_12, d_D_slip_13, d_D_slip_14, ci_m1, d_D_slip_15, zt_15_13, zo_15_13, d_D_slip_18, d_D_slip_19, d_D_slip_22, zt_22_6, zo_22_6, d_D_slip_25, cb_m12, d_D_slip_27, d_D_slip_28, d_D_slip_29, fl_D_73, d_D_slip_32, d_D_slip_34, d_D_slip_35, d_D_slip_36, zt_36_7, zo_36_7, d_D_slip_39, ci_1, d_D_slip_40, zt_40_4, zo_40_4, d_D_slip_43, ci_0, d_D_slip_44, d_D_slip_46, d_D_slip_47, fl_D_144, d_D_slip_50, ci_4, d_D_slip_51, zt_51_21, zo_51_21, d_D_slip_54, d_D_slip_56, d_D_slip_59, zt_59_13, zo_59_13, d_D_slip_62, d_D_slip_64, fl_D_151, d_D_slip_67, d_D_slip_69, zt_69_6, zo_69_6, d_D_slip_72, cb_m13, d_D_slip_74, d_D_slip_75, d_D_slip_76, d_D_slip_77, zt_77_15, zo_77_15, d_D_slip_80, d_D_slip_81, d_D_slip_83, fl_D_154, d_D_slip_86, zt_86_6, zo_86_6, d_D_slip_89, cb_m21, d_D_slip_91, d_D_slip_92, d_D_slip_94, d_D_slip_95, d_D_slip_96, zt_96_7, zo_96_7, d_D_slip_99, ci_2, d_D_slip_100, zt_100_4, zo_100_4, d_D_slip_103, d_D_slip_104, d_D_slip_107, d_D_slip_109, d_D_slip_112, za_0, za_i, za_r, za_n, za_l, zu_s, zu_u, Nat.reduceAdd, Nat.reduceLT, Nat.reduceBEq, Nat.zero_add, Bool.false_or, Bool.or_false, Bool.true_or, Bool.or_true, Bool.false_and, Bool.and_false, Bool.true_and, Bool.and_true, true_and, and_true, true_or, or_true, eq_self, Nat.le_refl, List.getElem?_cons_succ, List.getElem?_cons_zero, List.set_cons_succ, List.set_cons_zero, zk_0, zk_1, zk_2, zk_3, zk_4, zq_1, zq_2, Option.isSome_some, Option.getD_some, Option.toList_some, Option.toList_none, List.cons_append, List.nil_append, a1, a2, zb_e0, true_implies, false_implies, not_true_eq_false, not_false_eq_true, zn_10, Int32.reduceLT, Int32.reduceLE, implies_true, and_self]
      refine ⟨fun g => ⟨-13, S, rfl, hr, zFr_r _ _, Or.inr ⟨j, hj, hx, Or.inr ⟨Or.inl rfl, Or.inl ⟨fun w => g w.2.1, rfl, rfl⟩⟩⟩⟩, fun g => ⟨fun y => ?_, fun y => ⟨-13, S, rfl, hr, zFr_r _ _, Or.inr ⟨j, hj, hx, Or.inr ⟨Or.inl rfl, Or.inl ⟨fun w => y w.2.2, rfl, rfl⟩⟩⟩⟩⟩⟩
      exact ⟨2, zS S 1 j (upd (S 1 j) 9 2), rfl, rep_facts (F := upd (S 1 j) 9 2) hr hj (hr.2.2.2.2.2.2.1 j hj).2.2, zFr_u hrl, Or.inr ⟨j, hj, hx, Or.inr ⟨Or.inl rfl, Or.inr ⟨⟨q, Classical.not_not.mp g, y⟩, Or.inr ⟨Or.inl rfl, rfl, rfl⟩⟩⟩⟩⟩
    · refine zgo (cut := fun _ => false) 60 C lk_D hR ?_
      simp only [zs_iconst, zs_bipush, zs_iload_n, zs_iload, zs_aload_n, zs_aload, zs_astore_n0, zs_astore_n1, zs_istore, zs_astore0, zs_astore1, zs_if_eq, zs_if_ne, zs_icmp_eq, zs_icmp_ne, zs_ifnonnull0, zs_ifnonnull1, zs_goto, zs_get, zs_put, zs_ireturn, zx_iv, zx_is, zx_it, zx_nw, zx_na, zx_an, zx_cc, zx_gs, zx_as, zx_ae, zx_ac, zx_at, zr_seg, zr_t, zr_f, zr_tp, zr_fp, zr_lg, zr_lr, zr_lr0, zr_wi, zr_wr, zr_wn, zr_wl, zr_vo, zr_so, zr_sI, zr_sL, zr_sA, zr_sN, zr_in, zr_rd, zr_wr2, zr_kf, zr_k0, zr_k1, zr_k2, zr_k3, zr_k3n, zr_k10, zr_k11, zr_k12, zr_k13, zr_k13n, zr_ai, zr_af, zr_aw, zr_aL, zr_Lf, zr_Lw, zr_l2, zr_l20, zr_al, zr_an, zr_aq, zr_ag, zr_rfs, zr_rfn, zr_r1, zr_r2, zr_w0, zr_w1, zr_tl, zr_40, zr_41, zr_42, zr_43, d_D_slip_0, d_D_slip_1, d_D_slip_2, d_D_slip_5, d_D_slip_6, d_D_slip_7, zt_7_6, zo_7_6, d_D_slip_10, cb_m11, d_D_slip_12, d_D_slip_13, d_D_slip_14, ci_m1, d_D_slip_15, zt_15_13, zo_15_13, d_D_slip_18, d_D_slip_19, d_D_slip_22, zt_22_6, zo_22_6, d_D_slip_25, cb_m12, d_D_slip_27, d_D_slip_28, d_D_slip_29, fl_D_73, d_D_slip_32, d_D_slip_34, d_D_slip_35, d_D_slip_36, zt_36_7, zo_36_7, d_D_slip_39, ci_1, d_D_slip_40, zt_40_4, zo_40_4, d_D_slip_43, ci_0, d_D_slip_44, d_D_slip_46, d_D_slip_47, fl_D_144, d_D_slip_50, ci_4, d_D_slip_51, zt_51_21, zo_51_21, d_D_slip_54, d_D_slip_56, d_D_slip_59, zt_59_13, zo_59_13, d_D_slip_62, d_D_slip_64, fl_D_151, d_D_slip_67, d_D_slip_69, zt_69_6, zo_69_6, d_D_slip_72, cb_m13, d_D_slip_74, d_D_slip_75, d_D_slip_76, d_D_slip_77, zt_77_15, zo_77_15, d_D_slip_80, d_D_slip_81, d_D_slip_83, fl_D_154, d_D_slip_86, zt_86_6, zo_86_6, d_D_slip_89, cb_m21, d_D_slip_91, d_D_slip_92, d_D_slip_94, d_D_slip_95, d_D_slip_96, zt_96_7, zo_96_7, d_D_slip_99, ci_2, d_D_slip_100, zt_100_4, zo_100_4, d_D_slip_103, d_D_slip_104, d_D_slip_107, d_D_slip_109, d_D_slip_112, za_0, za_i, za_r, za_n, za_l, zu_s, zu_u, Nat.reduceAdd, Nat.reduceLT, Nat.reduceBEq, Nat.zero_add, Bool.false_or, Bool.or_false, Bool.true_or, Bool.or_true, Bool.false_and, Bool.and_false, Bool.true_and, Bool.and_true, true_and, and_true, true_or, or_true, eq_self, Nat.le_refl, List.getElem?_cons_succ, List.getElem?_cons_zero, List.set_cons_succ, List.set_cons_zero, zk_0, zk_1, zk_2, zk_3, zk_4, zq_1, zq_2, Option.isSome_some, Option.getD_some, Option.toList_some, Option.toList_none, List.cons_append, List.nil_append, a1, a2, hw, true_implies, false_implies, not_true_eq_false, not_false_eq_true, zn_10, Int32.reduceLT, Int32.reduceLE, implies_true, and_self]
      refine zJ_callS (As := [.int who]) (rest := []) C d_D_slip_19 (c_D_isPerson l D dA z M' who) k_D_37 s_D_isPerson ⟨(Nat.le_of_ble_eq_true rfl), (Nat.le_of_ble_eq_true rfl)⟩ ⟨(Nat.le_of_ble_eq_true rfl), (Nat.le_of_ble_eq_true rfl)⟩ rfl (Nat.le_of_ble_eq_true rfl) ?_
      rintro v M'' ⟨rfl, rfl⟩
      by_cases hp : 0 ≤ who ∧ who < 100
      · rw [zb_t hp]
        refine zgo (cut := fun _ => false) 60 C lk_D hR ?_
        simp only [zs_iconst, zs_bipush, zs_iload_n, zs_iload, zs_aload_n, zs_aload, zs_astore_n0, zs_astore_n1, zs_istore, zs_astore0, zs_astore1, zs_if_eq, zs_if_ne, zs_icmp_eq, zs_icmp_ne, zs_ifnonnull0, zs_ifnonnull1, zs_goto, zs_get, zs_put, zs_ireturn, zx_iv, zx_is, zx_it, zx_nw, zx_na, zx_an, zx_cc, zx_gs, zx_as, zx_ae, zx_ac, zx_at, zr_seg, zr_t, zr_f, zr_tp, zr_fp, zr_lg, zr_lr, zr_lr0, zr_wi, zr_wr, zr_wn, zr_wl, zr_vo, zr_so, zr_sI, zr_sL, zr_sA, zr_sN, zr_in, zr_rd, zr_wr2, zr_kf, zr_k0, zr_k1, zr_k2, zr_k3, zr_k3n, zr_k10, zr_k11, zr_k12, zr_k13, zr_k13n, zr_ai, zr_af, zr_aw, zr_aL, zr_Lf, zr_Lw, zr_l2, zr_l20, zr_al, zr_an, zr_aq, zr_ag, zr_rfs, zr_rfn, zr_r1, zr_r2, zr_w0, zr_w1, zr_tl, zr_40, zr_41, zr_42, zr_43, d_D_slip_0, d_D_slip_1, d_D_slip_2, d_D_slip_5, d_D_slip_6, d_D_slip_7, zt_7_6, zo_7_6, d_D_slip_10, cb_m11, d_D_slip_12, d_D_slip_13, d_D_slip_14, ci_m1, d_D_slip_15, zt_15_13, zo_15_13, d_D_slip_18, d_D_slip_19, d_D_slip_22, zt_22_6, zo_22_6, d_D_slip_25, cb_m12, d_D_slip_27, d_D_slip_28, d_D_slip_29, fl_D_73, d_D_slip_32, d_D_slip_34, d_D_slip_35, d_D_slip_36, zt_36_7, zo_36_7, d_D_slip_39, ci_1, d_D_slip_40, zt_40_4, zo_40_4, d_D_slip_43, ci_0, d_D_slip_44, d_D_slip_46, d_D_slip_47, fl_D_144, d_D_slip_50, ci_4, d_D_slip_51, zt_51_21, zo_51_21, d_D_slip_54, d_D_slip_56, d_D_slip_59, zt_59_13, zo_59_13, d_D_slip_62, d_D_slip_64, fl_D_151, d_D_slip_67, d_D_slip_69, zt_69_6, zo_69_6, d_D_slip_72, cb_m13, d_D_slip_74, d_D_slip_75, d_D_slip_76, d_D_slip_77, zt_77_15, zo_77_15, d_D_slip_80, d_D_slip_81, d_D_slip_83, fl_D_154, d_D_slip_86, zt_86_6, zo_86_6, d_D_slip_89, cb_m21, d_D_slip_91, d_D_slip_92, d_D_slip_94, d_D_slip_95, d_D_slip_96, zt_96_7, zo_96_7, d_D_slip_99, ci_2, d_D_slip_100, zt_100_4, zo_100_4, d_D_slip_103, d_D_slip_104, d_D_slip_107, d_D_slip_109, d_D_slip_112, za_0, za_i, za_r, za_n, za_l, zu_s, zu_u, Nat.reduceAdd, Nat.reduceLT, Nat.reduceBEq, Nat.zero_add, Bool.false_or, Bool.or_false, Bool.true_or, Bool.or_true, Bool.false_and, Bool.and_false, Bool.true_and, Bool.and_true, true_and, and_true, true_or, or_true, eq_self, Nat.le_refl, List.getElem?_cons_succ, List.getElem?_cons_zero, List.set_cons_succ, List.set_cons_zero, zk_0, zk_1, zk_2, zk_3, zk_4, zq_1, zq_2, Option.isSome_some, Option.getD_some, Option.toList_some, Option.toList_none, List.cons_append, List.nil_append, a1, a2, hw, true_implies, false_implies, not_true_eq_false, not_false_eq_true, zn_10, Int32.reduceLT, Int32.reduceLE, implies_true, and_self]
        refine ⟨fun q => ⟨-13, S, rfl, hr, zFr_r _ _, Or.inr ⟨j, hj, hx, Or.inr ⟨Or.inr hp, Or.inl ⟨fun w => q w.1, rfl, rfl⟩⟩⟩⟩, fun q => ?_⟩
        refine zJ_callV (As := []) (rest := []) C d_D_slip_56 (c_F_isHandedOver l D dA z M'' (A 2 j) (S 1 j) hf) k_D_147 n_F_isHandedOver v_F_isHandedOver hf rfl rfl ⟨(Nat.le_of_ble_eq_true rfl), (Nat.le_of_ble_eq_true rfl)⟩ ⟨(Nat.le_of_ble_eq_true rfl), (Nat.le_of_ble_eq_true rfl)⟩ rfl (Nat.le_of_ble_eq_true rfl) ?_
        rintro v M3 ⟨rfl, rfl⟩
        refine zgo (cut := fun _ => false) 60 C lk_D hR ?_
        simp only [zs_iconst, zs_bipush, zs_iload_n, zs_iload, zs_aload_n, zs_aload, zs_astore_n0, zs_astore_n1, zs_istore, zs_astore0, zs_astore1, zs_if_eq, zs_if_ne, zs_icmp_eq, zs_icmp_ne, zs_ifnonnull0, zs_ifnonnull1, zs_goto, zs_get, zs_put, zs_ireturn, zx_iv, zx_is, zx_it, zx_nw, zx_na, zx_an, zx_cc, zx_gs, zx_as, zx_ae, zx_ac, zx_at, zr_seg, zr_t, zr_f, zr_tp, zr_fp, zr_lg, zr_lr, zr_lr0, zr_wi, zr_wr, zr_wn, zr_wl, zr_vo, zr_so, zr_sI, zr_sL, zr_sA, zr_sN, zr_in, zr_rd, zr_wr2, zr_kf, zr_k0, zr_k1, zr_k2, zr_k3, zr_k3n, zr_k10, zr_k11, zr_k12, zr_k13, zr_k13n, zr_ai, zr_af, zr_aw, zr_aL, zr_Lf, zr_Lw, zr_l2, zr_l20, zr_al, zr_an, zr_aq, zr_ag, zr_rfs, zr_rfn, zr_r1, zr_r2, zr_w0, zr_w1, zr_tl, zr_40, zr_41, zr_42, zr_43, d_D_slip_0, d_D_slip_1, d_D_slip_2, d_D_slip_5, d_D_slip_6, d_D_slip_7, zt_7_6, zo_7_6, d_D_slip_10, cb_m11, d_D_slip_12, d_D_slip_13, d_D_slip_14, ci_m1, d_D_slip_15, zt_15_13, zo_15_13, d_D_slip_18, d_D_slip_19, d_D_slip_22, zt_22_6, zo_22_6, d_D_slip_25, cb_m12, d_D_slip_27, d_D_slip_28, d_D_slip_29, fl_D_73, d_D_slip_32, d_D_slip_34, d_D_slip_35, d_D_slip_36, zt_36_7, zo_36_7, d_D_slip_39, ci_1, d_D_slip_40, zt_40_4, zo_40_4, d_D_slip_43, ci_0, d_D_slip_44, d_D_slip_46, d_D_slip_47, fl_D_144, d_D_slip_50, ci_4, d_D_slip_51, zt_51_21, zo_51_21, d_D_slip_54, d_D_slip_56, d_D_slip_59, zt_59_13, zo_59_13, d_D_slip_62, d_D_slip_64, fl_D_151, d_D_slip_67, d_D_slip_69, zt_69_6, zo_69_6, d_D_slip_72, cb_m13, d_D_slip_74, d_D_slip_75, d_D_slip_76, d_D_slip_77, zt_77_15, zo_77_15, d_D_slip_80, d_D_slip_81, d_D_slip_83, fl_D_154, d_D_slip_86, zt_86_6, zo_86_6, d_D_slip_89, cb_m21, d_D_slip_91, d_D_slip_92, d_D_slip_94, d_D_slip_95, d_D_slip_96, zt_96_7, zo_96_7, d_D_slip_99, ci_2, d_D_slip_100, zt_100_4, zo_100_4, d_D_slip_103, d_D_slip_104, d_D_slip_107, d_D_slip_109, d_D_slip_112, za_0, za_i, za_r, za_n, za_l, zu_s, zu_u, Nat.reduceAdd, Nat.reduceLT, Nat.reduceBEq, Nat.zero_add, Bool.false_or, Bool.or_false, Bool.true_or, Bool.or_true, Bool.false_and, Bool.and_false, Bool.true_and, Bool.and_true, true_and, and_true, true_or, or_true, eq_self, Nat.le_refl, List.getElem?_cons_succ, List.getElem?_cons_zero, List.set_cons_succ, List.set_cons_zero, zk_0, zk_1, zk_2, zk_3, zk_4, zq_1, zq_2, Option.isSome_some, Option.getD_some, Option.toList_some, Option.toList_none, List.cons_append, List.nil_append, a1, a2, hw, zb_e0, true_implies, false_implies, not_true_eq_false, not_false_eq_true, zn_10, Int32.reduceLT, Int32.reduceLE, implies_true, and_self]
        refine ⟨fun g => ⟨-13, S, rfl, hr, zFr_r _ _, Or.inr ⟨j, hj, hx, Or.inr ⟨Or.inr hp, Or.inl ⟨fun w => g w.2.1, rfl, rfl⟩⟩⟩⟩, fun g => ⟨fun y => ⟨fun u => ?_, fun u => ?_⟩, fun y => ⟨-13, S, rfl, hr, zFr_r _ _, Or.inr ⟨j, hj, hx, Or.inr ⟨Or.inr hp, Or.inl ⟨fun w => y (by rw [w.2.2, if_neg hw]), rfl, rfl⟩⟩⟩⟩⟩⟩
        · exact ⟨1, zS S 1 j (upd (S 1 j) 9 1), rfl, rep_facts (F := upd (S 1 j) 9 1) hr hj (hr.2.2.2.2.2.2.1 j hj).2.2, zFr_u hrl, Or.inr ⟨j, hj, hx, Or.inr ⟨Or.inr hp, Or.inr ⟨⟨q, Classical.not_not.mp g, by rw [if_neg hw]; exact y⟩, Or.inr ⟨Or.inr u, by rw [if_neg hw], rfl⟩⟩⟩⟩⟩
        · exact ⟨-21, S, rfl, hr, zFr_r _ _, Or.inr ⟨j, hj, hx, Or.inr ⟨Or.inr hp, Or.inr ⟨⟨q, Classical.not_not.mp g, by rw [if_neg hw]; exact y⟩, Or.inl ⟨hw, u, rfl, rfl⟩⟩⟩⟩⟩
      · rw [zb_f hp]
        refine zgo (cut := fun _ => false) 60 C lk_D hR ?_
        simp only [zs_iconst, zs_bipush, zs_iload_n, zs_iload, zs_aload_n, zs_aload, zs_astore_n0, zs_astore_n1, zs_istore, zs_astore0, zs_astore1, zs_if_eq, zs_if_ne, zs_icmp_eq, zs_icmp_ne, zs_ifnonnull0, zs_ifnonnull1, zs_goto, zs_get, zs_put, zs_ireturn, zx_iv, zx_is, zx_it, zx_nw, zx_na, zx_an, zx_cc, zx_gs, zx_as, zx_ae, zx_ac, zx_at, zr_seg, zr_t, zr_f, zr_tp, zr_fp, zr_lg, zr_lr, zr_lr0, zr_wi, zr_wr, zr_wn, zr_wl, zr_vo, zr_so, zr_sI, zr_sL, zr_sA, zr_sN, zr_in, zr_rd, zr_wr2, zr_kf, zr_k0, zr_k1, zr_k2, zr_k3, zr_k3n, zr_k10, zr_k11, zr_k12, zr_k13, zr_k13n, zr_ai, zr_af, zr_aw, zr_aL, zr_Lf, zr_Lw, zr_l2, zr_l20, zr_al, zr_an, zr_aq, zr_ag, zr_rfs, zr_rfn, zr_r1, zr_r2, zr_w0, zr_w1, zr_tl, zr_40, zr_41, zr_42, zr_43, d_D_slip_0, d_D_slip_1, d_D_slip_2, d_D_slip_5, d_D_slip_6, d_D_slip_7, zt_7_6, zo_7_6, d_D_slip_10, cb_m11, d_D_slip_12, d_D_slip_13, d_D_slip_14, ci_m1, d_D_slip_15, zt_15_13, zo_15_13, d_D_slip_18, d_D_slip_19, d_D_slip_22, zt_22_6, zo_22_6, d_D_slip_25, cb_m12, d_D_slip_27, d_D_slip_28, d_D_slip_29, fl_D_73, d_D_slip_32, d_D_slip_34, d_D_slip_35, d_D_slip_36, zt_36_7, zo_36_7, d_D_slip_39, ci_1, d_D_slip_40, zt_40_4, zo_40_4, d_D_slip_43, ci_0, d_D_slip_44, d_D_slip_46, d_D_slip_47, fl_D_144, d_D_slip_50, ci_4, d_D_slip_51, zt_51_21, zo_51_21, d_D_slip_54, d_D_slip_56, d_D_slip_59, zt_59_13, zo_59_13, d_D_slip_62, d_D_slip_64, fl_D_151, d_D_slip_67, d_D_slip_69, zt_69_6, zo_69_6, d_D_slip_72, cb_m13, d_D_slip_74, d_D_slip_75, d_D_slip_76, d_D_slip_77, zt_77_15, zo_77_15, d_D_slip_80, d_D_slip_81, d_D_slip_83, fl_D_154, d_D_slip_86, zt_86_6, zo_86_6, d_D_slip_89, cb_m21, d_D_slip_91, d_D_slip_92, d_D_slip_94, d_D_slip_95, d_D_slip_96, zt_96_7, zo_96_7, d_D_slip_99, ci_2, d_D_slip_100, zt_100_4, zo_100_4, d_D_slip_103, d_D_slip_104, d_D_slip_107, d_D_slip_109, d_D_slip_112, za_0, za_i, za_r, za_n, za_l, zu_s, zu_u, Nat.reduceAdd, Nat.reduceLT, Nat.reduceBEq, Nat.zero_add, Bool.false_or, Bool.or_false, Bool.true_or, Bool.or_true, Bool.false_and, Bool.and_false, Bool.true_and, Bool.and_true, true_and, and_true, true_or, or_true, eq_self, Nat.le_refl, List.getElem?_cons_succ, List.getElem?_cons_zero, List.set_cons_succ, List.set_cons_zero, zk_0, zk_1, zk_2, zk_3, zk_4, zq_1, zq_2, Option.isSome_some, Option.getD_some, Option.toList_some, Option.toList_none, List.cons_append, List.nil_append, a1, a2, hw, true_implies, false_implies, not_true_eq_false, not_false_eq_true, zn_10, Int32.reduceLT, Int32.reduceLE, implies_true, and_self]
        exact ⟨-12, S, rfl, hr, zFr_r _ _, Or.inr ⟨j, hj, hx, Or.inl ⟨fun w => w.elim hw hp, rfl, rfl⟩⟩⟩
  · refine zgo (cut := fun _ => false) 60 C lk_D hR ?_
    simp only [zs_iconst, zs_bipush, zs_iload_n, zs_iload, zs_aload_n, zs_aload, zs_astore_n0, zs_astore_n1, zs_istore, zs_astore0, zs_astore1, zs_if_eq, zs_if_ne, zs_icmp_eq, zs_icmp_ne, zs_ifnonnull0, zs_ifnonnull1, zs_goto, zs_get, zs_put, zs_ireturn, zx_iv, zx_is, zx_it, zx_nw, zx_na, zx_an, zx_cc, zx_gs, zx_as, zx_ae, zx_ac, zx_at, zr_seg, zr_t, zr_f, zr_tp, zr_fp, zr_lg, zr_lr, zr_lr0, zr_wi, zr_wr, zr_wn, zr_wl, zr_vo, zr_so, zr_sI, zr_sL, zr_sA, zr_sN, zr_in, zr_rd, zr_wr2, zr_kf, zr_k0, zr_k1, zr_k2, zr_k3, zr_k3n, zr_k10, zr_k11, zr_k12, zr_k13, zr_k13n, zr_ai, zr_af, zr_aw, zr_aL, zr_Lf, zr_Lw, zr_l2, zr_l20, zr_al, zr_an, zr_aq, zr_ag, zr_rfs, zr_rfn, zr_r1, zr_r2, zr_w0, zr_w1, zr_tl, zr_40, zr_41, zr_42, zr_43, d_D_slip_0, d_D_slip_1, d_D_slip_2, d_D_slip_5, d_D_slip_6, d_D_slip_7, zt_7_6, zo_7_6, d_D_slip_10, cb_m11, d_D_slip_12, d_D_slip_13, d_D_slip_14, ci_m1, d_D_slip_15, zt_15_13, zo_15_13, d_D_slip_18, d_D_slip_19, d_D_slip_22, zt_22_6, zo_22_6, d_D_slip_25, cb_m12, d_D_slip_27, d_D_slip_28, d_D_slip_29, fl_D_73, d_D_slip_32, d_D_slip_34, d_D_slip_35, d_D_slip_36, zt_36_7, zo_36_7, d_D_slip_39, ci_1, d_D_slip_40, zt_40_4, zo_40_4, d_D_slip_43, ci_0, d_D_slip_44, d_D_slip_46, d_D_slip_47, fl_D_144, d_D_slip_50, ci_4, d_D_slip_51, zt_51_21, zo_51_21, d_D_slip_54, d_D_slip_56, d_D_slip_59, zt_59_13, zo_59_13, d_D_slip_62, d_D_slip_64, fl_D_151, d_D_slip_67, d_D_slip_69, zt_69_6, zo_69_6, d_D_slip_72, cb_m13, d_D_slip_74, d_D_slip_75, d_D_slip_76, d_D_slip_77, zt_77_15, zo_77_15, d_D_slip_80, d_D_slip_81, d_D_slip_83, fl_D_154, d_D_slip_86, zt_86_6, zo_86_6, d_D_slip_89, cb_m21, d_D_slip_91, d_D_slip_92, d_D_slip_94, d_D_slip_95, d_D_slip_96, zt_96_7, zo_96_7, d_D_slip_99, ci_2, d_D_slip_100, zt_100_4, zo_100_4, d_D_slip_103, d_D_slip_104, d_D_slip_107, d_D_slip_109, d_D_slip_112, za_0, za_i, za_r, za_n, za_l, zu_s, zu_u, Nat.reduceAdd, Nat.reduceLT, Nat.reduceBEq, Nat.zero_add, Bool.false_or, Bool.or_false, Bool.true_or, Bool.or_true, Bool.false_and, Bool.and_false, Bool.true_and, Bool.and_true, true_and, and_true, true_or, or_true, eq_self, Nat.le_refl, List.getElem?_cons_succ, List.getElem?_cons_zero, List.set_cons_succ, List.set_cons_zero, zk_0, zk_1, zk_2, zk_3, zk_4, zq_1, zq_2, Option.isSome_some, Option.getD_some, Option.toList_some, Option.toList_none, List.cons_append, List.nil_append, true_implies, false_implies, not_true_eq_false, not_false_eq_true, zn_10, Int32.reduceLT, Int32.reduceLE, implies_true, and_self]
    exact ⟨-11, S, rfl, hr, zFr_r _ _, Or.inl ⟨hx, rfl, rfl⟩⟩
def zCash (S : Nat → Nat → Nat → Int32) (N : Nat → Nat → Nat) (x : Int32) (cents : Int64) (v : Int32) (S' : Nat → Nat → Nat → Int32) : Prop :=
  (¬ (1 ≤ x ∧ x ≤ nI (N 0 0)) ∧ v = -11 ∧ S' = S) ∨ ∃ j, j < N 0 0 ∧ x = nI (j + 1) ∧
    (((cents < 1 ∨ 1000000 < cents) ∧ v = -12 ∧ S' = S) ∨ (¬ (cents < 1 ∨ 1000000 < cents) ∧
      ((¬ (S 0 j 1 = 5 ∧ S 1 j 0 ≤ 2 ∧ cents ≤ (S 0 j 4).toInt64) ∧ v = -13 ∧ S' = S) ∨ ((S 0 j 1 = 5 ∧ S 1 j 0 ≤ 2 ∧ cents ≤ (S 0 j 4).toInt64) ∧ v = S 0 j 4 - cents.toInt32 ∧ S' = zS S 0 j (upd (S 0 j) 4 v)))))
set_option maxHeartbeats 4000000 in
set_option maxRecDepth 100000 in
/-- cash -/
theorem c_D_cash (l : Launch) (D : va_G) (dA : Nat → ClassId) (z : Nat) (M : zVw) (rl : Nat → Nat) (A : Nat → Nat → Nat) (S : Nat → Nat → Nat → Int32) (N : Nat → Nat → Nat) (T : Nat → Int64) (x : Int32) (cents : Int64) (hr : zRep M rl dA A S N T) : zMet l y_D_cash b_D_cash 5 (some .int) 5 125 0 0 D dA z [.ref (A 0 0), .int x, .long cents] M (fun v M' => ∃ r S', v = some (.int r) ∧ zRep M' rl dA A S' N T ∧ zFr M rl M' rl ∧ zCash S N x cents r S') := by
  refine z_of 1 false (by decide) (fun h => by first | rfl | cases h) (Nat.le_of_ble_eq_true rfl) trivial ?_
  intro p e s m args below meth c C hR
  refine zgo (cut := fun _ => false) 60 C lk_D hR ?_
  simp only [zs_iconst, zs_bipush, zs_lconst, zs_ldc2, zs_iload_n, zs_lload_n, zs_aload_n, zs_aload, zs_astore0, zs_astore1, zs_isub, zs_lcmp, zs_i2l, zs_l2i, zs_dup0, zs_dup1, zs_dup2, zs_if_lt, zs_if_le, zs_icmp_ne, zs_icmp_gt, zs_ifnonnull0, zs_ifnonnull1, zs_get, zs_put, zs_ireturn, zx_iv, zx_is, zx_it, zx_nw, zx_na, zx_an, zx_cc, zx_gs, zx_as, zx_ae, zx_ac, zx_at, zr_seg, zr_t, zr_f, zr_tp, zr_fp, zr_lg, zr_lr, zr_lr0, zr_wi, zr_wr, zr_wn, zr_wl, zr_vo, zr_so, zr_sI, zr_sL, zr_sA, zr_sN, zr_in, zr_rd, zr_wr2, zr_kf, zr_k0, zr_k1, zr_k2, zr_k3, zr_k3n, zr_k10, zr_k11, zr_k12, zr_k13, zr_k13n, zr_ai, zr_af, zr_aw, zr_aL, zr_Lf, zr_Lw, zr_l2, zr_l20, zr_al, zr_an, zr_aq, zr_ag, zr_rfs, zr_rfn, zr_r1, zr_r2, zr_w0, zr_w1, zr_tl, zr_40, zr_41, zr_42, zr_43, d_D_cash_0, d_D_cash_1, d_D_cash_2, d_D_cash_5, d_D_cash_7, d_D_cash_9, zt_9_6, zo_9_6, d_D_cash_12, cb_m11, d_D_cash_14, d_D_cash_15, d_D_cash_16, cl_1, d_D_cash_17, d_D_cash_18, zt_18_11, zo_18_11, d_D_cash_21, d_D_cash_22, ll_D_138, d_D_cash_25, d_D_cash_26, zt_26_6, zo_26_6, d_D_cash_29, cb_m12, d_D_cash_31, d_D_cash_32, d_D_cash_34, fl_D_144, d_D_cash_37, ci_5, d_D_cash_38, zt_38_26, zo_38_26, d_D_cash_41, d_D_cash_43, fl_D_73, d_D_cash_46, fl_D_157, d_D_cash_49, ci_2, d_D_cash_50, zt_50_14, zo_50_14, d_D_cash_53, d_D_cash_54, d_D_cash_56, fl_D_160, d_D_cash_59, d_D_cash_60, d_D_cash_61, zt_61_6, zo_61_6, d_D_cash_64, cb_m13, d_D_cash_66, d_D_cash_67, d_D_cash_69, d_D_cash_70, d_D_cash_73, d_D_cash_74, d_D_cash_75, d_D_cash_76, d_D_cash_79, d_D_cash_81, d_D_cash_84, za_0, za_i, za_r, za_n, za_l, zu_s, zu_u, Nat.reduceAdd, Nat.reduceLT, Nat.reduceBEq, Nat.zero_add, Bool.false_or, Bool.or_false, Bool.true_or, Bool.or_true, Bool.false_and, Bool.and_false, Bool.true_and, Bool.and_true, true_and, and_true, true_or, or_true, eq_self, Nat.le_refl, List.getElem?_cons_succ, List.getElem?_cons_zero, List.set_cons_succ, List.set_cons_zero, zk_0, zk_1, zk_2, zk_3, zk_4, zq_1, zq_2, Option.isSome_some, Option.getD_some, Option.toList_some, Option.toList_none, List.cons_append, List.nil_append, true_implies, false_implies, not_true_eq_false, not_false_eq_true, zn_10, Int32.reduceLT, Int32.reduceLE, implies_true, and_self]
  refine zJ_callV (As := [.int x]) (rest := []) C d_D_cash_2 (r_itemOf l D dA z M rl A S N T x hr) k_D_58 n_D_itemOf v_D_itemOf hr.1.1 rfl rfl ⟨(Nat.le_of_ble_eq_true rfl), (Nat.le_of_ble_eq_true rfl)⟩ ⟨(Nat.le_of_ble_eq_true rfl), (Nat.le_of_ble_eq_true rfl)⟩ rfl (Nat.le_of_ble_eq_true rfl) ?_
  rintro v M' ⟨rfl, hv⟩
  rcases hv with ⟨j, hj, hx, rfl⟩ | ⟨hx, rfl⟩
  · have a1 := (hr.2.2.2.2.2.2.1 j hj).1.1
    have a2 := (hr.2.2.2.2.2.2.1 j hj).2.1.1
    have hrl : rl (A 1 j) < 5000000 := by rw [(hr.2.2.2.2.2.2.1 j hj).1.2]; have := hr.2.2.2.2.2.2.2.2.2.2.2.1; unfold zr; omega
    unfold iA at a1
    unfold fA at a2
    refine zgo (cut := fun _ => false) 60 C lk_D hR ?_
    simp only [zs_iconst, zs_bipush, zs_lconst, zs_ldc2, zs_iload_n, zs_lload_n, zs_aload_n, zs_aload, zs_astore0, zs_astore1, zs_isub, zs_lcmp, zs_i2l, zs_l2i, zs_dup0, zs_dup1, zs_dup2, zs_if_lt, zs_if_le, zs_icmp_ne, zs_icmp_gt, zs_ifnonnull0, zs_ifnonnull1, zs_get, zs_put, zs_ireturn, zx_iv, zx_is, zx_it, zx_nw, zx_na, zx_an, zx_cc, zx_gs, zx_as, zx_ae, zx_ac, zx_at, zr_seg, zr_t, zr_f, zr_tp, zr_fp, zr_lg, zr_lr, zr_lr0, zr_wi, zr_wr, zr_wn, zr_wl, zr_vo, zr_so, zr_sI, zr_sL, zr_sA, zr_sN, zr_in, zr_rd, zr_wr2, zr_kf, zr_k0, zr_k1, zr_k2, zr_k3, zr_k3n, zr_k10, zr_k11, zr_k12, zr_k13, zr_k13n, zr_ai, zr_af, zr_aw, zr_aL, zr_Lf, zr_Lw, zr_l2, zr_l20, zr_al, zr_an, zr_aq, zr_ag, zr_rfs, zr_rfn, zr_r1, zr_r2, zr_w0, zr_w1, zr_tl, zr_40, zr_41, zr_42, zr_43, d_D_cash_0, d_D_cash_1, d_D_cash_2, d_D_cash_5, d_D_cash_7, d_D_cash_9, zt_9_6, zo_9_6, d_D_cash_12, cb_m11, d_D_cash_14, d_D_cash_15, d_D_cash_16, cl_1, d_D_cash_17, d_D_cash_18, zt_18_11, zo_18_11, d_D_cash_21, d_D_cash_22, ll_D_138, d_D_cash_25, d_D_cash_26, zt_26_6, zo_26_6, d_D_cash_29, cb_m12, d_D_cash_31, d_D_cash_32, d_D_cash_34, fl_D_144, d_D_cash_37, ci_5, d_D_cash_38, zt_38_26, zo_38_26, d_D_cash_41, d_D_cash_43, fl_D_73, d_D_cash_46, fl_D_157, d_D_cash_49, ci_2, d_D_cash_50, zt_50_14, zo_50_14, d_D_cash_53, d_D_cash_54, d_D_cash_56, fl_D_160, d_D_cash_59, d_D_cash_60, d_D_cash_61, zt_61_6, zo_61_6, d_D_cash_64, cb_m13, d_D_cash_66, d_D_cash_67, d_D_cash_69, d_D_cash_70, d_D_cash_73, d_D_cash_74, d_D_cash_75, d_D_cash_76, d_D_cash_79, d_D_cash_81, d_D_cash_84, za_0, za_i, za_r, za_n, za_l, zu_s, zu_u, Nat.reduceAdd, Nat.reduceLT, Nat.reduceBEq, Nat.zero_add, Bool.false_or, Bool.or_false, Bool.true_or, Bool.or_true, Bool.false_and, Bool.and_false, Bool.true_and, Bool.and_true, true_and, and_true, true_or, or_true, eq_self, Nat.le_refl, List.getElem?_cons_succ, List.getElem?_cons_zero, List.set_cons_succ, List.set_cons_zero, zk_0, zk_1, zk_2, zk_3, zk_4, zq_1, zq_2, Option.isSome_some, Option.getD_some, Option.toList_some, Option.toList_none, List.cons_append, List.nil_append, a1, a2, zc_lt, zc_le, true_implies, false_implies, not_true_eq_false, not_false_eq_true, zn_10, Int32.reduceLT, Int32.reduceLE, implies_true, and_self]
    refine ⟨fun q => ⟨-12, S, rfl, hr, zFr_r _ _, Or.inr ⟨j, hj, hx, Or.inl ⟨Or.inl q, rfl, rfl⟩⟩⟩, fun q => ⟨fun w => ?_, fun w => ⟨-12, S, rfl, hr, zFr_r _ _, Or.inr ⟨j, hj, hx, Or.inl ⟨Or.inr (by rw [Int64.lt_iff_toInt_lt]; rw [Int64.le_iff_toInt_le] at w; omega), rfl, rfl⟩⟩⟩⟩⟩
    have hno : ¬ (cents < 1 ∨ 1000000 < cents) := fun y => y.elim q (fun y => by rw [Int64.lt_iff_toInt_lt] at y; rw [Int64.le_iff_toInt_le] at w; omega)
    have no : ¬ (S 0 j 1 = 5 ∧ S 1 j 0 ≤ 2 ∧ cents ≤ (S 0 j 4).toInt64) → ∃ r S', some (Value.int (-13)) = some (Value.int r) ∧ zRep M' rl dA A S' N T ∧ zFr M' rl M' rl ∧ zCash S N x cents r S' := fun y => ⟨-13, S, rfl, hr, zFr_r _ _, Or.inr ⟨j, hj, hx, Or.inr ⟨hno, Or.inl ⟨y, rfl, rfl⟩⟩⟩⟩
    refine ⟨fun y => no (fun u => y u.1), fun y => ⟨fun u => no (fun u2 => absurd u2.2.1 (by clear hR C; (simp only [Int32.lt_iff_toInt_lt, Int32.le_iff_toInt_le, ← Int32.toInt_inj, Int32.reduceToInt] at *; omega))), fun u => ⟨fun k => ?_, fun k => no (fun u2 => k u2.2.2)⟩⟩⟩
    exact ⟨S 0 j 4 - cents.toInt32, zS S 0 j (upd (S 0 j) 4 (S 0 j 4 - cents.toInt32)), rfl, rep_due hr hj, zFr_u hrl, Or.inr ⟨j, hj, hx, Or.inr ⟨hno, Or.inr ⟨⟨y, by clear hR C; (simp only [Int32.lt_iff_toInt_lt, Int32.le_iff_toInt_le, ← Int32.toInt_inj, Int32.reduceToInt] at *; omega), k⟩, rfl, rfl⟩⟩⟩⟩
  · refine zgo (cut := fun _ => false) 60 C lk_D hR ?_
    simp only [zs_iconst, zs_bipush, zs_lconst, zs_ldc2, zs_iload_n, zs_lload_n, zs_aload_n, zs_aload, zs_astore0, zs_astore1, zs_isub, zs_lcmp, zs_i2l, zs_l2i, zs_dup0, zs_dup1, zs_dup2, zs_if_lt, zs_if_le, zs_icmp_ne, zs_icmp_gt, zs_ifnonnull0, zs_ifnonnull1, zs_get, zs_put, zs_ireturn, zx_iv, zx_is, zx_it, zx_nw, zx_na, zx_an, zx_cc, zx_gs, zx_as, zx_ae, zx_ac, zx_at, zr_seg, zr_t, zr_f, zr_tp, zr_fp, zr_lg, zr_lr, zr_lr0, zr_wi, zr_wr, zr_wn, zr_wl, zr_vo, zr_so, zr_sI, zr_sL, zr_sA, zr_sN, zr_in, zr_rd, zr_wr2, zr_kf, zr_k0, zr_k1, zr_k2, zr_k3, zr_k3n, zr_k10, zr_k11, zr_k12, zr_k13, zr_k13n, zr_ai, zr_af, zr_aw, zr_aL, zr_Lf, zr_Lw, zr_l2, zr_l20, zr_al, zr_an, zr_aq, zr_ag, zr_rfs, zr_rfn, zr_r1, zr_r2, zr_w0, zr_w1, zr_tl, zr_40, zr_41, zr_42, zr_43, d_D_cash_0, d_D_cash_1, d_D_cash_2, d_D_cash_5, d_D_cash_7, d_D_cash_9, zt_9_6, zo_9_6, d_D_cash_12, cb_m11, d_D_cash_14, d_D_cash_15, d_D_cash_16, cl_1, d_D_cash_17, d_D_cash_18, zt_18_11, zo_18_11, d_D_cash_21, d_D_cash_22, ll_D_138, d_D_cash_25, d_D_cash_26, zt_26_6, zo_26_6, d_D_cash_29, cb_m12, d_D_cash_31, d_D_cash_32, d_D_cash_34, fl_D_144, d_D_cash_37, ci_5, d_D_cash_38, zt_38_26, zo_38_26, d_D_cash_41, d_D_cash_43, fl_D_73, d_D_cash_46, fl_D_157, d_D_cash_49, ci_2, d_D_cash_50, zt_50_14, zo_50_14, d_D_cash_53, d_D_cash_54, d_D_cash_56, fl_D_160, d_D_cash_59, d_D_cash_60, d_D_cash_61, zt_61_6, zo_61_6, d_D_cash_64, cb_m13, d_D_cash_66, d_D_cash_67, d_D_cash_69, d_D_cash_70, d_D_cash_73, d_D_cash_74, d_D_cash_75, d_D_cash_76, d_D_cash_79, d_D_cash_81, d_D_cash_84, za_0, za_i, za_r, za_n, za_l, zu_s, zu_u, Nat.reduceAdd, Nat.reduceLT, Nat.reduceBEq, Nat.zero_add, Bool.false_or, Bool.or_false, Bool.true_or, Bool.or_true, Bool.false_and, Bool.and_false, Bool.true_and, Bool.and_true, true_and, and_true, true_or, or_true, eq_self, Nat.le_refl, List.getElem?_cons_succ, List.getElem?_cons_zero, List.set_cons_succ, List.set_cons_zero, zk_0, zk_1, zk_2, zk_3, zk_4, zq_1, zq_2, Option.isSome_some, Option.getD_some, Option.toList_some, Option.toList_none, List.cons_append, List.nil_append, true_implies, false_implies, not_true_eq_false, not_false_eq_true, zn_10, Int32.reduceLT, Int32.reduceLE, implies_true, and_self]
    exact ⟨-11, S, rfl, hr, zFr_r _ _, Or.inl ⟨hx, rfl, rfl⟩⟩
def zCla (S : Nat → Nat → Nat → Int32) (N : Nat → Nat → Nat) (i side v : Int32) : Prop :=
  ((side < 0 ∨ 2 < side) ∧ v = -12) ∨ (¬ (side < 0 ∨ 2 < side) ∧ ((¬ (0 ≤ i ∧ i < nI (N 1 0)) ∧ v = -1) ∨ ∃ k, k < N 1 0 ∧ i = nI k ∧ ((side = 0 ∧ v = S 2 k 0) ∨ (side = 1 ∧ v = S 2 k 1) ∨ (side ≠ 0 ∧ side ≠ 1 ∧ v = S 2 k 2))))
set_option maxHeartbeats 4000000 in
set_option maxRecDepth 100000 in
/-- clash -/
theorem c_D_clash (l : Launch) (D : va_G) (dA : Nat → ClassId) (z : Nat) (M : zVw) (rl : Nat → Nat) (A : Nat → Nat → Nat) (S : Nat → Nat → Nat → Int32) (N : Nat → Nat → Nat) (T : Nat → Int64) (i side : Int32) (hr : zRep M rl dA A S N T) : zMet l y_D_clash b_D_clash 4 (some .int) 4 104 0 0 D dA z [.ref (A 0 0), .int i, .int side] M (fun v M' => M' = M ∧ ∃ r, v = some (.int r) ∧ zCla S N i side r) := by
  have hM2 := hr.1.1
  unfold zDo at hM2
  obtain ⟨cap, g, mo, q1, q2, q3⟩ := zLr_get hr.2.2.1
  have hb := hr.2.2.2.2.2.2.2.2.2.2.2.2.1
  have hnc : N 1 0 ≤ cap := by
    rcases q1.2 with ⟨_, w1, w2⟩ | ⟨_, w1, _⟩
    · omega
    · exact w1
  refine z_of 1 false (by decide) (fun h => by first | rfl | cases h) (Nat.le_of_ble_eq_true rfl) trivial ?_
  intro p e s m args below meth c C hR
  refine zgo (cut := fun _ => false) 60 C lk_D hR ?_
  simp only [zs_iconst, zs_bipush, zs_iload_n, zs_aload_n, zs_astore_n0, zs_astore_n1, zs_if_ne, zs_if_lt, zs_icmp_ne, zs_icmp_lt, zs_icmp_le, zs_goto, zs_get, zs_ireturn, zx_iv, zx_is, zx_it, zx_nw, zx_na, zx_an, zx_cc, zx_gs, zx_as, zx_ae, zx_ac, zx_at, zr_seg, zr_t, zr_f, zr_tp, zr_fp, zr_lg, zr_lr, zr_lr0, zr_wi, zr_wr, zr_wn, zr_wl, zr_vo, zr_so, zr_sI, zr_sL, zr_sA, zr_sN, zr_in, zr_rd, zr_wr2, zr_kf, zr_k0, zr_k1, zr_k2, zr_k3, zr_k3n, zr_k10, zr_k11, zr_k12, zr_k13, zr_k13n, zr_ai, zr_af, zr_aw, zr_aL, zr_Lf, zr_Lw, zr_l2, zr_l20, zr_al, zr_an, zr_aq, zr_ag, zr_rfs, zr_rfn, zr_r1, zr_r2, zr_w0, zr_w1, zr_tl, zr_40, zr_41, zr_42, zr_43, d_D_clash_0, d_D_clash_1, zt_1_8, zo_1_8, d_D_clash_4, d_D_clash_5, ci_2, d_D_clash_6, zt_6_6, zo_6_6, d_D_clash_9, cb_m12, d_D_clash_11, d_D_clash_12, d_D_clash_13, zt_13_14, zo_13_14, d_D_clash_16, d_D_clash_17, d_D_clash_18, fl_D_16, d_D_clash_21, d_D_clash_24, zt_24_5, zo_24_5, d_D_clash_27, ci_m1, d_D_clash_28, d_D_clash_29, d_D_clash_30, d_D_clash_33, d_D_clash_34, d_D_clash_37, d_D_clash_40, d_D_clash_41, d_D_clash_42, zt_42_8, zo_42_8, d_D_clash_45, d_D_clash_46, fl_D_121, d_D_clash_49, d_D_clash_50, d_D_clash_51, ci_1, d_D_clash_52, zt_52_10, zo_52_10, d_D_clash_55, d_D_clash_56, fl_D_125, d_D_clash_59, zt_59_7, zo_59_7, d_D_clash_62, d_D_clash_63, fl_D_128, d_D_clash_66, za_0, za_i, za_r, za_n, za_l, zu_s, zu_u, Nat.reduceAdd, Nat.reduceLT, Nat.reduceBEq, Nat.zero_add, Bool.false_or, Bool.or_false, Bool.true_or, Bool.or_true, Bool.false_and, Bool.and_false, Bool.true_and, Bool.and_true, true_and, and_true, true_or, or_true, eq_self, Nat.le_refl, List.getElem?_cons_succ, List.getElem?_cons_zero, List.set_cons_succ, List.set_cons_zero, zk_0, zk_1, zk_2, zk_3, zk_4, zq_1, zq_2, Option.isSome_some, Option.getD_some, Option.toList_some, Option.toList_none, List.cons_append, List.nil_append, hM2, true_implies, false_implies, not_true_eq_false, not_false_eq_true, zn_10, Int32.reduceLT, Int32.reduceLE, implies_true, and_self]
  have neg1 : ¬ (side < 0 ∨ 2 < side) → ¬ (0 ≤ i ∧ i < nI (N 1 0)) → zCla S N i side (-1) := fun a b => Or.inr ⟨a, Or.inl ⟨b, rfl⟩⟩
  refine ⟨fun w => ⟨-12, rfl, Or.inl ⟨Or.inl w, rfl⟩⟩, fun w => ⟨fun y => ⟨fun u => ⟨-1, rfl, neg1 (by clear hR C; (simp only [Int32.lt_iff_toInt_lt, Int32.le_iff_toInt_le, ← Int32.toInt_inj, Int32.reduceToInt] at *; omega)) (by clear hR C; (simp only [Int32.lt_iff_toInt_lt, Int32.le_iff_toInt_le, ← Int32.toInt_inj, Int32.reduceToInt] at *; omega))⟩, fun u => ?_⟩, fun y => ⟨-12, rfl, Or.inl ⟨Or.inr (by clear hR C; (simp only [Int32.lt_iff_toInt_lt, Int32.le_iff_toInt_le, ← Int32.toInt_inj, Int32.reduceToInt] at *; omega)), rfl⟩⟩⟩⟩
  have hs : ¬ (side < 0 ∨ 2 < side) := by clear hR C; (simp only [Int32.lt_iff_toInt_lt, Int32.le_iff_toInt_le, ← Int32.toInt_inj, Int32.reduceToInt] at *; omega)
  refine zJ_callV (As := []) (rest := [.int i]) C d_D_clash_21 (c_L_size l D dA z M (A 0 2) (A 0 7) (N 1 0) mo q1.1) k_D_41 n_L_size v_L_size q1.1 rfl rfl ⟨(Nat.le_of_ble_eq_true rfl), (Nat.le_of_ble_eq_true rfl)⟩ ⟨(Nat.le_of_ble_eq_true rfl), (Nat.le_of_ble_eq_true rfl)⟩ rfl (Nat.le_of_ble_eq_true rfl) ?_
  rintro v M' ⟨rfl, rfl⟩
  refine zgo (cut := fun _ => false) 60 C lk_D hR ?_
  simp only [zs_iconst, zs_bipush, zs_iload_n, zs_aload_n, zs_astore_n0, zs_astore_n1, zs_if_ne, zs_if_lt, zs_icmp_ne, zs_icmp_lt, zs_icmp_le, zs_goto, zs_get, zs_ireturn, zx_iv, zx_is, zx_it, zx_nw, zx_na, zx_an, zx_cc, zx_gs, zx_as, zx_ae, zx_ac, zx_at, zr_seg, zr_t, zr_f, zr_tp, zr_fp, zr_lg, zr_lr, zr_lr0, zr_wi, zr_wr, zr_wn, zr_wl, zr_vo, zr_so, zr_sI, zr_sL, zr_sA, zr_sN, zr_in, zr_rd, zr_wr2, zr_kf, zr_k0, zr_k1, zr_k2, zr_k3, zr_k3n, zr_k10, zr_k11, zr_k12, zr_k13, zr_k13n, zr_ai, zr_af, zr_aw, zr_aL, zr_Lf, zr_Lw, zr_l2, zr_l20, zr_al, zr_an, zr_aq, zr_ag, zr_rfs, zr_rfn, zr_r1, zr_r2, zr_w0, zr_w1, zr_tl, zr_40, zr_41, zr_42, zr_43, d_D_clash_0, d_D_clash_1, zt_1_8, zo_1_8, d_D_clash_4, d_D_clash_5, ci_2, d_D_clash_6, zt_6_6, zo_6_6, d_D_clash_9, cb_m12, d_D_clash_11, d_D_clash_12, d_D_clash_13, zt_13_14, zo_13_14, d_D_clash_16, d_D_clash_17, d_D_clash_18, fl_D_16, d_D_clash_21, d_D_clash_24, zt_24_5, zo_24_5, d_D_clash_27, ci_m1, d_D_clash_28, d_D_clash_29, d_D_clash_30, d_D_clash_33, d_D_clash_34, d_D_clash_37, d_D_clash_40, d_D_clash_41, d_D_clash_42, zt_42_8, zo_42_8, d_D_clash_45, d_D_clash_46, fl_D_121, d_D_clash_49, d_D_clash_50, d_D_clash_51, ci_1, d_D_clash_52, zt_52_10, zo_52_10, d_D_clash_55, d_D_clash_56, fl_D_125, d_D_clash_59, zt_59_7, zo_59_7, d_D_clash_62, d_D_clash_63, fl_D_128, d_D_clash_66, za_0, za_i, za_r, za_n, za_l, zu_s, zu_u, Nat.reduceAdd, Nat.reduceLT, Nat.reduceBEq, Nat.zero_add, Bool.false_or, Bool.or_false, Bool.true_or, Bool.or_true, Bool.false_and, Bool.and_false, Bool.true_and, Bool.and_true, true_and, and_true, true_or, or_true, eq_self, Nat.le_refl, List.getElem?_cons_succ, List.getElem?_cons_zero, List.set_cons_succ, List.set_cons_zero, zk_0, zk_1, zk_2, zk_3, zk_4, zq_1, zq_2, Option.isSome_some, Option.getD_some, Option.toList_some, Option.toList_none, List.cons_append, List.nil_append, hM2, true_implies, false_implies, not_true_eq_false, not_false_eq_true, zn_10, Int32.reduceLT, Int32.reduceLE, implies_true, and_self]
  refine ⟨fun k => ?_, fun k => ⟨-1, rfl, neg1 hs (fun a => k a.2)⟩⟩
  obtain ⟨j, hj, hij⟩ : ∃ j, j < N 1 0 ∧ i = nI j := by
    obtain ⟨j, _, j2⟩ := nI_of u
    subst j2
    exact ⟨j, (nI_ltI (by omega) (by omega)).mp k, rfl⟩
  subst hij
  rcases q1.2 with ⟨_, w1, _⟩ | ⟨hE, _, _⟩
  · omega
  refine zJ_callV (As := [.int (nI j)]) (rest := []) C d_D_clash_34 (c_L_get l D dA z M' (A 0 2) (A 0 7) (N 1 0) cap j (A 3 j) mo g q1.1 hE hj hnc (by omega) (q3 j hj)) k_D_109 n_L_get v_L_get q1.1 rfl rfl ⟨(Nat.le_of_ble_eq_true rfl), (Nat.le_of_ble_eq_true rfl)⟩ ⟨(Nat.le_of_ble_eq_true rfl), (Nat.le_of_ble_eq_true rfl)⟩ rfl (Nat.le_of_ble_eq_true rfl) ?_
  rintro v M'' ⟨rfl, rfl⟩
  have hc := (hr.2.2.2.2.2.2.2.1 j hj).1
  refine zJ_cast (ci := 2) (rest := []) C d_D_clash_37 (by decide +kernel) rfl rfl hc ?_
  refine zgo (cut := fun _ => false) 60 C lk_D hR ?_
  simp only [zs_iconst, zs_bipush, zs_iload_n, zs_aload_n, zs_astore_n0, zs_astore_n1, zs_if_ne, zs_if_lt, zs_icmp_ne, zs_icmp_lt, zs_icmp_le, zs_goto, zs_get, zs_ireturn, zx_iv, zx_is, zx_it, zx_nw, zx_na, zx_an, zx_cc, zx_gs, zx_as, zx_ae, zx_ac, zx_at, zr_seg, zr_t, zr_f, zr_tp, zr_fp, zr_lg, zr_lr, zr_lr0, zr_wi, zr_wr, zr_wn, zr_wl, zr_vo, zr_so, zr_sI, zr_sL, zr_sA, zr_sN, zr_in, zr_rd, zr_wr2, zr_kf, zr_k0, zr_k1, zr_k2, zr_k3, zr_k3n, zr_k10, zr_k11, zr_k12, zr_k13, zr_k13n, zr_ai, zr_af, zr_aw, zr_aL, zr_Lf, zr_Lw, zr_l2, zr_l20, zr_al, zr_an, zr_aq, zr_ag, zr_rfs, zr_rfn, zr_r1, zr_r2, zr_w0, zr_w1, zr_tl, zr_40, zr_41, zr_42, zr_43, d_D_clash_0, d_D_clash_1, zt_1_8, zo_1_8, d_D_clash_4, d_D_clash_5, ci_2, d_D_clash_6, zt_6_6, zo_6_6, d_D_clash_9, cb_m12, d_D_clash_11, d_D_clash_12, d_D_clash_13, zt_13_14, zo_13_14, d_D_clash_16, d_D_clash_17, d_D_clash_18, fl_D_16, d_D_clash_21, d_D_clash_24, zt_24_5, zo_24_5, d_D_clash_27, ci_m1, d_D_clash_28, d_D_clash_29, d_D_clash_30, d_D_clash_33, d_D_clash_34, d_D_clash_37, d_D_clash_40, d_D_clash_41, d_D_clash_42, zt_42_8, zo_42_8, d_D_clash_45, d_D_clash_46, fl_D_121, d_D_clash_49, d_D_clash_50, d_D_clash_51, ci_1, d_D_clash_52, zt_52_10, zo_52_10, d_D_clash_55, d_D_clash_56, fl_D_125, d_D_clash_59, zt_59_7, zo_59_7, d_D_clash_62, d_D_clash_63, fl_D_128, d_D_clash_66, za_0, za_i, za_r, za_n, za_l, zu_s, zu_u, Nat.reduceAdd, Nat.reduceLT, Nat.reduceBEq, Nat.zero_add, Bool.false_or, Bool.or_false, Bool.true_or, Bool.or_true, Bool.false_and, Bool.and_false, Bool.true_and, Bool.and_true, true_and, and_true, true_or, or_true, eq_self, Nat.le_refl, List.getElem?_cons_succ, List.getElem?_cons_zero, List.set_cons_succ, List.set_cons_zero, zk_0, zk_1, zk_2, zk_3, zk_4, zq_1, zq_2, Option.isSome_some, Option.getD_some, Option.toList_some, Option.toList_none, List.cons_append, List.nil_append, hc, true_implies, false_implies, not_true_eq_false, not_false_eq_true, zn_10, Int32.reduceLT, Int32.reduceLE, implies_true, and_self]
  exact ⟨fun a => ⟨fun b => ⟨_, rfl, Or.inr ⟨hs, Or.inr ⟨j, hj, rfl, Or.inr (Or.inr ⟨a, b, rfl⟩)⟩⟩⟩, fun b => ⟨_, rfl, Or.inr ⟨hs, Or.inr ⟨j, hj, rfl, Or.inr (Or.inl ⟨b, rfl⟩)⟩⟩⟩⟩, fun a => ⟨_, rfl, Or.inr ⟨hs, Or.inr ⟨j, hj, rfl, Or.inl ⟨a, rfl⟩⟩⟩⟩⟩
end
section
/-! CALLS of the class over its state: consent, tick. -/
def zTurn (S : Nat → Nat → Nat → Int32) (N : Nat → Nat → Nat) (x v : Int32) (S' : Nat → Nat → Nat → Int32) (N' : Nat → Nat → Nat) : Prop :=
  (∃ j, j < N 2 0 ∧ S 3 0 j = x ∧ (∀ i, i < j → S 3 0 i ≠ x) ∧ v = 0 ∧ S' = zS S 3 0 (upd (S 3 0) j (S 3 0 (N 2 0 - 1))) ∧ N' = zN1 N 2 0 (N 2 0 - 1)) ∨
  (¬ zIn (S 3 0) (N 2 0) x ∧ N 2 0 = 100 ∧ v = -14 ∧ S' = S ∧ N' = N) ∨
  (¬ zIn (S 3 0) (N 2 0) x ∧ N 2 0 < 100 ∧ v = 1 ∧ S' = zS S 3 0 (upd (S 3 0) (N 2 0) x) ∧ N' = zN1 N 2 0 (N 2 0 + 1))
def zCon (S : Nat → Nat → Nat → Int32) (N : Nat → Nat → Nat) (p0 k0 o0 v : Int32) (S' : Nat → Nat → Nat → Int32) (N' : Nat → Nat → Nat) : Prop :=
  (¬ ((0 ≤ p0 ∧ p0 < 100) ∧ 0 ≤ k0 ∧ k0 ≤ 2) ∧ v = -12 ∧ S' = S ∧ N' = N) ∨ (((0 ≤ p0 ∧ p0 < 100) ∧ 0 ≤ k0 ∧ k0 ≤ 2) ∧
    ((k0 = 2 ∧ zTurn S N (zcode p0 2 (-1)) v S' N') ∨ (k0 ≠ 2 ∧ ((¬ (0 ≤ o0 ∧ o0 < 100) ∧ v = -12 ∧ S' = S ∧ N' = N) ∨ ((0 ≤ o0 ∧ o0 < 100) ∧ ((o0 = p0 ∧ v = -13 ∧ S' = S ∧ N' = N) ∨ (o0 ≠ p0 ∧ zTurn S N (zcode p0 k0 o0) v S' N')))))))
theorem zturn_rep {M M' : zVw} {rl : Nat → Nat} {dA : Nat → ClassId} {A : Nat → Nat → Nat} {S : Nat → Nat → Nat → Int32} {N : Nat → Nat → Nat} {T : Nat → Int64} {x : Int32} {v : Option Value} (hr : zRep M rl dA A S N T)
    (h : (∃ j, j < N 2 0 ∧ S 3 0 j = x ∧ (∀ i, i < j → S 3 0 i ≠ x) ∧ v = some (.int 0) ∧ M' = zu (zu M (A 0 3) (zNo (A 0 4) (N 2 0 - 1))) (A 0 4) (zIa dA 100 (upd (S 3 0) j (S 3 0 (N 2 0 - 1))))) ∨ (¬ zIn (S 3 0) (N 2 0) x ∧ N 2 0 = 100 ∧ v = some (.int (-14)) ∧ M' = M) ∨ (¬ zIn (S 3 0) (N 2 0) x ∧ N 2 0 < 100 ∧ v = some (.int 1) ∧ M' = zu (zu M (A 0 4) (zIa dA 100 (upd (S 3 0) (N 2 0) x))) (A 0 3) (zNo (A 0 4) (N 2 0 + 1)))) :
    ∃ r S' N', v = some (.int r) ∧ zRep M' rl dA A S' N' T ∧ zFr M rl M' rl ∧ zTurn S N x r S' N' := by
  have l3 : rl (A 0 3) < 5000000 := by rw [hr.2.2.2.1.2]; decide
  have l4 : rl (A 0 4) < 5000000 := by rw [hr.2.2.2.2.1.2]; decide
  have hb := hr.2.2.2.2.2.2.2.2.2.2.2.2.2
  rcases h with ⟨j, h1, h2, h3, rfl, rfl⟩ | ⟨h1, h2, rfl, rfl⟩ | ⟨h1, h2, rfl, rfl⟩
  · exact ⟨0, _, _, rfl, rep_codes (rep_count hr (by omega)), zFr_t (zFr_u l3) (zFr_u l4), Or.inl ⟨j, h1, h2, h3, rfl, rfl, rfl⟩⟩
  · exact ⟨-14, S, N, rfl, hr, zFr_r _ _, Or.inr (Or.inl ⟨h1, h2, rfl, rfl, rfl⟩)⟩
  · exact ⟨1, _, _, rfl, rep_count (rep_codes hr) (by omega), zFr_t (zFr_u l4) (zFr_u l3), Or.inr (Or.inr ⟨h1, h2, rfl, rfl, rfl⟩)⟩
set_option maxHeartbeats 4000000 in
set_option maxRecDepth 100000 in
/-- consent -/
theorem c_D_consent (l : Launch) (D : va_G) (dA : Nat → ClassId) (z : Nat) (M : zVw) (rl : Nat → Nat) (A : Nat → Nat → Nat) (S : Nat → Nat → Nat → Int32) (N : Nat → Nat → Nat) (T : Nat → Int64) (p0 k0 o0 : Int32) (hr : zRep M rl dA A S N T) : zMet l y_D_consent b_D_consent 4 (some .int) 2 47 0 0 D dA z [.ref (A 0 0), .int p0, .int k0, .int o0] M (fun v M' => ∃ r S' N', v = some (.int r) ∧ zRep M' rl dA A S' N' T ∧ zFr M rl M' rl ∧ zCon S N p0 k0 o0 r S' N') := by
  have hM2 := hr.1.1
  unfold zDo at hM2
  have hb := hr.2.2.2.2.2.2.2.2.2.2.2.2.2
  refine z_of 1 false (by decide) (fun h => by first | rfl | cases h) (Nat.le_of_ble_eq_true rfl) trivial ?_
  intro p e s m args below meth c C hR
  refine zgo (cut := fun _ => false) 60 C lk_D hR ?_
  simp only [zs_iconst, zs_bipush, zs_iload_n, zs_aload_n, zs_if_eq, zs_if_ne, zs_if_lt, zs_icmp_ne, zs_icmp_le, zs_goto, zs_get, zs_ireturn, zx_iv, zx_is, zx_it, zx_nw, zx_na, zx_an, zx_cc, zx_gs, zx_as, zx_ae, zx_ac, zx_at, zr_seg, zr_t, zr_f, zr_tp, zr_fp, zr_lg, zr_lr, zr_lr0, zr_wi, zr_wr, zr_wn, zr_wl, zr_vo, zr_so, zr_sI, zr_sL, zr_sA, zr_sN, zr_in, zr_rd, zr_wr2, zr_kf, zr_k0, zr_k1, zr_k2, zr_k3, zr_k3n, zr_k10, zr_k11, zr_k12, zr_k13, zr_k13n, zr_ai, zr_af, zr_aw, zr_aL, zr_Lf, zr_Lw, zr_l2, zr_l20, zr_al, zr_an, zr_aq, zr_ag, zr_rfs, zr_rfn, zr_r1, zr_r2, zr_w0, zr_w1, zr_tl, zr_40, zr_41, zr_42, zr_43, d_D_consent_0, d_D_consent_1, d_D_consent_4, zt_4_12, zo_4_12, d_D_consent_7, d_D_consent_8, zt_8_8, zo_8_8, d_D_consent_11, d_D_consent_12, ci_2, d_D_consent_13, zt_13_6, zo_13_6, d_D_consent_16, cb_m12, d_D_consent_18, d_D_consent_19, d_D_consent_20, d_D_consent_21, zt_21_14, zo_21_14, d_D_consent_24, d_D_consent_25, fl_D_22, d_D_consent_28, d_D_consent_29, d_D_consent_30, ci_m1, d_D_consent_31, d_D_consent_34, d_D_consent_35, d_D_consent_36, d_D_consent_39, zt_39_6, zo_39_6, d_D_consent_42, d_D_consent_44, d_D_consent_45, d_D_consent_46, d_D_consent_47, zt_47_8, zo_47_8, d_D_consent_50, cb_m13, d_D_consent_52, zt_52_13, zo_52_13, d_D_consent_55, d_D_consent_56, d_D_consent_59, d_D_consent_60, d_D_consent_61, d_D_consent_62, d_D_consent_65, za_0, za_i, za_r, za_n, za_l, zu_s, zu_u, Nat.reduceAdd, Nat.reduceLT, Nat.reduceBEq, Nat.zero_add, Bool.false_or, Bool.or_false, Bool.true_or, Bool.or_true, Bool.false_and, Bool.and_false, Bool.true_and, Bool.and_true, true_and, and_true, true_or, or_true, eq_self, Nat.le_refl, List.getElem?_cons_succ, List.getElem?_cons_zero, List.set_cons_succ, List.set_cons_zero, zk_0, zk_1, zk_2, zk_3, zk_4, zq_1, zq_2, Option.isSome_some, Option.getD_some, Option.toList_some, Option.toList_none, List.cons_append, List.nil_append, hM2, true_implies, false_implies, not_true_eq_false, not_false_eq_true, zn_10, Int32.reduceLT, Int32.reduceLE, implies_true, and_self]
  refine zJ_callS (As := [.int p0]) (rest := []) C d_D_consent_1 (c_D_isPerson l D dA z M p0) k_D_37 s_D_isPerson ⟨(Nat.le_of_ble_eq_true rfl), (Nat.le_of_ble_eq_true rfl)⟩ ⟨(Nat.le_of_ble_eq_true rfl), (Nat.le_of_ble_eq_true rfl)⟩ rfl (Nat.le_of_ble_eq_true rfl) ?_
  rintro v M' ⟨rfl, rfl⟩
  by_cases hp : 0 ≤ p0 ∧ p0 < 100
  · rw [zb_t hp]
    refine zgo (cut := fun _ => false) 60 C lk_D hR ?_
    simp only [zs_iconst, zs_bipush, zs_iload_n, zs_aload_n, zs_if_eq, zs_if_ne, zs_if_lt, zs_icmp_ne, zs_icmp_le, zs_goto, zs_get, zs_ireturn, zx_iv, zx_is, zx_it, zx_nw, zx_na, zx_an, zx_cc, zx_gs, zx_as, zx_ae, zx_ac, zx_at, zr_seg, zr_t, zr_f, zr_tp, zr_fp, zr_lg, zr_lr, zr_lr0, zr_wi, zr_wr, zr_wn, zr_wl, zr_vo, zr_so, zr_sI, zr_sL, zr_sA, zr_sN, zr_in, zr_rd, zr_wr2, zr_kf, zr_k0, zr_k1, zr_k2, zr_k3, zr_k3n, zr_k10, zr_k11, zr_k12, zr_k13, zr_k13n, zr_ai, zr_af, zr_aw, zr_aL, zr_Lf, zr_Lw, zr_l2, zr_l20, zr_al, zr_an, zr_aq, zr_ag, zr_rfs, zr_rfn, zr_r1, zr_r2, zr_w0, zr_w1, zr_tl, zr_40, zr_41, zr_42, zr_43, d_D_consent_0, d_D_consent_1, d_D_consent_4, zt_4_12, zo_4_12, d_D_consent_7, d_D_consent_8, zt_8_8, zo_8_8, d_D_consent_11, d_D_consent_12, ci_2, d_D_consent_13, zt_13_6, zo_13_6, d_D_consent_16, cb_m12, d_D_consent_18, d_D_consent_19, d_D_consent_20, d_D_consent_21, zt_21_14, zo_21_14, d_D_consent_24, d_D_consent_25, fl_D_22, d_D_consent_28, d_D_consent_29, d_D_consent_30, ci_m1, d_D_consent_31, d_D_consent_34, d_D_consent_35, d_D_consent_36, d_D_consent_39, zt_39_6, zo_39_6, d_D_consent_42, d_D_consent_44, d_D_consent_45, d_D_consent_46, d_D_consent_47, zt_47_8, zo_47_8, d_D_consent_50, cb_m13, d_D_consent_52, zt_52_13, zo_52_13, d_D_consent_55, d_D_consent_56, d_D_consent_59, d_D_consent_60, d_D_consent_61, d_D_consent_62, d_D_consent_65, za_0, za_i, za_r, za_n, za_l, zu_s, zu_u, Nat.reduceAdd, Nat.reduceLT, Nat.reduceBEq, Nat.zero_add, Bool.false_or, Bool.or_false, Bool.true_or, Bool.or_true, Bool.false_and, Bool.and_false, Bool.true_and, Bool.and_true, true_and, and_true, true_or, or_true, eq_self, Nat.le_refl, List.getElem?_cons_succ, List.getElem?_cons_zero, List.set_cons_succ, List.set_cons_zero, zk_0, zk_1, zk_2, zk_3, zk_4, zq_1, zq_2, Option.isSome_some, Option.getD_some, Option.toList_some, Option.toList_none, List.cons_append, List.nil_append, hM2, true_implies, false_implies, not_true_eq_false, not_false_eq_true, zn_10, Int32.reduceLT, Int32.reduceLE, implies_true, and_self]
    have out : ¬ (0 ≤ k0 ∧ k0 ≤ 2) → ∃ r S' N', some (Value.int (-12)) = some (Value.int r) ∧ zRep M' rl dA A S' N' T ∧ zFr M' rl M' rl ∧ zCon S N p0 k0 o0 r S' N' := fun q => ⟨-12, S, N, rfl, hr, zFr_r _ _, Or.inl ⟨fun w => q w.2, rfl, rfl, rfl⟩⟩
    refine ⟨fun q => out (by clear hR C; (simp only [Int32.lt_iff_toInt_lt, Int32.le_iff_toInt_le, ← Int32.toInt_inj, Int32.reduceToInt] at *; omega)), fun q => ⟨fun w => ⟨fun y => ?_, fun y => ?_⟩, fun w => out (fun u => w u.2)⟩⟩
    · have hk : (0 ≤ p0 ∧ p0 < 100) ∧ 0 ≤ k0 ∧ k0 ≤ 2 := by clear hR C; (simp only [Int32.lt_iff_toInt_lt, Int32.le_iff_toInt_le, ← Int32.toInt_inj, Int32.reduceToInt] at *; omega)
      refine zJ_callS (As := [.int o0]) (rest := []) C d_D_consent_36 (c_D_isPerson l D dA z M' o0) k_D_37 s_D_isPerson ⟨(Nat.le_of_ble_eq_true rfl), (Nat.le_of_ble_eq_true rfl)⟩ ⟨(Nat.le_of_ble_eq_true rfl), (Nat.le_of_ble_eq_true rfl)⟩ rfl (Nat.le_of_ble_eq_true rfl) ?_
      rintro v M'' ⟨rfl, rfl⟩
      by_cases ho : 0 ≤ o0 ∧ o0 < 100
      · rw [zb_t ho]
        refine zgo (cut := fun _ => false) 60 C lk_D hR ?_
        simp only [zs_iconst, zs_bipush, zs_iload_n, zs_aload_n, zs_if_eq, zs_if_ne, zs_if_lt, zs_icmp_ne, zs_icmp_le, zs_goto, zs_get, zs_ireturn, zx_iv, zx_is, zx_it, zx_nw, zx_na, zx_an, zx_cc, zx_gs, zx_as, zx_ae, zx_ac, zx_at, zr_seg, zr_t, zr_f, zr_tp, zr_fp, zr_lg, zr_lr, zr_lr0, zr_wi, zr_wr, zr_wn, zr_wl, zr_vo, zr_so, zr_sI, zr_sL, zr_sA, zr_sN, zr_in, zr_rd, zr_wr2, zr_kf, zr_k0, zr_k1, zr_k2, zr_k3, zr_k3n, zr_k10, zr_k11, zr_k12, zr_k13, zr_k13n, zr_ai, zr_af, zr_aw, zr_aL, zr_Lf, zr_Lw, zr_l2, zr_l20, zr_al, zr_an, zr_aq, zr_ag, zr_rfs, zr_rfn, zr_r1, zr_r2, zr_w0, zr_w1, zr_tl, zr_40, zr_41, zr_42, zr_43, d_D_consent_0, d_D_consent_1, d_D_consent_4, zt_4_12, zo_4_12, d_D_consent_7, d_D_consent_8, zt_8_8, zo_8_8, d_D_consent_11, d_D_consent_12, ci_2, d_D_consent_13, zt_13_6, zo_13_6, d_D_consent_16, cb_m12, d_D_consent_18, d_D_consent_19, d_D_consent_20, d_D_consent_21, zt_21_14, zo_21_14, d_D_consent_24, d_D_consent_25, fl_D_22, d_D_consent_28, d_D_consent_29, d_D_consent_30, ci_m1, d_D_consent_31, d_D_consent_34, d_D_consent_35, d_D_consent_36, d_D_consent_39, zt_39_6, zo_39_6, d_D_consent_42, d_D_consent_44, d_D_consent_45, d_D_consent_46, d_D_consent_47, zt_47_8, zo_47_8, d_D_consent_50, cb_m13, d_D_consent_52, zt_52_13, zo_52_13, d_D_consent_55, d_D_consent_56, d_D_consent_59, d_D_consent_60, d_D_consent_61, d_D_consent_62, d_D_consent_65, za_0, za_i, za_r, za_n, za_l, zu_s, zu_u, Nat.reduceAdd, Nat.reduceLT, Nat.reduceBEq, Nat.zero_add, Bool.false_or, Bool.or_false, Bool.true_or, Bool.or_true, Bool.false_and, Bool.and_false, Bool.true_and, Bool.and_true, true_and, and_true, true_or, or_true, eq_self, Nat.le_refl, List.getElem?_cons_succ, List.getElem?_cons_zero, List.set_cons_succ, List.set_cons_zero, zk_0, zk_1, zk_2, zk_3, zk_4, zq_1, zq_2, Option.isSome_some, Option.getD_some, Option.toList_some, Option.toList_none, List.cons_append, List.nil_append, hM2, true_implies, false_implies, not_true_eq_false, not_false_eq_true, zn_10, Int32.reduceLT, Int32.reduceLE, implies_true, and_self]
        refine ⟨fun u => ?_, fun u => ⟨-13, S, N, rfl, hr, zFr_r _ _, Or.inr ⟨hk, Or.inr ⟨y, Or.inr ⟨ho, Or.inl ⟨u, rfl, rfl, rfl⟩⟩⟩⟩⟩⟩
        refine zJ_callV (As := [.int p0, .int k0, .int o0]) (rest := []) C d_D_consent_62 (c_N_turn l D dA z M'' (A 0 3) (A 0 4) (N 2 0) (S 3 0) p0 k0 o0 hr.2.2.2.1.1 hr.2.2.2.2.1.1 hb) k_D_54 n_N_turn v_N_turn hr.2.2.2.1.1 rfl rfl ⟨(Nat.le_of_ble_eq_true rfl), (Nat.le_of_ble_eq_true rfl)⟩ ⟨(Nat.le_of_ble_eq_true rfl), (Nat.le_of_ble_eq_true rfl)⟩ rfl (Nat.le_of_ble_eq_true rfl) ?_
        intro v M3 hv
        obtain ⟨r, S', N', rfl, g1, g2, g3⟩ := zturn_rep hr hv
        refine zgo (cut := fun _ => false) 60 C lk_D hR ?_
        simp only [zs_iconst, zs_bipush, zs_iload_n, zs_aload_n, zs_if_eq, zs_if_ne, zs_if_lt, zs_icmp_ne, zs_icmp_le, zs_goto, zs_get, zs_ireturn, zx_iv, zx_is, zx_it, zx_nw, zx_na, zx_an, zx_cc, zx_gs, zx_as, zx_ae, zx_ac, zx_at, zr_seg, zr_t, zr_f, zr_tp, zr_fp, zr_lg, zr_lr, zr_lr0, zr_wi, zr_wr, zr_wn, zr_wl, zr_vo, zr_so, zr_sI, zr_sL, zr_sA, zr_sN, zr_in, zr_rd, zr_wr2, zr_kf, zr_k0, zr_k1, zr_k2, zr_k3, zr_k3n, zr_k10, zr_k11, zr_k12, zr_k13, zr_k13n, zr_ai, zr_af, zr_aw, zr_aL, zr_Lf, zr_Lw, zr_l2, zr_l20, zr_al, zr_an, zr_aq, zr_ag, zr_rfs, zr_rfn, zr_r1, zr_r2, zr_w0, zr_w1, zr_tl, zr_40, zr_41, zr_42, zr_43, d_D_consent_0, d_D_consent_1, d_D_consent_4, zt_4_12, zo_4_12, d_D_consent_7, d_D_consent_8, zt_8_8, zo_8_8, d_D_consent_11, d_D_consent_12, ci_2, d_D_consent_13, zt_13_6, zo_13_6, d_D_consent_16, cb_m12, d_D_consent_18, d_D_consent_19, d_D_consent_20, d_D_consent_21, zt_21_14, zo_21_14, d_D_consent_24, d_D_consent_25, fl_D_22, d_D_consent_28, d_D_consent_29, d_D_consent_30, ci_m1, d_D_consent_31, d_D_consent_34, d_D_consent_35, d_D_consent_36, d_D_consent_39, zt_39_6, zo_39_6, d_D_consent_42, d_D_consent_44, d_D_consent_45, d_D_consent_46, d_D_consent_47, zt_47_8, zo_47_8, d_D_consent_50, cb_m13, d_D_consent_52, zt_52_13, zo_52_13, d_D_consent_55, d_D_consent_56, d_D_consent_59, d_D_consent_60, d_D_consent_61, d_D_consent_62, d_D_consent_65, za_0, za_i, za_r, za_n, za_l, zu_s, zu_u, Nat.reduceAdd, Nat.reduceLT, Nat.reduceBEq, Nat.zero_add, Bool.false_or, Bool.or_false, Bool.true_or, Bool.or_true, Bool.false_and, Bool.and_false, Bool.true_and, Bool.and_true, true_and, and_true, true_or, or_true, eq_self, Nat.le_refl, List.getElem?_cons_succ, List.getElem?_cons_zero, List.set_cons_succ, List.set_cons_zero, zk_0, zk_1, zk_2, zk_3, zk_4, zq_1, zq_2, Option.isSome_some, Option.getD_some, Option.toList_some, Option.toList_none, List.cons_append, List.nil_append, true_implies, false_implies, not_true_eq_false, not_false_eq_true, zn_10, Int32.reduceLT, Int32.reduceLE, implies_true, and_self]
        exact ⟨r, S', N', rfl, g1, g2, Or.inr ⟨hk, Or.inr ⟨y, Or.inr ⟨ho, Or.inr ⟨u, g3⟩⟩⟩⟩⟩
      · rw [zb_f ho]
        refine zgo (cut := fun _ => false) 60 C lk_D hR ?_
        simp only [zs_iconst, zs_bipush, zs_iload_n, zs_aload_n, zs_if_eq, zs_if_ne, zs_if_lt, zs_icmp_ne, zs_icmp_le, zs_goto, zs_get, zs_ireturn, zx_iv, zx_is, zx_it, zx_nw, zx_na, zx_an, zx_cc, zx_gs, zx_as, zx_ae, zx_ac, zx_at, zr_seg, zr_t, zr_f, zr_tp, zr_fp, zr_lg, zr_lr, zr_lr0, zr_wi, zr_wr, zr_wn, zr_wl, zr_vo, zr_so, zr_sI, zr_sL, zr_sA, zr_sN, zr_in, zr_rd, zr_wr2, zr_kf, zr_k0, zr_k1, zr_k2, zr_k3, zr_k3n, zr_k10, zr_k11, zr_k12, zr_k13, zr_k13n, zr_ai, zr_af, zr_aw, zr_aL, zr_Lf, zr_Lw, zr_l2, zr_l20, zr_al, zr_an, zr_aq, zr_ag, zr_rfs, zr_rfn, zr_r1, zr_r2, zr_w0, zr_w1, zr_tl, zr_40, zr_41, zr_42, zr_43, d_D_consent_0, d_D_consent_1, d_D_consent_4, zt_4_12, zo_4_12, d_D_consent_7, d_D_consent_8, zt_8_8, zo_8_8, d_D_consent_11, d_D_consent_12, ci_2, d_D_consent_13, zt_13_6, zo_13_6, d_D_consent_16, cb_m12, d_D_consent_18, d_D_consent_19, d_D_consent_20, d_D_consent_21, zt_21_14, zo_21_14, d_D_consent_24, d_D_consent_25, fl_D_22, d_D_consent_28, d_D_consent_29, d_D_consent_30, ci_m1, d_D_consent_31, d_D_consent_34, d_D_consent_35, d_D_consent_36, d_D_consent_39, zt_39_6, zo_39_6, d_D_consent_42, d_D_consent_44, d_D_consent_45, d_D_consent_46, d_D_consent_47, zt_47_8, zo_47_8, d_D_consent_50, cb_m13, d_D_consent_52, zt_52_13, zo_52_13, d_D_consent_55, d_D_consent_56, d_D_consent_59, d_D_consent_60, d_D_consent_61, d_D_consent_62, d_D_consent_65, za_0, za_i, za_r, za_n, za_l, zu_s, zu_u, Nat.reduceAdd, Nat.reduceLT, Nat.reduceBEq, Nat.zero_add, Bool.false_or, Bool.or_false, Bool.true_or, Bool.or_true, Bool.false_and, Bool.and_false, Bool.true_and, Bool.and_true, true_and, and_true, true_or, or_true, eq_self, Nat.le_refl, List.getElem?_cons_succ, List.getElem?_cons_zero, List.set_cons_succ, List.set_cons_zero, zk_0, zk_1, zk_2, zk_3, zk_4, zq_1, zq_2, Option.isSome_some, Option.getD_some, Option.toList_some, Option.toList_none, List.cons_append, List.nil_append, hM2, true_implies, false_implies, not_true_eq_false, not_false_eq_true, zn_10, Int32.reduceLT, Int32.reduceLE, implies_true, and_self]
        exact ⟨-12, S, N, rfl, hr, zFr_r _ _, Or.inr ⟨hk, Or.inr ⟨y, Or.inl ⟨ho, rfl, rfl, rfl⟩⟩⟩⟩
    · have hk : (0 ≤ p0 ∧ p0 < 100) ∧ 0 ≤ k0 ∧ k0 ≤ 2 := by clear hR C; (simp only [Int32.lt_iff_toInt_lt, Int32.le_iff_toInt_le, ← Int32.toInt_inj, Int32.reduceToInt] at *; omega)
      refine zJ_callV (As := [.int p0, .int 2, .int (-1)]) (rest := []) C d_D_consent_31 (c_N_turn l D dA z M' (A 0 3) (A 0 4) (N 2 0) (S 3 0) p0 2 (-1) hr.2.2.2.1.1 hr.2.2.2.2.1.1 hb) k_D_54 n_N_turn v_N_turn hr.2.2.2.1.1 rfl rfl ⟨(Nat.le_of_ble_eq_true rfl), (Nat.le_of_ble_eq_true rfl)⟩ ⟨(Nat.le_of_ble_eq_true rfl), (Nat.le_of_ble_eq_true rfl)⟩ rfl (Nat.le_of_ble_eq_true rfl) ?_
      intro v M3 hv
      obtain ⟨r, S', N', rfl, g1, g2, g3⟩ := zturn_rep hr hv
      refine zgo (cut := fun _ => false) 60 C lk_D hR ?_
      simp only [zs_iconst, zs_bipush, zs_iload_n, zs_aload_n, zs_if_eq, zs_if_ne, zs_if_lt, zs_icmp_ne, zs_icmp_le, zs_goto, zs_get, zs_ireturn, zx_iv, zx_is, zx_it, zx_nw, zx_na, zx_an, zx_cc, zx_gs, zx_as, zx_ae, zx_ac, zx_at, zr_seg, zr_t, zr_f, zr_tp, zr_fp, zr_lg, zr_lr, zr_lr0, zr_wi, zr_wr, zr_wn, zr_wl, zr_vo, zr_so, zr_sI, zr_sL, zr_sA, zr_sN, zr_in, zr_rd, zr_wr2, zr_kf, zr_k0, zr_k1, zr_k2, zr_k3, zr_k3n, zr_k10, zr_k11, zr_k12, zr_k13, zr_k13n, zr_ai, zr_af, zr_aw, zr_aL, zr_Lf, zr_Lw, zr_l2, zr_l20, zr_al, zr_an, zr_aq, zr_ag, zr_rfs, zr_rfn, zr_r1, zr_r2, zr_w0, zr_w1, zr_tl, zr_40, zr_41, zr_42, zr_43, d_D_consent_0, d_D_consent_1, d_D_consent_4, zt_4_12, zo_4_12, d_D_consent_7, d_D_consent_8, zt_8_8, zo_8_8, d_D_consent_11, d_D_consent_12, ci_2, d_D_consent_13, zt_13_6, zo_13_6, d_D_consent_16, cb_m12, d_D_consent_18, d_D_consent_19, d_D_consent_20, d_D_consent_21, zt_21_14, zo_21_14, d_D_consent_24, d_D_consent_25, fl_D_22, d_D_consent_28, d_D_consent_29, d_D_consent_30, ci_m1, d_D_consent_31, d_D_consent_34, d_D_consent_35, d_D_consent_36, d_D_consent_39, zt_39_6, zo_39_6, d_D_consent_42, d_D_consent_44, d_D_consent_45, d_D_consent_46, d_D_consent_47, zt_47_8, zo_47_8, d_D_consent_50, cb_m13, d_D_consent_52, zt_52_13, zo_52_13, d_D_consent_55, d_D_consent_56, d_D_consent_59, d_D_consent_60, d_D_consent_61, d_D_consent_62, d_D_consent_65, za_0, za_i, za_r, za_n, za_l, zu_s, zu_u, Nat.reduceAdd, Nat.reduceLT, Nat.reduceBEq, Nat.zero_add, Bool.false_or, Bool.or_false, Bool.true_or, Bool.or_true, Bool.false_and, Bool.and_false, Bool.true_and, Bool.and_true, true_and, and_true, true_or, or_true, eq_self, Nat.le_refl, List.getElem?_cons_succ, List.getElem?_cons_zero, List.set_cons_succ, List.set_cons_zero, zk_0, zk_1, zk_2, zk_3, zk_4, zq_1, zq_2, Option.isSome_some, Option.getD_some, Option.toList_some, Option.toList_none, List.cons_append, List.nil_append, true_implies, false_implies, not_true_eq_false, not_false_eq_true, zn_10, Int32.reduceLT, Int32.reduceLE, implies_true, and_self]
      exact ⟨r, S', N', rfl, g1, g2, Or.inr ⟨hk, Or.inl ⟨y, g3⟩⟩⟩
  · rw [zb_f hp]
    refine zgo (cut := fun _ => false) 60 C lk_D hR ?_
    simp only [zs_iconst, zs_bipush, zs_iload_n, zs_aload_n, zs_if_eq, zs_if_ne, zs_if_lt, zs_icmp_ne, zs_icmp_le, zs_goto, zs_get, zs_ireturn, zx_iv, zx_is, zx_it, zx_nw, zx_na, zx_an, zx_cc, zx_gs, zx_as, zx_ae, zx_ac, zx_at, zr_seg, zr_t, zr_f, zr_tp, zr_fp, zr_lg, zr_lr, zr_lr0, zr_wi, zr_wr, zr_wn, zr_wl, zr_vo, zr_so, zr_sI, zr_sL, zr_sA, zr_sN, zr_in, zr_rd, zr_wr2, zr_kf, zr_k0, zr_k1, zr_k2, zr_k3, zr_k3n, zr_k10, zr_k11, zr_k12, zr_k13, zr_k13n, zr_ai, zr_af, zr_aw, zr_aL, zr_Lf, zr_Lw, zr_l2, zr_l20, zr_al, zr_an, zr_aq, zr_ag, zr_rfs, zr_rfn, zr_r1, zr_r2, zr_w0, zr_w1, zr_tl, zr_40, zr_41, zr_42, zr_43, d_D_consent_0, d_D_consent_1, d_D_consent_4, zt_4_12, zo_4_12, d_D_consent_7, d_D_consent_8, zt_8_8, zo_8_8, d_D_consent_11, d_D_consent_12, ci_2, d_D_consent_13, zt_13_6, zo_13_6, d_D_consent_16, cb_m12, d_D_consent_18, d_D_consent_19, d_D_consent_20, d_D_consent_21, zt_21_14, zo_21_14, d_D_consent_24, d_D_consent_25, fl_D_22, d_D_consent_28, d_D_consent_29, d_D_consent_30, ci_m1, d_D_consent_31, d_D_consent_34, d_D_consent_35, d_D_consent_36, d_D_consent_39, zt_39_6, zo_39_6, d_D_consent_42, d_D_consent_44, d_D_consent_45, d_D_consent_46, d_D_consent_47, zt_47_8, zo_47_8, d_D_consent_50, cb_m13, d_D_consent_52, zt_52_13, zo_52_13, d_D_consent_55, d_D_consent_56, d_D_consent_59, d_D_consent_60, d_D_consent_61, d_D_consent_62, d_D_consent_65, za_0, za_i, za_r, za_n, za_l, zu_s, zu_u, Nat.reduceAdd, Nat.reduceLT, Nat.reduceBEq, Nat.zero_add, Bool.false_or, Bool.or_false, Bool.true_or, Bool.or_true, Bool.false_and, Bool.and_false, Bool.true_and, Bool.and_true, true_and, and_true, true_or, or_true, eq_self, Nat.le_refl, List.getElem?_cons_succ, List.getElem?_cons_zero, List.set_cons_succ, List.set_cons_zero, zk_0, zk_1, zk_2, zk_3, zk_4, zq_1, zq_2, Option.isSome_some, Option.getD_some, Option.toList_some, Option.toList_none, List.cons_append, List.nil_append, hM2, true_implies, false_implies, not_true_eq_false, not_false_eq_true, zn_10, Int32.reduceLT, Int32.reduceLE, implies_true, and_self]
    exact ⟨-12, S, N, rfl, hr, zFr_r _ _, Or.inl ⟨fun w => hp w.1, rfl, rfl, rfl⟩⟩
/-- a day comes: what goes back, and how many -/
abbrev zGo (S : Nat → Nat → Nat → Int32) (day : Int64) (i : Nat) : Prop := S 1 i 0 = 2 ∧ (S 1 i 5).toInt64 < day
def zTc (S : Nat → Nat → Nat → Int32) (day : Int64) : Nat → Nat
  | 0 => 0
  | k + 1 => zTc S day k + (if zGo S day k then 1 else 0)
def zTs (S : Nat → Nat → Nat → Int32) (day : Int64) : Nat → Nat → Nat → Nat → Int32
  | 0 => S
  | k + 1 => if zGo S day k then zS (zTs S day k) 1 k (upd (upd (S 1 k) 0 8) 10 (-1)) else zTs S day k
theorem zTs_old {S : Nat → Nat → Nat → Int32} {day : Int64} {t i : Nat} : ∀ k, (t ≠ 1 ∨ k ≤ i) → zTs S day k t i = S t i
  | 0, _ => rfl
  | k + 1, h => by
    unfold zTs
    split
    · have hn : ¬ (t = 1 ∧ i = k) := fun q => h.elim (fun a => a q.1) (fun a => by omega)
      show (if t = 1 ∧ i = k then _ else _) = _
      rw [if_neg hn]
      exact zTs_old k (h.elim Or.inl (fun a => Or.inr (by omega)))
    · exact zTs_old k (h.elim Or.inl (fun a => Or.inr (by omega)))
theorem zTc_le {S : Nat → Nat → Nat → Int32} {day : Int64} : ∀ k, zTc S day k ≤ k
  | 0 => Nat.le_refl _
  | k + 1 => by
    have := zTc_le (S := S) (day := day) k
    unfold zTc
    split <;> omega
end
section
/-! tick -/
def zTick (S : Nat → Nat → Nat → Int32) (N : Nat → Nat → Nat) (T : Nat → Int64) (day : Int64) (v : Int32) (S' : Nat → Nat → Nat → Int32) (T' : Nat → Int64) : Prop :=
  ((day < T 8 ∨ 1000000 < day) ∧ v = -12 ∧ S' = S ∧ T' = T) ∨ (¬ (day < T 8 ∨ 1000000 < day) ∧ v = nI (zTc S day (N 0 0)) ∧ S' = zTs S day (N 0 0) ∧ T' = va_up T 8 day)
set_option maxHeartbeats 4000000 in
set_option maxRecDepth 100000 in
theorem c_D_tick (l : Launch) (D : va_G) (dA : Nat → ClassId) (z : Nat) (M : zVw) (rl : Nat → Nat) (A : Nat → Nat → Nat) (S : Nat → Nat → Nat → Int32) (N : Nat → Nat → Nat) (T : Nat → Int64) (day : Int64) (hr : zRep M rl dA A S N T) : zMet l y_D_tick b_D_tick 5 (some .int) 4 104 0 0 D dA z [.ref (A 0 0), .long day] M (fun v M' => ∃ r S' T', v = some (.int r) ∧ zRep M' rl dA A S' N T' ∧ zFr M rl M' rl ∧ zTick S N T day r S' T') := by
  have hM2 := hr.1.1
  unfold zDo at hM2
  have hb := hr.2.2.2.2.2.2.2.2.2.2.2.1
  have l0 : rl (A 0 0) < 5000000 := by rw [hr.1.2]; decide
  refine z_of 1 false (by decide) (fun h => by first | rfl | cases h) (Nat.le_of_ble_eq_true rfl) trivial ?_
  intro p e s m args below meth c C hR
  have loop : ¬ (day < T 8 ∨ 1000000 < day) → ∀ (k i : Nat) (M1 : zVw), N 0 0 - i ≤ k → i ≤ N 0 0 → zRep M1 rl dA A (zTs S day i) N (va_up T 8 day) → zFr M rl M1 rl → zJ p l e (zR 4 104 0 0) s m args below meth c (MQ below (zQ D dA z (fun v M' => ∃ r S' T', v = some (.int r) ∧ zRep M' rl dA A S' N T' ∧ zFr M rl M' rl ∧ zTick S N T day r S' T')) args s 0 0 (fun q => z ≤ q)) 5 z D 30 [(4, .int (nI i)), (3, .int (nI (zTc S day i))), (0, .ref (A 0 0)), (1, .long day)] [] M1 0 0 := by
    intro hday k
    induction k with
    | zero =>
      intro i M1 h1 h2 h3 h5
      have hi : i = N 0 0 := by omega
      subst hi
      have hM3 := h3.1.1
      unfold zDo at hM3
      obtain ⟨cap, g, mo, q1, q2, q3⟩ := zLr_get h3.2.1
      refine zgo (cut := fun q => q == 30) 60 C lk_D hR ?_
      simp only [zs_iconst, zs_bipush, zs_ldc2, zs_iload_n, zs_iload, zs_lload_n, zs_aload_n, zs_istore_n, zs_istore, zs_lcmp, zs_if_eq, zs_if_lt, zs_if_le, zs_icmp_ge, zs_goto, zs_iinc, zs_get, zs_put, zs_ireturn, zx_iv, zx_is, zx_it, zx_nw, zx_na, zx_an, zx_cc, zx_gs, zx_as, zx_ae, zx_ac, zx_at, zr_seg, zr_t, zr_f, zr_tp, zr_fp, zr_lg, zr_lr, zr_lr0, zr_wi, zr_wr, zr_wn, zr_wl, zr_vo, zr_so, zr_sI, zr_sL, zr_sA, zr_sN, zr_in, zr_rd, zr_wr2, zr_kf, zr_k0, zr_k1, zr_k2, zr_k3, zr_k3n, zr_k10, zr_k11, zr_k12, zr_k13, zr_k13n, zr_ai, zr_af, zr_aw, zr_aL, zr_Lf, zr_Lw, zr_l2, zr_l20, zr_al, zr_an, zr_aq, zr_ag, zr_rfs, zr_rfn, zr_r1, zr_r2, zr_w0, zr_w1, zr_tl, zr_40, zr_41, zr_42, zr_43, d_D_tick_0, d_D_tick_1, d_D_tick_2, fl_D_32, d_D_tick_5, d_D_tick_6, zt_6_11, zo_6_11, d_D_tick_9, d_D_tick_10, ll_D_138, d_D_tick_13, d_D_tick_14, zt_14_6, zo_14_6, d_D_tick_17, cb_m12, d_D_tick_19, d_D_tick_20, d_D_tick_21, d_D_tick_22, d_D_tick_25, ci_0, d_D_tick_26, d_D_tick_27, d_D_tick_28, d_D_tick_30, d_D_tick_32, d_D_tick_33, fl_D_12, d_D_tick_36, d_D_tick_39, zt_39_34, zo_39_34, d_D_tick_42, d_D_tick_43, d_D_tick_46, d_D_tick_48, d_D_tick_51, d_D_tick_54, fl_D_73, d_D_tick_57, d_D_tick_58, d_D_tick_61, zt_61_6, zo_61_6, d_D_tick_64, ci_1, d_D_tick_67, d_D_tick_70, zt_70_m40, zo_70_m40, d_D_tick_73, d_D_tick_74, za_0, za_i, za_r, za_n, za_l, zu_s, zu_u, Nat.reduceAdd, Nat.reduceLT, Nat.reduceBEq, Nat.zero_add, Bool.false_or, Bool.or_false, Bool.true_or, Bool.or_true, Bool.false_and, Bool.and_false, Bool.true_and, Bool.and_true, true_and, and_true, true_or, or_true, eq_self, Nat.le_refl, List.getElem?_cons_succ, List.getElem?_cons_zero, List.set_cons_succ, List.set_cons_zero, zk_0, zk_1, zk_2, zk_3, zk_4, zq_1, zq_2, Option.isSome_some, Option.getD_some, Option.toList_some, Option.toList_none, List.cons_append, List.nil_append, hM3, true_implies, false_implies, not_true_eq_false, not_false_eq_true, zn_10, Int32.reduceLT, Int32.reduceLE, implies_true, and_self]
      refine zJ_callV (As := []) (rest := [.int (nI (N 0 0))]) C d_D_tick_36 (c_L_size l D dA z M1 (A 0 1) (A 0 6) (N 0 0) mo q1.1) k_D_41 n_L_size v_L_size q1.1 rfl rfl ⟨(Nat.le_of_ble_eq_true rfl), (Nat.le_of_ble_eq_true rfl)⟩ ⟨(Nat.le_of_ble_eq_true rfl), (Nat.le_of_ble_eq_true rfl)⟩ rfl (Nat.le_of_ble_eq_true rfl) ?_
      rintro v M' ⟨rfl, rfl⟩
      refine zgo (cut := fun q => q == 30) 60 C lk_D hR ?_
      simp only [zs_iconst, zs_bipush, zs_ldc2, zs_iload_n, zs_iload, zs_lload_n, zs_aload_n, zs_istore_n, zs_istore, zs_lcmp, zs_if_eq, zs_if_lt, zs_if_le, zs_icmp_ge, zs_goto, zs_iinc, zs_get, zs_put, zs_ireturn, zx_iv, zx_is, zx_it, zx_nw, zx_na, zx_an, zx_cc, zx_gs, zx_as, zx_ae, zx_ac, zx_at, zr_seg, zr_t, zr_f, zr_tp, zr_fp, zr_lg, zr_lr, zr_lr0, zr_wi, zr_wr, zr_wn, zr_wl, zr_vo, zr_so, zr_sI, zr_sL, zr_sA, zr_sN, zr_in, zr_rd, zr_wr2, zr_kf, zr_k0, zr_k1, zr_k2, zr_k3, zr_k3n, zr_k10, zr_k11, zr_k12, zr_k13, zr_k13n, zr_ai, zr_af, zr_aw, zr_aL, zr_Lf, zr_Lw, zr_l2, zr_l20, zr_al, zr_an, zr_aq, zr_ag, zr_rfs, zr_rfn, zr_r1, zr_r2, zr_w0, zr_w1, zr_tl, zr_40, zr_41, zr_42, zr_43, d_D_tick_0, d_D_tick_1, d_D_tick_2, fl_D_32, d_D_tick_5, d_D_tick_6, zt_6_11, zo_6_11, d_D_tick_9, d_D_tick_10, ll_D_138, d_D_tick_13, d_D_tick_14, zt_14_6, zo_14_6, d_D_tick_17, cb_m12, d_D_tick_19, d_D_tick_20, d_D_tick_21, d_D_tick_22, d_D_tick_25, ci_0, d_D_tick_26, d_D_tick_27, d_D_tick_28, d_D_tick_30, d_D_tick_32, d_D_tick_33, fl_D_12, d_D_tick_36, d_D_tick_39, zt_39_34, zo_39_34, d_D_tick_42, d_D_tick_43, d_D_tick_46, d_D_tick_48, d_D_tick_51, d_D_tick_54, fl_D_73, d_D_tick_57, d_D_tick_58, d_D_tick_61, zt_61_6, zo_61_6, d_D_tick_64, ci_1, d_D_tick_67, d_D_tick_70, zt_70_m40, zo_70_m40, d_D_tick_73, d_D_tick_74, za_0, za_i, za_r, za_n, za_l, zu_s, zu_u, Nat.reduceAdd, Nat.reduceLT, Nat.reduceBEq, Nat.zero_add, Bool.false_or, Bool.or_false, Bool.true_or, Bool.or_true, Bool.false_and, Bool.and_false, Bool.true_and, Bool.and_true, true_and, and_true, true_or, or_true, eq_self, Nat.le_refl, List.getElem?_cons_succ, List.getElem?_cons_zero, List.set_cons_succ, List.set_cons_zero, zk_0, zk_1, zk_2, zk_3, zk_4, zq_1, zq_2, Option.isSome_some, Option.getD_some, Option.toList_some, Option.toList_none, List.cons_append, List.nil_append, hM3, true_implies, false_implies, not_true_eq_false, not_false_eq_true, zn_10, Int32.reduceLT, Int32.reduceLE, implies_true, and_self]
      exact ⟨fun _ => ⟨_, _, _, rfl, h3, h5, Or.inr ⟨hday, rfl, rfl, rfl⟩⟩, fun q => absurd (nI_le (Nat.le_refl _) (by omega)) q⟩
    | succ k ih =>
      intro i M1 h1 h2 h3 h5
      have hM3 := h3.1.1
      unfold zDo at hM3
      obtain ⟨cap, g, mo, q1, q2, q3⟩ := zLr_get h3.2.1
      refine zgo (cut := fun q => q == 30) 60 C lk_D hR ?_
      simp only [zs_iconst, zs_bipush, zs_ldc2, zs_iload_n, zs_iload, zs_lload_n, zs_aload_n, zs_istore_n, zs_istore, zs_lcmp, zs_if_eq, zs_if_lt, zs_if_le, zs_icmp_ge, zs_goto, zs_iinc, zs_get, zs_put, zs_ireturn, zx_iv, zx_is, zx_it, zx_nw, zx_na, zx_an, zx_cc, zx_gs, zx_as, zx_ae, zx_ac, zx_at, zr_seg, zr_t, zr_f, zr_tp, zr_fp, zr_lg, zr_lr, zr_lr0, zr_wi, zr_wr, zr_wn, zr_wl, zr_vo, zr_so, zr_sI, zr_sL, zr_sA, zr_sN, zr_in, zr_rd, zr_wr2, zr_kf, zr_k0, zr_k1, zr_k2, zr_k3, zr_k3n, zr_k10, zr_k11, zr_k12, zr_k13, zr_k13n, zr_ai, zr_af, zr_aw, zr_aL, zr_Lf, zr_Lw, zr_l2, zr_l20, zr_al, zr_an, zr_aq, zr_ag, zr_rfs, zr_rfn, zr_r1, zr_r2, zr_w0, zr_w1, zr_tl, zr_40, zr_41, zr_42, zr_43, d_D_tick_0, d_D_tick_1, d_D_tick_2, fl_D_32, d_D_tick_5, d_D_tick_6, zt_6_11, zo_6_11, d_D_tick_9, d_D_tick_10, ll_D_138, d_D_tick_13, d_D_tick_14, zt_14_6, zo_14_6, d_D_tick_17, cb_m12, d_D_tick_19, d_D_tick_20, d_D_tick_21, d_D_tick_22, d_D_tick_25, ci_0, d_D_tick_26, d_D_tick_27, d_D_tick_28, d_D_tick_30, d_D_tick_32, d_D_tick_33, fl_D_12, d_D_tick_36, d_D_tick_39, zt_39_34, zo_39_34, d_D_tick_42, d_D_tick_43, d_D_tick_46, d_D_tick_48, d_D_tick_51, d_D_tick_54, fl_D_73, d_D_tick_57, d_D_tick_58, d_D_tick_61, zt_61_6, zo_61_6, d_D_tick_64, ci_1, d_D_tick_67, d_D_tick_70, zt_70_m40, zo_70_m40, d_D_tick_73, d_D_tick_74, za_0, za_i, za_r, za_n, za_l, zu_s, zu_u, Nat.reduceAdd, Nat.reduceLT, Nat.reduceBEq, Nat.zero_add, Bool.false_or, Bool.or_false, Bool.true_or, Bool.or_true, Bool.false_and, Bool.and_false, Bool.true_and, Bool.and_true, true_and, and_true, true_or, or_true, eq_self, Nat.le_refl, List.getElem?_cons_succ, List.getElem?_cons_zero, List.set_cons_succ, List.set_cons_zero, zk_0, zk_1, zk_2, zk_3, zk_4, zq_1, zq_2, Option.isSome_some, Option.getD_some, Option.toList_some, Option.toList_none, List.cons_append, List.nil_append, hM3, true_implies, false_implies, not_true_eq_false, not_false_eq_true, zn_10, Int32.reduceLT, Int32.reduceLE, implies_true, and_self]
      refine zJ_callV (As := []) (rest := [.int (nI i)]) C d_D_tick_36 (c_L_size l D dA z M1 (A 0 1) (A 0 6) (N 0 0) mo q1.1) k_D_41 n_L_size v_L_size q1.1 rfl rfl ⟨(Nat.le_of_ble_eq_true rfl), (Nat.le_of_ble_eq_true rfl)⟩ ⟨(Nat.le_of_ble_eq_true rfl), (Nat.le_of_ble_eq_true rfl)⟩ rfl (Nat.le_of_ble_eq_true rfl) ?_
      rintro v M' ⟨rfl, rfl⟩
      refine zgo (cut := fun q => q == 30) 60 C lk_D hR ?_
      simp only [zs_iconst, zs_bipush, zs_ldc2, zs_iload_n, zs_iload, zs_lload_n, zs_aload_n, zs_istore_n, zs_istore, zs_lcmp, zs_if_eq, zs_if_lt, zs_if_le, zs_icmp_ge, zs_goto, zs_iinc, zs_get, zs_put, zs_ireturn, zx_iv, zx_is, zx_it, zx_nw, zx_na, zx_an, zx_cc, zx_gs, zx_as, zx_ae, zx_ac, zx_at, zr_seg, zr_t, zr_f, zr_tp, zr_fp, zr_lg, zr_lr, zr_lr0, zr_wi, zr_wr, zr_wn, zr_wl, zr_vo, zr_so, zr_sI, zr_sL, zr_sA, zr_sN, zr_in, zr_rd, zr_wr2, zr_kf, zr_k0, zr_k1, zr_k2, zr_k3, zr_k3n, zr_k10, zr_k11, zr_k12, zr_k13, zr_k13n, zr_ai, zr_af, zr_aw, zr_aL, zr_Lf, zr_Lw, zr_l2, zr_l20, zr_al, zr_an, zr_aq, zr_ag, zr_rfs, zr_rfn, zr_r1, zr_r2, zr_w0, zr_w1, zr_tl, zr_40, zr_41, zr_42, zr_43, d_D_tick_0, d_D_tick_1, d_D_tick_2, fl_D_32, d_D_tick_5, d_D_tick_6, zt_6_11, zo_6_11, d_D_tick_9, d_D_tick_10, ll_D_138, d_D_tick_13, d_D_tick_14, zt_14_6, zo_14_6, d_D_tick_17, cb_m12, d_D_tick_19, d_D_tick_20, d_D_tick_21, d_D_tick_22, d_D_tick_25, ci_0, d_D_tick_26, d_D_tick_27, d_D_tick_28, d_D_tick_30, d_D_tick_32, d_D_tick_33, fl_D_12, d_D_tick_36, d_D_tick_39, zt_39_34, zo_39_34, d_D_tick_42, d_D_tick_43, d_D_tick_46, d_D_tick_48, d_D_tick_51, d_D_tick_54, fl_D_73, d_D_tick_57, d_D_tick_58, d_D_tick_61, zt_61_6, zo_61_6, d_D_tick_64, ci_1, d_D_tick_67, d_D_tick_70, zt_70_m40, zo_70_m40, d_D_tick_73, d_D_tick_74, za_0, za_i, za_r, za_n, za_l, zu_s, zu_u, Nat.reduceAdd, Nat.reduceLT, Nat.reduceBEq, Nat.zero_add, Bool.false_or, Bool.or_false, Bool.true_or, Bool.or_true, Bool.false_and, Bool.and_false, Bool.true_and, Bool.and_true, true_and, and_true, true_or, or_true, eq_self, Nat.le_refl, List.getElem?_cons_succ, List.getElem?_cons_zero, List.set_cons_succ, List.set_cons_zero, zk_0, zk_1, zk_2, zk_3, zk_4, zq_1, zq_2, Option.isSome_some, Option.getD_some, Option.toList_some, Option.toList_none, List.cons_append, List.nil_append, hM3, true_implies, false_implies, not_true_eq_false, not_false_eq_true, zn_10, Int32.reduceLT, Int32.reduceLE, implies_true, and_self]
      refine ⟨fun q => ?_, fun q => ?_⟩
      · have hi : i = N 0 0 := by
          rcases Nat.lt_or_ge i (N 0 0) with w | w
          · exact absurd q (nI_ge w (by omega))
          · omega
        subst hi
        exact ⟨_, _, _, rfl, h3, h5, Or.inr ⟨hday, rfl, rfl, rfl⟩⟩
      · have hlt : i < N 0 0 := by
          rcases Nat.lt_or_ge i (N 0 0) with w | w
          · exact w
          · exact absurd (nI_le w (by omega)) q
        have hnc : N 0 0 ≤ cap := by
          rcases q1.2 with ⟨_, w1, w2⟩ | ⟨_, w1, _⟩
          · omega
          · exact w1
        rcases q1.2 with ⟨_, w1, _⟩ | ⟨hE, _, _⟩
        · omega
        have eS : zTs S day i 1 i = S 1 i := zTs_old i (Or.inr (Nat.le_refl _))
        have a1 := (h3.2.2.2.2.2.2.1 i hlt).1.1
        have a2 := (h3.2.2.2.2.2.2.1 i hlt).2.1.1
        have lf : rl (A 2 i) < 5000000 := by rw [(h3.2.2.2.2.2.2.1 i hlt).2.1.2]; unfold zr; omega
        have hbo := (h3.2.2.2.2.2.2.1 i hlt).2.2
        rw [eS] at a2 hbo
        have a1c := a1
        unfold iA at a1
        refine zJ_callV (As := [.int (nI i)]) (rest := []) C d_D_tick_48 (c_L_get l D dA z M' (A 0 1) (A 0 6) (N 0 0) cap i (A 1 i) mo g q1.1 hE hlt hnc (by omega) (q3 i hlt)) k_D_109 n_L_get v_L_get q1.1 rfl rfl ⟨(Nat.le_of_ble_eq_true rfl), (Nat.le_of_ble_eq_true rfl)⟩ ⟨(Nat.le_of_ble_eq_true rfl), (Nat.le_of_ble_eq_true rfl)⟩ rfl (Nat.le_of_ble_eq_true rfl) ?_
        rintro v M'' ⟨rfl, rfl⟩
        refine zJ_cast (ci := 6) (rest := []) C d_D_tick_51 (by decide +kernel) rfl rfl a1 ?_
        refine zgo (cut := fun q => q == 30) 60 C lk_D hR ?_
        simp only [zs_iconst, zs_bipush, zs_ldc2, zs_iload_n, zs_iload, zs_lload_n, zs_aload_n, zs_istore_n, zs_istore, zs_lcmp, zs_if_eq, zs_if_lt, zs_if_le, zs_icmp_ge, zs_goto, zs_iinc, zs_get, zs_put, zs_ireturn, zx_iv, zx_is, zx_it, zx_nw, zx_na, zx_an, zx_cc, zx_gs, zx_as, zx_ae, zx_ac, zx_at, zr_seg, zr_t, zr_f, zr_tp, zr_fp, zr_lg, zr_lr, zr_lr0, zr_wi, zr_wr, zr_wn, zr_wl, zr_vo, zr_so, zr_sI, zr_sL, zr_sA, zr_sN, zr_in, zr_rd, zr_wr2, zr_kf, zr_k0, zr_k1, zr_k2, zr_k3, zr_k3n, zr_k10, zr_k11, zr_k12, zr_k13, zr_k13n, zr_ai, zr_af, zr_aw, zr_aL, zr_Lf, zr_Lw, zr_l2, zr_l20, zr_al, zr_an, zr_aq, zr_ag, zr_rfs, zr_rfn, zr_r1, zr_r2, zr_w0, zr_w1, zr_tl, zr_40, zr_41, zr_42, zr_43, d_D_tick_0, d_D_tick_1, d_D_tick_2, fl_D_32, d_D_tick_5, d_D_tick_6, zt_6_11, zo_6_11, d_D_tick_9, d_D_tick_10, ll_D_138, d_D_tick_13, d_D_tick_14, zt_14_6, zo_14_6, d_D_tick_17, cb_m12, d_D_tick_19, d_D_tick_20, d_D_tick_21, d_D_tick_22, d_D_tick_25, ci_0, d_D_tick_26, d_D_tick_27, d_D_tick_28, d_D_tick_30, d_D_tick_32, d_D_tick_33, fl_D_12, d_D_tick_36, d_D_tick_39, zt_39_34, zo_39_34, d_D_tick_42, d_D_tick_43, d_D_tick_46, d_D_tick_48, d_D_tick_51, d_D_tick_54, fl_D_73, d_D_tick_57, d_D_tick_58, d_D_tick_61, zt_61_6, zo_61_6, d_D_tick_64, ci_1, d_D_tick_67, d_D_tick_70, zt_70_m40, zo_70_m40, d_D_tick_73, d_D_tick_74, za_0, za_i, za_r, za_n, za_l, zu_s, zu_u, Nat.reduceAdd, Nat.reduceLT, Nat.reduceBEq, Nat.zero_add, Bool.false_or, Bool.or_false, Bool.true_or, Bool.or_true, Bool.false_and, Bool.and_false, Bool.true_and, Bool.and_true, true_and, and_true, true_or, or_true, eq_self, Nat.le_refl, List.getElem?_cons_succ, List.getElem?_cons_zero, List.set_cons_succ, List.set_cons_zero, zk_0, zk_1, zk_2, zk_3, zk_4, zq_1, zq_2, Option.isSome_some, Option.getD_some, Option.toList_some, Option.toList_none, List.cons_append, List.nil_append, a1, true_implies, false_implies, not_true_eq_false, not_false_eq_true, zn_10, Int32.reduceLT, Int32.reduceLE, implies_true, and_self]
        refine zJ_callV (As := [.long day]) (rest := []) C d_D_tick_58 (c_F_goBackBy l D dA z M'' (A 2 i) (S 1 i) day a2) k_D_140 n_F_goBackBy v_F_goBackBy a2 rfl rfl ⟨(Nat.le_of_ble_eq_true rfl), (Nat.le_of_ble_eq_true rfl)⟩ ⟨(Nat.le_of_ble_eq_true rfl), (Nat.le_of_ble_eq_true rfl)⟩ rfl (Nat.le_of_ble_eq_true rfl) ?_
        rintro v M3 (⟨hg, rfl, rfl⟩ | ⟨hg, rfl, rfl⟩)
        · refine zgo (cut := fun q => q == 30) 60 C lk_D hR ?_
          simp only [zs_iconst, zs_bipush, zs_ldc2, zs_iload_n, zs_iload, zs_lload_n, zs_aload_n, zs_istore_n, zs_istore, zs_lcmp, zs_if_eq, zs_if_lt, zs_if_le, zs_icmp_ge, zs_goto, zs_iinc, zs_get, zs_put, zs_ireturn, zx_iv, zx_is, zx_it, zx_nw, zx_na, zx_an, zx_cc, zx_gs, zx_as, zx_ae, zx_ac, zx_at, zr_seg, zr_t, zr_f, zr_tp, zr_fp, zr_lg, zr_lr, zr_lr0, zr_wi, zr_wr, zr_wn, zr_wl, zr_vo, zr_so, zr_sI, zr_sL, zr_sA, zr_sN, zr_in, zr_rd, zr_wr2, zr_kf, zr_k0, zr_k1, zr_k2, zr_k3, zr_k3n, zr_k10, zr_k11, zr_k12, zr_k13, zr_k13n, zr_ai, zr_af, zr_aw, zr_aL, zr_Lf, zr_Lw, zr_l2, zr_l20, zr_al, zr_an, zr_aq, zr_ag, zr_rfs, zr_rfn, zr_r1, zr_r2, zr_w0, zr_w1, zr_tl, zr_40, zr_41, zr_42, zr_43, d_D_tick_0, d_D_tick_1, d_D_tick_2, fl_D_32, d_D_tick_5, d_D_tick_6, zt_6_11, zo_6_11, d_D_tick_9, d_D_tick_10, ll_D_138, d_D_tick_13, d_D_tick_14, zt_14_6, zo_14_6, d_D_tick_17, cb_m12, d_D_tick_19, d_D_tick_20, d_D_tick_21, d_D_tick_22, d_D_tick_25, ci_0, d_D_tick_26, d_D_tick_27, d_D_tick_28, d_D_tick_30, d_D_tick_32, d_D_tick_33, fl_D_12, d_D_tick_36, d_D_tick_39, zt_39_34, zo_39_34, d_D_tick_42, d_D_tick_43, d_D_tick_46, d_D_tick_48, d_D_tick_51, d_D_tick_54, fl_D_73, d_D_tick_57, d_D_tick_58, d_D_tick_61, zt_61_6, zo_61_6, d_D_tick_64, ci_1, d_D_tick_67, d_D_tick_70, zt_70_m40, zo_70_m40, d_D_tick_73, d_D_tick_74, za_0, za_i, za_r, za_n, za_l, zu_s, zu_u, Nat.reduceAdd, Nat.reduceLT, Nat.reduceBEq, Nat.zero_add, Bool.false_or, Bool.or_false, Bool.true_or, Bool.or_true, Bool.false_and, Bool.and_false, Bool.true_and, Bool.and_true, true_and, and_true, true_or, or_true, eq_self, Nat.le_refl, List.getElem?_cons_succ, List.getElem?_cons_zero, List.set_cons_succ, List.set_cons_zero, zk_0, zk_1, zk_2, zk_3, zk_4, zq_1, zq_2, Option.isSome_some, Option.getD_some, Option.toList_some, Option.toList_none, List.cons_append, List.nil_append, nI_1, true_implies, false_implies, not_true_eq_false, not_false_eq_true, zn_10, Int32.reduceLT, Int32.reduceLE, implies_true, and_self]
          have ec : zTc S day i + 1 = zTc S day (i + 1) := by
            show _ = zTc S day i + (if zGo S day i then 1 else 0)
            rw [if_pos hg]
          have es : zTs S day (i + 1) = zS (zTs S day i) 1 i (upd (upd (S 1 i) 0 8) 10 (-1)) := by
            show (if zGo S day i then _ else _) = _
            rw [if_pos hg]
          rw [ec]
          refine zJ_loc ?_ (ih (i + 1) _ (by omega) (by omega) (by rw [es]; exact rep_facts h3 hlt hbo) (zFr_t h5 (zFr_u lf)))
          intro w hw
          simp only [List.mem_cons, List.not_mem_nil, or_false] at hw ⊢
          rcases hw with rfl | rfl | rfl | rfl <;> simp
        · refine zgo (cut := fun q => q == 30) 60 C lk_D hR ?_
          simp only [zs_iconst, zs_bipush, zs_ldc2, zs_iload_n, zs_iload, zs_lload_n, zs_aload_n, zs_istore_n, zs_istore, zs_lcmp, zs_if_eq, zs_if_lt, zs_if_le, zs_icmp_ge, zs_goto, zs_iinc, zs_get, zs_put, zs_ireturn, zx_iv, zx_is, zx_it, zx_nw, zx_na, zx_an, zx_cc, zx_gs, zx_as, zx_ae, zx_ac, zx_at, zr_seg, zr_t, zr_f, zr_tp, zr_fp, zr_lg, zr_lr, zr_lr0, zr_wi, zr_wr, zr_wn, zr_wl, zr_vo, zr_so, zr_sI, zr_sL, zr_sA, zr_sN, zr_in, zr_rd, zr_wr2, zr_kf, zr_k0, zr_k1, zr_k2, zr_k3, zr_k3n, zr_k10, zr_k11, zr_k12, zr_k13, zr_k13n, zr_ai, zr_af, zr_aw, zr_aL, zr_Lf, zr_Lw, zr_l2, zr_l20, zr_al, zr_an, zr_aq, zr_ag, zr_rfs, zr_rfn, zr_r1, zr_r2, zr_w0, zr_w1, zr_tl, zr_40, zr_41, zr_42, zr_43, d_D_tick_0, d_D_tick_1, d_D_tick_2, fl_D_32, d_D_tick_5, d_D_tick_6, zt_6_11, zo_6_11, d_D_tick_9, d_D_tick_10, ll_D_138, d_D_tick_13, d_D_tick_14, zt_14_6, zo_14_6, d_D_tick_17, cb_m12, d_D_tick_19, d_D_tick_20, d_D_tick_21, d_D_tick_22, d_D_tick_25, ci_0, d_D_tick_26, d_D_tick_27, d_D_tick_28, d_D_tick_30, d_D_tick_32, d_D_tick_33, fl_D_12, d_D_tick_36, d_D_tick_39, zt_39_34, zo_39_34, d_D_tick_42, d_D_tick_43, d_D_tick_46, d_D_tick_48, d_D_tick_51, d_D_tick_54, fl_D_73, d_D_tick_57, d_D_tick_58, d_D_tick_61, zt_61_6, zo_61_6, d_D_tick_64, ci_1, d_D_tick_67, d_D_tick_70, zt_70_m40, zo_70_m40, d_D_tick_73, d_D_tick_74, za_0, za_i, za_r, za_n, za_l, zu_s, zu_u, Nat.reduceAdd, Nat.reduceLT, Nat.reduceBEq, Nat.zero_add, Bool.false_or, Bool.or_false, Bool.true_or, Bool.or_true, Bool.false_and, Bool.and_false, Bool.true_and, Bool.and_true, true_and, and_true, true_or, or_true, eq_self, Nat.le_refl, List.getElem?_cons_succ, List.getElem?_cons_zero, List.set_cons_succ, List.set_cons_zero, zk_0, zk_1, zk_2, zk_3, zk_4, zq_1, zq_2, Option.isSome_some, Option.getD_some, Option.toList_some, Option.toList_none, List.cons_append, List.nil_append, nI_1, true_implies, false_implies, not_true_eq_false, not_false_eq_true, zn_10, Int32.reduceLT, Int32.reduceLE, implies_true, and_self]
          have ec : zTc S day i = zTc S day (i + 1) := by
            show _ = zTc S day i + (if zGo S day i then 1 else 0)
            rw [if_neg hg]; rfl
          have es : zTs S day (i + 1) = zTs S day i := by
            show (if zGo S day i then _ else _) = _
            rw [if_neg hg]
          rw [ec]
          refine zJ_loc ?_ (ih (i + 1) _ (by omega) (by omega) (by rw [es]; exact h3) h5)
          intro w hw
          simp only [List.mem_cons, List.not_mem_nil, or_false] at hw ⊢
          rcases hw with rfl | rfl | rfl | rfl <;> simp
  refine zgo (cut := fun q => q == 30) 60 C lk_D hR ?_
  simp only [zs_iconst, zs_bipush, zs_ldc2, zs_iload_n, zs_iload, zs_lload_n, zs_aload_n, zs_istore_n, zs_istore, zs_lcmp, zs_if_eq, zs_if_lt, zs_if_le, zs_icmp_ge, zs_goto, zs_iinc, zs_get, zs_put, zs_ireturn, zx_iv, zx_is, zx_it, zx_nw, zx_na, zx_an, zx_cc, zx_gs, zx_as, zx_ae, zx_ac, zx_at, zr_seg, zr_t, zr_f, zr_tp, zr_fp, zr_lg, zr_lr, zr_lr0, zr_wi, zr_wr, zr_wn, zr_wl, zr_vo, zr_so, zr_sI, zr_sL, zr_sA, zr_sN, zr_in, zr_rd, zr_wr2, zr_kf, zr_k0, zr_k1, zr_k2, zr_k3, zr_k3n, zr_k10, zr_k11, zr_k12, zr_k13, zr_k13n, zr_ai, zr_af, zr_aw, zr_aL, zr_Lf, zr_Lw, zr_l2, zr_l20, zr_al, zr_an, zr_aq, zr_ag, zr_rfs, zr_rfn, zr_r1, zr_r2, zr_w0, zr_w1, zr_tl, zr_40, zr_41, zr_42, zr_43, d_D_tick_0, d_D_tick_1, d_D_tick_2, fl_D_32, d_D_tick_5, d_D_tick_6, zt_6_11, zo_6_11, d_D_tick_9, d_D_tick_10, ll_D_138, d_D_tick_13, d_D_tick_14, zt_14_6, zo_14_6, d_D_tick_17, cb_m12, d_D_tick_19, d_D_tick_20, d_D_tick_21, d_D_tick_22, d_D_tick_25, ci_0, d_D_tick_26, d_D_tick_27, d_D_tick_28, d_D_tick_30, d_D_tick_32, d_D_tick_33, fl_D_12, d_D_tick_36, d_D_tick_39, zt_39_34, zo_39_34, d_D_tick_42, d_D_tick_43, d_D_tick_46, d_D_tick_48, d_D_tick_51, d_D_tick_54, fl_D_73, d_D_tick_57, d_D_tick_58, d_D_tick_61, zt_61_6, zo_61_6, d_D_tick_64, ci_1, d_D_tick_67, d_D_tick_70, zt_70_m40, zo_70_m40, d_D_tick_73, d_D_tick_74, za_0, za_i, za_r, za_n, za_l, zu_s, zu_u, Nat.reduceAdd, Nat.reduceLT, Nat.reduceBEq, Nat.zero_add, Bool.false_or, Bool.or_false, Bool.true_or, Bool.or_true, Bool.false_and, Bool.and_false, Bool.true_and, Bool.and_true, true_and, and_true, true_or, or_true, eq_self, Nat.le_refl, List.getElem?_cons_succ, List.getElem?_cons_zero, List.set_cons_succ, List.set_cons_zero, zk_0, zk_1, zk_2, zk_3, zk_4, zq_1, zq_2, Option.isSome_some, Option.getD_some, Option.toList_some, Option.toList_none, List.cons_append, List.nil_append, hM2, zc_lt, zc_le, true_implies, false_implies, not_true_eq_false, not_false_eq_true, zn_10, Int32.reduceLT, Int32.reduceLE, implies_true, and_self]
  refine ⟨fun q => ⟨-12, S, T, rfl, hr, zFr_r _ _, Or.inl ⟨Or.inl q, rfl, rfl, rfl⟩⟩, fun q => ⟨fun w => ?_, fun w => ⟨-12, S, T, rfl, hr, zFr_r _ _, Or.inl ⟨Or.inr (by rw [Int64.lt_iff_toInt_lt]; rw [Int64.le_iff_toInt_le] at w; omega), rfl, rfl, rfl⟩⟩⟩⟩
  have hday : ¬ (day < T 8 ∨ 1000000 < day) := fun y => y.elim q (fun y => by rw [Int64.lt_iff_toInt_lt] at y; rw [Int64.le_iff_toInt_le] at w; omega)
  exact zJ_loc (fun w hw => by
    simp only [List.mem_cons, List.not_mem_nil, or_false] at hw ⊢
    rcases hw with rfl | rfl | rfl | rfl <;> simp [nI_0, zTc]) (loop hday (N 0 0) 0 _ (by omega) (by omega) (rep_today hr) (zFr_u l0))
end
section
/-! item: an object more. -/
theorem zAt_k2 {M M' : zVw} {rl rl' : Nat → Nat} {x r r1 r2 : Nat} {e : va_E} (hk : ∀ x, M x ≠ none → rl x ≠ r1 → rl x ≠ r2 → M' x = M x ∧ rl' x = rl x) (h : zAt M rl x r e) (n1 : r ≠ r1) (n2 : r ≠ r2) : zAt M' rl' x r e := by
  obtain ⟨a1, a2⟩ := hk x (by rw [h.1]; exact fun q => by cases q) (by rw [h.2]; exact n1) (by rw [h.2]; exact n2)
  exact ⟨by rw [a1]; exact h.1, by rw [a2]; exact h.2⟩
theorem zLr_k2 {M M' : zVw} {rl rl' : Nat → Nat} {dA : Nat → ClassId} {a ra ed re n r1 r2 : Nat} {ea : Nat → Nat} (hk : ∀ x, M x ≠ none → rl x ≠ r1 → rl x ≠ r2 → M' x = M x ∧ rl' x = rl x) (h : zLr M rl dA a ra ed re n ea) (n1 : ra ≠ r1) (n2 : ra ≠ r2) (n3 : re ≠ r1) (n4 : re ≠ r2) : zLr M' rl' dA a ra ed re n ea := by
  obtain ⟨cap, g, mo, ⟨q1, q2⟩, q3, q4, q5, q6⟩ := h
  obtain ⟨a1, a2⟩ := hk a (by rw [q1]; exact fun q => by cases q) (by rw [q4]; exact n1) (by rw [q4]; exact n2)
  rcases q2 with q2 | ⟨q7, q8, q9⟩
  · exact ⟨cap, g, mo, ⟨by rw [a1]; exact q1, Or.inl q2⟩, q3, by rw [a2]; exact q4, Or.inl q2.2.2, q6⟩
  · have q5' : rl ed = re := by
      rcases q5 with q5 | q5
      · omega
      · exact q5
    obtain ⟨b1, b2⟩ := hk ed (by rw [q7]; exact fun q => by cases q) (by rw [q5']; exact n3) (by rw [q5']; exact n4)
    exact ⟨cap, g, mo, ⟨by rw [a1]; exact q1, Or.inr ⟨by rw [b1]; exact q7, q8, q9⟩⟩, q3, by rw [a2]; exact q4, Or.inr (by rw [b2]; exact q5'), q6⟩
def zA (A : Nat → Nat → Nat) (t i x : Nat) : Nat → Nat → Nat := fun t' i' => if t' = t ∧ i' = i then x else A t' i'
theorem zA_e (A : Nat → Nat → Nat) (t i x : Nat) : zA A t i x t i = x := if_pos ⟨rfl, rfl⟩
theorem zA_n {A : Nat → Nat → Nat} {t i x i' : Nat} (h : i' ≠ i) : zA A t i x t i' = A t i' := if_neg (fun q => h q.2)
theorem zA_t {A : Nat → Nat → Nat} {t t' i i' x : Nat} (h : t' ≠ t) : zA A t i x t' i' = A t' i' := if_neg (fun q => h q.1)
/-- the fields of an item in S -/
def zIt (s r d : Int32) : Nat → Int32 := fun k => if k = 1 then s else if k = 2 then r else if k = 4 then d else 0
set_option maxHeartbeats 4000000 in
set_option maxRecDepth 100000 in
theorem rep_item {M M' : zVw} {rl : Nat → Nat} {dA : Nat → ClassId} {A : Nat → Nat → Nat} {S : Nat → Nat → Nat → Int32} {N : Nat → Nat → Nat} {T : Nat → Int64} {q1 q2 ed' cap' : Nat} {g' : Nat → Option Nat} {mo' s0 r0 d0 : Int32} (hr : zRep M rl dA A S N T) (hn : N 0 0 < 60) (f1 : M q1 = none) (f2 : M q2 = none) (f12 : q1 ≠ q2) (hL : zLs M' dA (A 0 1) ed' (N 0 0 + 1) cap' g' mo') (hM1 : M' q1 = some (iA (nI (N 0 0 + 1)) s0 r0 q2 d0)) (hM2 : M' q2 = some (fA f0)) (hed : (rl ed' = zr 0 6 ∧ M ed' ≠ none) ∨ (M ed' = none ∧ ed' ≠ q1 ∧ ed' ≠ q2)) (heda : ed' ≠ A 0 1) (hcap : cap' ≤ 1000) (hg : ∀ j, j < N 0 0 → g' j = some (A 1 j)) (hg1 : g' (N 0 0) = some q1) (hkeep : ∀ x, x ≠ A 0 1 → x ≠ ed' → x ≠ q1 → x ≠ q2 → M' x = M x) :
    ∃ rl' A', zRep M' rl' dA A' (zS (zS S 0 (N 0 0) (zIt s0 r0 d0)) 1 (N 0 0) f0) (zN1 N 0 0 (N 0 0 + 1)) T ∧ zFr M rl M' rl' ∧ A' 0 0 = A 0 0 := by
  obtain ⟨h1, h2, h3, h4, h5, ⟨g6, h6, h6b⟩, h7, h8, h9, h10, h11, b1, b2, b3⟩ := hr
  have l1 : rl (A 0 1) = zr 0 1 := by obtain ⟨_, _, _, _, _, w, _⟩ := h2; exact w
  have m1 : M (A 0 1) ≠ none := by
    obtain ⟨_, _, _, w, _⟩ := h2
    rw [w.1]
    exact fun q => by cases q
  obtain ⟨rl', erl⟩ : ∃ rl', rl' = va_up (va_up (va_up rl q1 (zr 1 (N 0 0))) q2 (zr 2 (N 0 0))) ed' (zr 0 6) := ⟨_, rfl⟩
  have hfr : ∀ x, M x ≠ none → x ≠ ed' → rl' x = rl x := fun x hx he => by
    rw [erl, va_up_ne _ _ he, va_up_ne _ _ (fun q => hx (by rw [q]; exact f2)), va_up_ne _ _ (fun q => hx (by rw [q]; exact f1))]
  have hned : ∀ x, M x ≠ none → rl x ≠ zr 0 6 → x ≠ ed' := fun x hx hr q => by
    rcases hed with ⟨w, _⟩ | ⟨w, _⟩
    · exact hr (by rw [q]; exact w)
    · exact hx (by rw [q]; exact w)
  have hk : ∀ x, M x ≠ none → rl x ≠ zr 0 1 → rl x ≠ zr 0 6 → M' x = M x ∧ rl' x = rl x := fun x hx ha hb =>
    ⟨hkeep x (fun q => ha (by rw [q]; exact l1)) (hned x hx hb) (fun q => hx (by rw [q]; exact f1)) (fun q => hx (by rw [q]; exact f2)), hfr x hx (hned x hx hb)⟩
  have r1 : rl' q1 = zr 1 (N 0 0) := by
    have : q1 ≠ ed' := fun q => by
      rcases hed with ⟨_, w⟩ | ⟨_, w, _⟩
      · exact w (by rw [← q]; exact f1)
      · exact w q.symm
    rw [erl, va_up_ne _ _ this, va_up_ne _ _ f12, va_up_self]
  have r2 : rl' q2 = zr 2 (N 0 0) := by
    have : q2 ≠ ed' := fun q => by
      rcases hed with ⟨_, w⟩ | ⟨_, _, w⟩
      · exact w (by rw [← q]; exact f2)
      · exact w q.symm
    rw [erl, va_up_ne _ _ this, va_up_self]
  obtain ⟨A', eA⟩ : ∃ A', A' = zA (zA (zA A 0 6 ed') 1 (N 0 0) q1) 2 (N 0 0) q2 := ⟨_, rfl⟩
  have a0 : ∀ i, i ≠ 6 → A' 0 i = A 0 i := fun i hi => by rw [eA, zA_t (by decide), zA_t (by decide), zA_n hi]
  have a06 : A' 0 6 = ed' := by rw [eA, zA_t (by decide), zA_t (by decide), zA_e]
  have a1 : ∀ i, i ≠ N 0 0 → A' 1 i = A 1 i := fun i hi => by rw [eA, zA_t (by decide), zA_n hi, zA_t (by decide)]
  have a1n : A' 1 (N 0 0) = q1 := by rw [eA, zA_t (by decide), zA_e]
  have a2 : ∀ i, i ≠ N 0 0 → A' 2 i = A 2 i := fun i hi => by rw [eA, zA_n hi, zA_t (by decide), zA_t (by decide)]
  have a2n : A' 2 (N 0 0) = q2 := by rw [eA, zA_e]
  have at3 : ∀ t i, t ≠ 0 → t ≠ 1 → t ≠ 2 → A' t i = A t i := fun t i x0 x1 x2 => by rw [eA, zA_t x2, zA_t x1, zA_t x0]
  have s3 : ∀ t i, t ≠ 0 → t ≠ 1 → zS (zS S 0 (N 0 0) (zIt s0 r0 d0)) 1 (N 0 0) f0 t i = S t i := fun t i x0 x1 => by rw [zS_t x1, zS_t x0]
  have s0n : ∀ i, i ≠ N 0 0 → zS (zS S 0 (N 0 0) (zIt s0 r0 d0)) 1 (N 0 0) f0 0 i = S 0 i := fun i hi => by rw [zS_t (by decide), zS_n hi]
  have s0e : zS (zS S 0 (N 0 0) (zIt s0 r0 d0)) 1 (N 0 0) f0 0 (N 0 0) = zIt s0 r0 d0 := by rw [zS_t (by decide), zS_e]
  have s1n : ∀ i, i ≠ N 0 0 → zS (zS S 0 (N 0 0) (zIt s0 r0 d0)) 1 (N 0 0) f0 1 i = S 1 i := fun i hi => by rw [zS_n hi, zS_t (by decide)]
  have s1e : zS (zS S 0 (N 0 0) (zIt s0 r0 d0)) 1 (N 0 0) f0 1 (N 0 0) = f0 := zS_e _ _ _ _
  have n0 : zN1 N 0 0 (N 0 0 + 1) 0 0 = N 0 0 + 1 := zN_e _ _ _ _
  have nt : ∀ t i, t ≠ 0 → zN1 N 0 0 (N 0 0 + 1) t i = N t i := fun t i x0 => zN_t x0
  refine ⟨rl', A', ?_, fun x hx hr => hk x hx (by unfold zr; omega) (by unfold zr; omega), a0 0 (by decide)⟩
  unfold zRep
  rw [a0 0 (by decide), a0 1 (by decide), a0 2 (by decide), a0 3 (by decide), a0 4 (by decide), a0 5 (by decide), a0 7 (by decide), a06, n0, nt 1 0 (by decide), nt 2 0 (by decide), s3 3 0 (by decide) (by decide)]
  have h1' := zAt_k2 hk h1 (show zr 0 0 ≠ zr 0 1 by decide) (show zr 0 0 ≠ zr 0 6 by decide)
  refine ⟨h1', ⟨cap', g', mo', hL, hcap, ?_, Or.inr ?_, fun i hi => ?_⟩, ?_, zAt_k2 hk h4 (by unfold zr; omega) (by unfold zr; omega), zAt_k2 hk h5 (by unfold zr; omega) (by unfold zr; omega), ⟨g6, zAt_k2 hk h6 (by unfold zr; omega) (by unfold zr; omega), fun d hd => by rw [at3 4 d (by decide) (by decide) (by decide)]; exact h6b d hd⟩, fun j hj => ?_, fun i hi => ?_, fun d hd => ?_, fun d j hd hj => ?_, fun d j hd hj => ?_, by omega, b2, b3⟩
  · rw [hfr _ m1 (fun q => heda q.symm)]; exact l1
  · rw [erl, va_up_self]
  · by_cases e : i = N 0 0
    · subst e; rw [a1n]; exact hg1
    · rw [a1 i e]; exact hg i (by omega)
  · have := zLr_k2 hk h3 (by unfold zr; omega) (by unfold zr; omega) (by unfold zr; omega) (by unfold zr; omega)
    obtain ⟨c3, g3, mo3, w1, w2, w3, w4, w5⟩ := this
    exact ⟨c3, g3, mo3, w1, w2, w3, w4, fun i hi => by rw [at3 3 i (by decide) (by decide) (by decide)]; exact w5 i hi⟩
  · by_cases e : j = N 0 0
    · subst e
      rw [a1n, a2n, s0e, s1e]
      exact ⟨⟨hM1, r1⟩, ⟨hM2, r2⟩, Or.inl rfl⟩
    · rw [a1 j e, a2 j e, s0n j e, s1n j e]
      have hj' : j < N 0 0 := by omega
      exact ⟨zAt_k2 hk (h7 j hj').1 (by unfold zr; omega) (by unfold zr; omega), zAt_k2 hk (h7 j hj').2.1 (by unfold zr; omega) (by unfold zr; omega), (h7 j hj').2.2⟩
  · rw [at3 3 i (by decide) (by decide) (by decide), s3 2 i (by decide) (by decide)]
    exact zAt_k2 hk (h8 i hi) (by unfold zr; omega) (by unfold zr; omega)
  · rw [nt 3 d (by decide), nt 4 d (by decide), at3 4 d (by decide) (by decide) (by decide), at3 5 d (by decide) (by decide) (by decide), at3 6 d (by decide) (by decide) (by decide), at3 7 d (by decide) (by decide) (by decide), at3 8 d (by decide) (by decide) (by decide), s3 4 d (by decide) (by decide)]
    have w := h9 d hd
    have e9 : (fun j => A' 9 (100 * d + j)) = fun j => A 9 (100 * d + j) := by funext j; exact at3 9 _ (by decide) (by decide) (by decide)
    have e10 : (fun j => A' 10 (100 * d + j)) = fun j => A 10 (100 * d + j) := by funext j; exact at3 10 _ (by decide) (by decide) (by decide)
    rw [e9, e10]
    exact ⟨zAt_k2 hk w.1 (by unfold zr; omega) (by unfold zr; omega), w.2.1, zLr_k2 hk w.2.2.1 (by unfold zr; omega) (by unfold zr; omega) (by unfold zr; omega) (by unfold zr; omega), zLr_k2 hk w.2.2.2.1 (by unfold zr; omega) (by unfold zr; omega) (by unfold zr; omega) (by unfold zr; omega), w.2.2.2.2.1, by omega⟩
  · rw [nt 3 d (by decide)] at hj
    have w := h10 d j hd hj
    have w9 := (h9 d hd).2.2.2.2
    rw [at3 9 _ (by decide) (by decide) (by decide), nt 5 _ (by decide), s3 5 _ (by decide) (by decide), a1 _ (by omega)]
    exact ⟨zAt_k2 hk w.1 (by unfold zr; omega) (by unfold zr; omega), by omega⟩
  · rw [nt 4 d (by decide)] at hj
    have w := h11 d j hd hj
    have w9 := (h9 d hd).2.2.2.2
    rw [at3 10 _ (by decide) (by decide) (by decide), s3 6 _ (by decide) (by decide)]
    exact ⟨zAt_k2 hk w.1 (by unfold zr; omega) (by unfold zr; omega), w.2⟩
theorem zel_of {M : zVw} {n : Nat} {g : Nat → Option Nat} {ea : Nat → Nat} {ci : Nat} {r : vw_C} (hg : ∀ i, i < n → g i = some (ea i)) (hM : ∀ i, i < n → ∃ fs, M (ea i) = some (.inr (ci, fs))) (hr : kc[ci]? = some r) (hc : Cond.castable r.1 "java/lang/Object" ∈ tx) : zEl M n g := by
  intro i hi y hy
  rw [hg i hi] at hy
  cases hy
  obtain ⟨fs, h⟩ := hM i hi
  exact ⟨ci, fs, r, h, hr, hc⟩
theorem zEl_k {M M' : zVw} {n : Nat} {g : Nat → Option Nat} (h : zEl M n g) (hk : ∀ x, M x ≠ none → M' x = M x) : zEl M' n g := by
  intro i hi y hy
  obtain ⟨ci, fs, r, h1, h2⟩ := h i hi y hy
  exact ⟨ci, fs, r, by rw [hk y (by rw [h1]; exact fun q => by cases q)]; exact h1, h2⟩
def zItem (S : Nat → Nat → Nat → Int32) (N : Nat → Nat → Nat) (s0 r0 v : Int32) (S' : Nat → Nat → Nat → Int32) (N' : Nat → Nat → Nat) : Prop :=
  (¬ ((0 ≤ s0 ∧ s0 ≤ 5) ∧ 0 ≤ r0 ∧ r0 < 100) ∧ v = -12 ∧ S' = S ∧ N' = N) ∨ (((0 ≤ s0 ∧ s0 ≤ 5) ∧ 0 ≤ r0 ∧ r0 < 100) ∧
    ((N 0 0 = 60 ∧ v = -14 ∧ S' = S ∧ N' = N) ∨ (N 0 0 < 60 ∧ v = nI (N 0 0 + 1) ∧ S' = zS (zS S 0 (N 0 0) (zIt s0 r0 (zdue (nI (N 0 0 + 1)) s0))) 1 (N 0 0) f0 ∧ N' = zN1 N 0 0 (N 0 0 + 1))))
set_option maxHeartbeats 4000000 in
set_option maxRecDepth 100000 in
/-- item -/
theorem c_D_item (l : Launch) (D : va_G) (dA : Nat → ClassId) (z : Nat) (M : zVw) (rl : Nat → Nat) (A : Nat → Nat → Nat) (S : Nat → Nat → Nat → Int32) (N : Nat → Nat → Nat) (T : Nat → Int64) (s0 r0 : Int32) (hr : zRep M rl dA A S N T) : zMet l y_D_item b_D_item 3 (some .int) 7 171 3 1526 D dA z [.ref (A 0 0), .int s0, .int r0] M (fun v M' => ∃ r S' N' rl' A', v = some (.int r) ∧ zRep M' rl' dA A' S' N' T ∧ zFr M rl M' rl' ∧ A' 0 0 = A 0 0 ∧ zItem S N s0 r0 r S' N') := by
  have hM2 := hr.1.1
  unfold zDo at hM2
  have hb := hr.2.2.2.2.2.2.2.2.2.2.2.1
  obtain ⟨cap, g, mo, q1, q2, q3, q4, q5⟩ := hr.2.1
  refine z_of 1 false (by decide) (fun h => by first | rfl | cases h) (Nat.le_of_ble_eq_true rfl) trivial ?_
  intro p e s m args below meth c C hR
  have out : ¬ ((0 ≤ s0 ∧ s0 ≤ 5) ∧ 0 ≤ r0 ∧ r0 < 100) → ∃ r S' N' rl' A', some (Value.int (-12)) = some (Value.int r) ∧ zRep M rl' dA A' S' N' T ∧ zFr M rl M rl' ∧ A' 0 0 = A 0 0 ∧ zItem S N s0 r0 r S' N' := fun q => ⟨-12, S, N, rl, A, rfl, hr, zFr_r _ _, rfl, Or.inl ⟨q, rfl, rfl, rfl⟩⟩
  refine zgo (cut := fun _ => false) 60 C lk_D hR ?_
  simp only [zs_iconst, zs_bipush, zs_iload_n, zs_aload_n, zs_iadd, zs_dup0, zs_dup1, zs_pop0, zs_pop1, zs_pop2, zs_dup2, zs_if_ne, zs_if_lt, zs_icmp_lt, zs_icmp_gt, zs_get, zs_ireturn, zx_iv, zx_is, zx_it, zx_nw, zx_na, zx_an, zx_cc, zx_gs, zx_as, zx_ae, zx_ac, zx_at, zr_seg, zr_t, zr_f, zr_tp, zr_fp, zr_lg, zr_lr, zr_lr0, zr_wi, zr_wr, zr_wn, zr_wl, zr_vo, zr_so, zr_sI, zr_sL, zr_sA, zr_sN, zr_in, zr_rd, zr_wr2, zr_kf, zr_k0, zr_k1, zr_k2, zr_k3, zr_k3n, zr_k10, zr_k11, zr_k12, zr_k13, zr_k13n, zr_ai, zr_af, zr_aw, zr_aL, zr_Lf, zr_Lw, zr_l2, zr_l20, zr_al, zr_an, zr_aq, zr_ag, zr_rfs, zr_rfn, zr_r1, zr_r2, zr_w0, zr_w1, zr_tl, zr_40, zr_41, zr_42, zr_43, d_D_item_0, d_D_item_1, zt_1_15, zo_1_15, d_D_item_4, d_D_item_5, ci_5, d_D_item_6, zt_6_10, zo_6_10, d_D_item_9, d_D_item_10, d_D_item_13, zt_13_6, zo_13_6, d_D_item_16, cb_m12, d_D_item_18, d_D_item_19, d_D_item_20, fl_D_12, d_D_item_23, d_D_item_26, cb_60, d_D_item_28, zt_28_6, zo_28_6, d_D_item_31, cb_m14, d_D_item_33, d_D_item_34, d_D_item_35, d_D_item_38, d_D_item_41, d_D_item_42, d_D_item_43, d_D_item_46, d_D_item_49, ci_1, d_D_item_50, d_D_item_51, d_D_item_52, d_D_item_53, d_D_item_56, d_D_item_59, d_D_item_60, d_D_item_61, d_D_item_64, d_D_item_67, za_0, za_i, za_r, za_n, za_l, zu_s, zu_u, Nat.reduceAdd, Nat.reduceLT, Nat.reduceBEq, Nat.zero_add, Bool.false_or, Bool.or_false, Bool.true_or, Bool.or_true, Bool.false_and, Bool.and_false, Bool.true_and, Bool.and_true, true_and, and_true, true_or, or_true, eq_self, Nat.le_refl, List.getElem?_cons_succ, List.getElem?_cons_zero, List.set_cons_succ, List.set_cons_zero, zk_0, zk_1, zk_2, zk_3, zk_4, zq_1, zq_2, Option.isSome_some, Option.getD_some, Option.toList_some, Option.toList_none, List.cons_append, List.nil_append, hM2, Nat.zero_le, true_implies, false_implies, not_true_eq_false, not_false_eq_true, zn_10, Int32.reduceLT, Int32.reduceLE, implies_true, and_self]
  refine ⟨fun q => out (by clear hR C; (simp only [Int32.lt_iff_toInt_lt, Int32.le_iff_toInt_le, ← Int32.toInt_inj, Int32.reduceToInt] at *; omega)), fun q => ⟨fun w => out (by clear hR C; (simp only [Int32.lt_iff_toInt_lt, Int32.le_iff_toInt_le, ← Int32.toInt_inj, Int32.reduceToInt] at *; omega)), fun w => ?_⟩⟩
  refine zJ_callS (As := [.int r0]) (rest := []) C d_D_item_10 (c_D_isPerson l D dA z M r0) k_D_37 s_D_isPerson ⟨(Nat.le_of_ble_eq_true rfl), (Nat.le_of_ble_eq_true rfl)⟩ ⟨(Nat.le_of_ble_eq_true rfl), (Nat.le_of_ble_eq_true rfl)⟩ rfl (Nat.le_of_ble_eq_true rfl) ?_
  rintro v M' ⟨rfl, rfl⟩
  by_cases hp : 0 ≤ r0 ∧ r0 < 100
  · rw [zb_t hp]
    refine zgo (cut := fun _ => false) 60 C lk_D hR ?_
    simp only [zs_iconst, zs_bipush, zs_iload_n, zs_aload_n, zs_iadd, zs_dup0, zs_dup1, zs_pop0, zs_pop1, zs_pop2, zs_dup2, zs_if_ne, zs_if_lt, zs_icmp_lt, zs_icmp_gt, zs_get, zs_ireturn, zx_iv, zx_is, zx_it, zx_nw, zx_na, zx_an, zx_cc, zx_gs, zx_as, zx_ae, zx_ac, zx_at, zr_seg, zr_t, zr_f, zr_tp, zr_fp, zr_lg, zr_lr, zr_lr0, zr_wi, zr_wr, zr_wn, zr_wl, zr_vo, zr_so, zr_sI, zr_sL, zr_sA, zr_sN, zr_in, zr_rd, zr_wr2, zr_kf, zr_k0, zr_k1, zr_k2, zr_k3, zr_k3n, zr_k10, zr_k11, zr_k12, zr_k13, zr_k13n, zr_ai, zr_af, zr_aw, zr_aL, zr_Lf, zr_Lw, zr_l2, zr_l20, zr_al, zr_an, zr_aq, zr_ag, zr_rfs, zr_rfn, zr_r1, zr_r2, zr_w0, zr_w1, zr_tl, zr_40, zr_41, zr_42, zr_43, d_D_item_0, d_D_item_1, zt_1_15, zo_1_15, d_D_item_4, d_D_item_5, ci_5, d_D_item_6, zt_6_10, zo_6_10, d_D_item_9, d_D_item_10, d_D_item_13, zt_13_6, zo_13_6, d_D_item_16, cb_m12, d_D_item_18, d_D_item_19, d_D_item_20, fl_D_12, d_D_item_23, d_D_item_26, cb_60, d_D_item_28, zt_28_6, zo_28_6, d_D_item_31, cb_m14, d_D_item_33, d_D_item_34, d_D_item_35, d_D_item_38, d_D_item_41, d_D_item_42, d_D_item_43, d_D_item_46, d_D_item_49, ci_1, d_D_item_50, d_D_item_51, d_D_item_52, d_D_item_53, d_D_item_56, d_D_item_59, d_D_item_60, d_D_item_61, d_D_item_64, d_D_item_67, za_0, za_i, za_r, za_n, za_l, zu_s, zu_u, Nat.reduceAdd, Nat.reduceLT, Nat.reduceBEq, Nat.zero_add, Bool.false_or, Bool.or_false, Bool.true_or, Bool.or_true, Bool.false_and, Bool.and_false, Bool.true_and, Bool.and_true, true_and, and_true, true_or, or_true, eq_self, Nat.le_refl, List.getElem?_cons_succ, List.getElem?_cons_zero, List.set_cons_succ, List.set_cons_zero, zk_0, zk_1, zk_2, zk_3, zk_4, zq_1, zq_2, Option.isSome_some, Option.getD_some, Option.toList_some, Option.toList_none, List.cons_append, List.nil_append, hM2, Nat.zero_le, true_implies, false_implies, not_true_eq_false, not_false_eq_true, zn_10, Int32.reduceLT, Int32.reduceLE, implies_true, and_self]
    refine zJ_callV (As := []) (rest := []) C d_D_item_23 (c_L_size l D dA z M' (A 0 1) (A 0 6) (N 0 0) mo q1.1) k_D_41 n_L_size v_L_size q1.1 rfl rfl ⟨(Nat.le_of_ble_eq_true rfl), (Nat.le_of_ble_eq_true rfl)⟩ ⟨(Nat.le_of_ble_eq_true rfl), (Nat.le_of_ble_eq_true rfl)⟩ rfl (Nat.le_of_ble_eq_true rfl) ?_
    rintro v M'' ⟨rfl, rfl⟩
    refine zgo (cut := fun _ => false) 60 C lk_D hR ?_
    simp only [zs_iconst, zs_bipush, zs_iload_n, zs_aload_n, zs_iadd, zs_dup0, zs_dup1, zs_pop0, zs_pop1, zs_pop2, zs_dup2, zs_if_ne, zs_if_lt, zs_icmp_lt, zs_icmp_gt, zs_get, zs_ireturn, zx_iv, zx_is, zx_it, zx_nw, zx_na, zx_an, zx_cc, zx_gs, zx_as, zx_ae, zx_ac, zx_at, zr_seg, zr_t, zr_f, zr_tp, zr_fp, zr_lg, zr_lr, zr_lr0, zr_wi, zr_wr, zr_wn, zr_wl, zr_vo, zr_so, zr_sI, zr_sL, zr_sA, zr_sN, zr_in, zr_rd, zr_wr2, zr_kf, zr_k0, zr_k1, zr_k2, zr_k3, zr_k3n, zr_k10, zr_k11, zr_k12, zr_k13, zr_k13n, zr_ai, zr_af, zr_aw, zr_aL, zr_Lf, zr_Lw, zr_l2, zr_l20, zr_al, zr_an, zr_aq, zr_ag, zr_rfs, zr_rfn, zr_r1, zr_r2, zr_w0, zr_w1, zr_tl, zr_40, zr_41, zr_42, zr_43, d_D_item_0, d_D_item_1, zt_1_15, zo_1_15, d_D_item_4, d_D_item_5, ci_5, d_D_item_6, zt_6_10, zo_6_10, d_D_item_9, d_D_item_10, d_D_item_13, zt_13_6, zo_13_6, d_D_item_16, cb_m12, d_D_item_18, d_D_item_19, d_D_item_20, fl_D_12, d_D_item_23, d_D_item_26, cb_60, d_D_item_28, zt_28_6, zo_28_6, d_D_item_31, cb_m14, d_D_item_33, d_D_item_34, d_D_item_35, d_D_item_38, d_D_item_41, d_D_item_42, d_D_item_43, d_D_item_46, d_D_item_49, ci_1, d_D_item_50, d_D_item_51, d_D_item_52, d_D_item_53, d_D_item_56, d_D_item_59, d_D_item_60, d_D_item_61, d_D_item_64, d_D_item_67, za_0, za_i, za_r, za_n, za_l, zu_s, zu_u, Nat.reduceAdd, Nat.reduceLT, Nat.reduceBEq, Nat.zero_add, Bool.false_or, Bool.or_false, Bool.true_or, Bool.or_true, Bool.false_and, Bool.and_false, Bool.true_and, Bool.and_true, true_and, and_true, true_or, or_true, eq_self, Nat.le_refl, List.getElem?_cons_succ, List.getElem?_cons_zero, List.set_cons_succ, List.set_cons_zero, zk_0, zk_1, zk_2, zk_3, zk_4, zq_1, zq_2, Option.isSome_some, Option.getD_some, Option.toList_some, Option.toList_none, List.cons_append, List.nil_append, hM2, Nat.zero_le, true_implies, false_implies, not_true_eq_false, not_false_eq_true, zn_10, Int32.reduceLT, Int32.reduceLE, implies_true, and_self]
    have hk : (0 ≤ s0 ∧ s0 ≤ 5) ∧ 0 ≤ r0 ∧ r0 < 100 := by clear hR C out; (simp only [Int32.lt_iff_toInt_lt, Int32.le_iff_toInt_le, ← Int32.toInt_inj, Int32.reduceToInt] at *; omega)
    refine ⟨fun y => ?_, fun y => ⟨-14, S, N, rl, A, rfl, hr, zFr_r _ _, rfl, Or.inr ⟨hk, Or.inl ⟨by
      rcases Nat.lt_or_ge (N 0 0) 60 with u | u
      · exact absurd (nI_lt u (by decide)) y
      · omega, rfl, rfl, rfl⟩⟩⟩⟩
    have hlt : N 0 0 < 60 := (nI_ltI (by omega) (by omega)).mp y
    have mL : M'' (A 0 1) ≠ none := by rw [q1.1]; exact fun u => by cases u
    refine zJ_new [.int 0, .int 0, .int 0, .null, .int 0] C q_I d_D_item_38 (by decide +kernel) (by decide) ⟨by show 0 + 1 ≤ 3; omega, by show 0 + 5 ≤ 1526; omega⟩ (fun i1 f1 hz1 => ?_)
    have n1 : A 0 0 ≠ i1 := fun u => by rw [← u, hM2] at f1; cases f1
    have nL : A 0 1 ≠ i1 := fun u => mL (by rw [u]; exact f1)
    refine zgo (cut := fun _ => false) 60 C lk_D hR ?_
    simp only [zs_iconst, zs_bipush, zs_iload_n, zs_aload_n, zs_iadd, zs_dup0, zs_dup1, zs_pop0, zs_pop1, zs_pop2, zs_dup2, zs_if_ne, zs_if_lt, zs_icmp_lt, zs_icmp_gt, zs_get, zs_ireturn, zx_iv, zx_is, zx_it, zx_nw, zx_na, zx_an, zx_cc, zx_gs, zx_as, zx_ae, zx_ac, zx_at, zr_seg, zr_t, zr_f, zr_tp, zr_fp, zr_lg, zr_lr, zr_lr0, zr_wi, zr_wr, zr_wn, zr_wl, zr_vo, zr_so, zr_sI, zr_sL, zr_sA, zr_sN, zr_in, zr_rd, zr_wr2, zr_kf, zr_k0, zr_k1, zr_k2, zr_k3, zr_k3n, zr_k10, zr_k11, zr_k12, zr_k13, zr_k13n, zr_ai, zr_af, zr_aw, zr_aL, zr_Lf, zr_Lw, zr_l2, zr_l20, zr_al, zr_an, zr_aq, zr_ag, zr_rfs, zr_rfn, zr_r1, zr_r2, zr_w0, zr_w1, zr_tl, zr_40, zr_41, zr_42, zr_43, d_D_item_0, d_D_item_1, zt_1_15, zo_1_15, d_D_item_4, d_D_item_5, ci_5, d_D_item_6, zt_6_10, zo_6_10, d_D_item_9, d_D_item_10, d_D_item_13, zt_13_6, zo_13_6, d_D_item_16, cb_m12, d_D_item_18, d_D_item_19, d_D_item_20, fl_D_12, d_D_item_23, d_D_item_26, cb_60, d_D_item_28, zt_28_6, zo_28_6, d_D_item_31, cb_m14, d_D_item_33, d_D_item_34, d_D_item_35, d_D_item_38, d_D_item_41, d_D_item_42, d_D_item_43, d_D_item_46, d_D_item_49, ci_1, d_D_item_50, d_D_item_51, d_D_item_52, d_D_item_53, d_D_item_56, d_D_item_59, d_D_item_60, d_D_item_61, d_D_item_64, d_D_item_67, za_0, za_i, za_r, za_n, za_l, zu_s, zu_u, Nat.reduceAdd, Nat.reduceLT, Nat.reduceBEq, Nat.zero_add, Bool.false_or, Bool.or_false, Bool.true_or, Bool.or_true, Bool.false_and, Bool.and_false, Bool.true_and, Bool.and_true, true_and, and_true, true_or, or_true, eq_self, Nat.le_refl, List.getElem?_cons_succ, List.getElem?_cons_zero, List.set_cons_succ, List.set_cons_zero, zk_0, zk_1, zk_2, zk_3, zk_4, zq_1, zq_2, Option.isSome_some, Option.getD_some, Option.toList_some, Option.toList_none, List.cons_append, List.nil_append, hM2, zu_n n1, true_implies, false_implies, not_true_eq_false, not_false_eq_true, zn_10, Int32.reduceLT, Int32.reduceLE, implies_true, and_self]
    refine zJ_callV (As := []) (rest := [.ref i1, .ref i1, .ref (A 0 1)]) C d_D_item_46 (c_L_size l D dA z _ (A 0 1) (A 0 6) (N 0 0) mo (by rw [zu_n nL]; exact q1.1)) k_D_41 n_L_size v_L_size (by rw [zu_n nL]; exact q1.1) rfl rfl ⟨(Nat.le_of_ble_eq_true rfl), (Nat.le_of_ble_eq_true rfl)⟩ ⟨(Nat.le_of_ble_eq_true rfl), (Nat.le_of_ble_eq_true rfl)⟩ rfl (Nat.le_of_ble_eq_true rfl) ?_
    rintro v M1 ⟨rfl, rfl⟩
    refine zgo (cut := fun _ => false) 60 C lk_D hR ?_
    simp only [zs_iconst, zs_bipush, zs_iload_n, zs_aload_n, zs_iadd, zs_dup0, zs_dup1, zs_pop0, zs_pop1, zs_pop2, zs_dup2, zs_if_ne, zs_if_lt, zs_icmp_lt, zs_icmp_gt, zs_get, zs_ireturn, zx_iv, zx_is, zx_it, zx_nw, zx_na, zx_an, zx_cc, zx_gs, zx_as, zx_ae, zx_ac, zx_at, zr_seg, zr_t, zr_f, zr_tp, zr_fp, zr_lg, zr_lr, zr_lr0, zr_wi, zr_wr, zr_wn, zr_wl, zr_vo, zr_so, zr_sI, zr_sL, zr_sA, zr_sN, zr_in, zr_rd, zr_wr2, zr_kf, zr_k0, zr_k1, zr_k2, zr_k3, zr_k3n, zr_k10, zr_k11, zr_k12, zr_k13, zr_k13n, zr_ai, zr_af, zr_aw, zr_aL, zr_Lf, zr_Lw, zr_l2, zr_l20, zr_al, zr_an, zr_aq, zr_ag, zr_rfs, zr_rfn, zr_r1, zr_r2, zr_w0, zr_w1, zr_tl, zr_40, zr_41, zr_42, zr_43, d_D_item_0, d_D_item_1, zt_1_15, zo_1_15, d_D_item_4, d_D_item_5, ci_5, d_D_item_6, zt_6_10, zo_6_10, d_D_item_9, d_D_item_10, d_D_item_13, zt_13_6, zo_13_6, d_D_item_16, cb_m12, d_D_item_18, d_D_item_19, d_D_item_20, fl_D_12, d_D_item_23, d_D_item_26, cb_60, d_D_item_28, zt_28_6, zo_28_6, d_D_item_31, cb_m14, d_D_item_33, d_D_item_34, d_D_item_35, d_D_item_38, d_D_item_41, d_D_item_42, d_D_item_43, d_D_item_46, d_D_item_49, ci_1, d_D_item_50, d_D_item_51, d_D_item_52, d_D_item_53, d_D_item_56, d_D_item_59, d_D_item_60, d_D_item_61, d_D_item_64, d_D_item_67, za_0, za_i, za_r, za_n, za_l, zu_s, zu_u, Nat.reduceAdd, Nat.reduceLT, Nat.reduceBEq, Nat.zero_add, Bool.false_or, Bool.or_false, Bool.true_or, Bool.or_true, Bool.false_and, Bool.and_false, Bool.true_and, Bool.and_true, true_and, and_true, true_or, or_true, eq_self, Nat.le_refl, List.getElem?_cons_succ, List.getElem?_cons_zero, List.set_cons_succ, List.set_cons_zero, zk_0, zk_1, zk_2, zk_3, zk_4, zq_1, zq_2, Option.isSome_some, Option.getD_some, Option.toList_some, Option.toList_none, List.cons_append, List.nil_append, nI_1, true_implies, false_implies, not_true_eq_false, not_false_eq_true, zn_10, Int32.reduceLT, Int32.reduceLE, implies_true, and_self]
    refine zJ_callI (As := [.int (nI (N 0 0 + 1)), .int s0, .int r0]) (rest := [.ref i1, .ref (A 0 1)]) C d_D_item_53 (c_I_init l D dA z _ i1 (nI (N 0 0 + 1)) s0 r0 (zu_s _ _ _)) k_D_47 n_I_init rfl ⟨(Nat.le_of_ble_eq_true rfl), (Nat.le_of_ble_eq_true rfl)⟩ ⟨(Nat.le_of_ble_eq_true rfl), (Nat.le_of_ble_eq_true rfl)⟩ rfl (Nat.le_of_ble_eq_true rfl) ?_
    rintro v M2 ⟨rfl, i2, f2', rfl⟩
    have n21 : i2 ≠ i1 := fun u => by rw [u, zu_s] at f2'; cases f2'
    have f2 : M'' i2 = none := by rw [zu_n n21] at f2'; exact f2'
    have nL2 : A 0 1 ≠ i2 := fun u => mL (by rw [u]; exact f2)
    rw [zu_c n21]
    obtain ⟨M2, eM2⟩ : ∃ M2, M2 = zu (zu M'' i2 (fA f0)) i1 (iA (nI (N 0 0 + 1)) s0 r0 i2 (zdue (nI (N 0 0 + 1)) s0)) := ⟨_, rfl⟩
    rw [← eM2]
    have k2 : ∀ x, x ≠ i1 → x ≠ i2 → M2 x = M'' x := fun x a b => by rw [eM2, zu_n a, zu_n b]
    have k3 : ∀ x, M'' x ≠ none → M2 x = M'' x := fun x a => k2 x (fun u => a (by rw [u]; exact f1)) (fun u => a (by rw [u]; exact f2))
    have hL2 : zLs M2 dA (A 0 1) (A 0 6) (N 0 0) cap g mo := by
      refine ⟨by rw [k3 _ mL]; exact q1.1, ?_⟩
      rcases q1.2 with u | ⟨u, u2⟩
      · exact Or.inl u
      · exact Or.inr ⟨by rw [k3 _ (by rw [u]; exact fun w => by cases w)]; exact u, u2⟩
    have m21 : M2 i1 = some (iA (nI (N 0 0 + 1)) s0 r0 i2 (zdue (nI (N 0 0 + 1)) s0)) := by rw [eM2, zu_s]
    have m22 : M2 i2 = some (fA f0) := by rw [eM2, zu_n n21, zu_s]
    have hel : zEl M2 (N 0 0) g := zEl_k (zel_of (ci := 6) q5 (fun i hi => ⟨_, (hr.2.2.2.2.2.2.1 i hi).1.1⟩) rfl (by decide +kernel)) k3
    refine zgo (cut := fun _ => false) 60 C lk_D hR ?_
    simp only [zs_iconst, zs_bipush, zs_iload_n, zs_aload_n, zs_iadd, zs_dup0, zs_dup1, zs_pop0, zs_pop1, zs_pop2, zs_dup2, zs_if_ne, zs_if_lt, zs_icmp_lt, zs_icmp_gt, zs_get, zs_ireturn, zx_iv, zx_is, zx_it, zx_nw, zx_na, zx_an, zx_cc, zx_gs, zx_as, zx_ae, zx_ac, zx_at, zr_seg, zr_t, zr_f, zr_tp, zr_fp, zr_lg, zr_lr, zr_lr0, zr_wi, zr_wr, zr_wn, zr_wl, zr_vo, zr_so, zr_sI, zr_sL, zr_sA, zr_sN, zr_in, zr_rd, zr_wr2, zr_kf, zr_k0, zr_k1, zr_k2, zr_k3, zr_k3n, zr_k10, zr_k11, zr_k12, zr_k13, zr_k13n, zr_ai, zr_af, zr_aw, zr_aL, zr_Lf, zr_Lw, zr_l2, zr_l20, zr_al, zr_an, zr_aq, zr_ag, zr_rfs, zr_rfn, zr_r1, zr_r2, zr_w0, zr_w1, zr_tl, zr_40, zr_41, zr_42, zr_43, d_D_item_0, d_D_item_1, zt_1_15, zo_1_15, d_D_item_4, d_D_item_5, ci_5, d_D_item_6, zt_6_10, zo_6_10, d_D_item_9, d_D_item_10, d_D_item_13, zt_13_6, zo_13_6, d_D_item_16, cb_m12, d_D_item_18, d_D_item_19, d_D_item_20, fl_D_12, d_D_item_23, d_D_item_26, cb_60, d_D_item_28, zt_28_6, zo_28_6, d_D_item_31, cb_m14, d_D_item_33, d_D_item_34, d_D_item_35, d_D_item_38, d_D_item_41, d_D_item_42, d_D_item_43, d_D_item_46, d_D_item_49, ci_1, d_D_item_50, d_D_item_51, d_D_item_52, d_D_item_53, d_D_item_56, d_D_item_59, d_D_item_60, d_D_item_61, d_D_item_64, d_D_item_67, za_0, za_i, za_r, za_n, za_l, zu_s, zu_u, Nat.reduceAdd, Nat.reduceLT, Nat.reduceBEq, Nat.zero_add, Bool.false_or, Bool.or_false, Bool.true_or, Bool.or_true, Bool.false_and, Bool.and_false, Bool.true_and, Bool.and_true, true_and, and_true, true_or, or_true, eq_self, Nat.le_refl, List.getElem?_cons_succ, List.getElem?_cons_zero, List.set_cons_succ, List.set_cons_zero, zk_0, zk_1, zk_2, zk_3, zk_4, zq_1, zq_2, Option.isSome_some, Option.getD_some, Option.toList_some, Option.toList_none, List.cons_append, List.nil_append, true_implies, false_implies, not_true_eq_false, not_false_eq_true, zn_10, Int32.reduceLT, Int32.reduceLE, implies_true, and_self]
    refine zJ_callV (As := [.ref i1]) (rest := []) C d_D_item_56 (c_L_add1 l D dA z M2 (A 0 1) (A 0 6) (N 0 0) cap i1 6 _ _ g mo hL2 (by omega) hel m21 rfl (by decide) (by decide +kernel)) k_D_50 n_L_add1 v_L_add1 hL2.1 rfl rfl ⟨(Nat.le_of_ble_eq_true rfl), (Nat.le_of_ble_eq_true rfl)⟩ ⟨by show 2 + 1 ≤ 3; omega, by show 16 + (cap + cap / 2 + 10) ≤ 1526; omega⟩ rfl (Nat.le_of_ble_eq_true rfl) ?_
    rintro v M3 ⟨rfl, ed', cap', g', w1, w2, w3, w4, w5, w6, w7, w8⟩
    have e1 : ed' ≠ i1 := fun u => by
      rcases w4 with ⟨w, w'⟩ | w
      · rcases q1.2 with ⟨_, _, a⟩ | ⟨a, _⟩
        · omega
        · rw [← w, u, f1] at a; cases a
      · rw [u, m21] at w; cases w
    have e2 : ed' ≠ i2 := fun u => by
      rcases w4 with ⟨w, w'⟩ | w
      · rcases q1.2 with ⟨_, _, a⟩ | ⟨a, _⟩
        · omega
        · rw [← w, u, f2] at a; cases a
      · rw [u, m22] at w; cases w
    obtain ⟨rl', A', g1, g2, g3⟩ := rep_item (M' := M3) (s0 := s0) (r0 := r0) (d0 := zdue (nI (N 0 0 + 1)) s0) (q1 := i1) (q2 := i2) hr hlt f1 f2 (fun u => n21 u.symm) w1 (by rw [w8 i1 (fun u => nL u.symm) (fun u => e1 u.symm)]; exact m21) (by rw [w8 i2 (fun u => nL2 u.symm) (fun u => e2 u.symm)]; exact m22) (by
      rcases w4 with ⟨w, w'⟩ | w
      · refine Or.inl ⟨?_, ?_⟩
        · rw [w]
          rcases q4 with a | a
          · omega
          · exact a
        · rw [w]
          rcases q1.2 with ⟨_, _, a⟩ | ⟨a, _⟩
          · omega
          · rw [a]; exact fun u => by cases u
      · refine Or.inr ⟨?_, e1, e2⟩
        rw [k2 ed' e1 e2] at w; exact w) w2 (by rcases w5 with w | w <;> omega) (fun j hj => by rw [w6 j hj]; exact q5 j hj) w7 (fun x a b c1 c2 => by rw [w8 x a b]; exact k2 x c1 c2)
    have h0 : M3 (A 0 0) = some (zDo (A 0 1) (A 0 2) (A 0 3) (A 0 5) (T 8)) := by
      have ne1 : A 0 0 ≠ A 0 1 := fun u => by have a := hr.1.1; rw [u, q1.1] at a; cases a
      have m00 : M'' (A 0 0) ≠ none := by rw [hr.1.1]; exact fun u => by cases u
      have ne2 : A 0 0 ≠ ed' := fun u => by
        rcases w4 with ⟨w, w'⟩ | w
        · rcases q1.2 with ⟨_, _, a⟩ | ⟨a, _⟩
          · omega
          · rw [← w, ← u, hr.1.1] at a; cases a
        · rw [← u, k3 _ m00] at w; exact m00 w
      rw [w8 _ ne1 ne2, k3 _ (by rw [hr.1.1]; exact fun u => by cases u)]; exact hr.1.1
    unfold zDo at h0
    refine zgo (cut := fun _ => false) 60 C lk_D hR ?_
    simp only [zs_iconst, zs_bipush, zs_iload_n, zs_aload_n, zs_iadd, zs_dup0, zs_dup1, zs_pop0, zs_pop1, zs_pop2, zs_dup2, zs_if_ne, zs_if_lt, zs_icmp_lt, zs_icmp_gt, zs_get, zs_ireturn, zx_iv, zx_is, zx_it, zx_nw, zx_na, zx_an, zx_cc, zx_gs, zx_as, zx_ae, zx_ac, zx_at, zr_seg, zr_t, zr_f, zr_tp, zr_fp, zr_lg, zr_lr, zr_lr0, zr_wi, zr_wr, zr_wn, zr_wl, zr_vo, zr_so, zr_sI, zr_sL, zr_sA, zr_sN, zr_in, zr_rd, zr_wr2, zr_kf, zr_k0, zr_k1, zr_k2, zr_k3, zr_k3n, zr_k10, zr_k11, zr_k12, zr_k13, zr_k13n, zr_ai, zr_af, zr_aw, zr_aL, zr_Lf, zr_Lw, zr_l2, zr_l20, zr_al, zr_an, zr_aq, zr_ag, zr_rfs, zr_rfn, zr_r1, zr_r2, zr_w0, zr_w1, zr_tl, zr_40, zr_41, zr_42, zr_43, d_D_item_0, d_D_item_1, zt_1_15, zo_1_15, d_D_item_4, d_D_item_5, ci_5, d_D_item_6, zt_6_10, zo_6_10, d_D_item_9, d_D_item_10, d_D_item_13, zt_13_6, zo_13_6, d_D_item_16, cb_m12, d_D_item_18, d_D_item_19, d_D_item_20, fl_D_12, d_D_item_23, d_D_item_26, cb_60, d_D_item_28, zt_28_6, zo_28_6, d_D_item_31, cb_m14, d_D_item_33, d_D_item_34, d_D_item_35, d_D_item_38, d_D_item_41, d_D_item_42, d_D_item_43, d_D_item_46, d_D_item_49, ci_1, d_D_item_50, d_D_item_51, d_D_item_52, d_D_item_53, d_D_item_56, d_D_item_59, d_D_item_60, d_D_item_61, d_D_item_64, d_D_item_67, za_0, za_i, za_r, za_n, za_l, zu_s, zu_u, Nat.reduceAdd, Nat.reduceLT, Nat.reduceBEq, Nat.zero_add, Bool.false_or, Bool.or_false, Bool.true_or, Bool.or_true, Bool.false_and, Bool.and_false, Bool.true_and, Bool.and_true, true_and, and_true, true_or, or_true, eq_self, Nat.le_refl, List.getElem?_cons_succ, List.getElem?_cons_zero, List.set_cons_succ, List.set_cons_zero, zk_0, zk_1, zk_2, zk_3, zk_4, zq_1, zq_2, Option.isSome_some, Option.getD_some, Option.toList_some, Option.toList_none, List.cons_append, List.nil_append, h0, true_implies, false_implies, not_true_eq_false, not_false_eq_true, zn_10, Int32.reduceLT, Int32.reduceLE, implies_true, and_self]
    refine zJ_callV (As := []) (rest := []) C d_D_item_64 (c_L_size l D dA z M3 (A 0 1) ed' (N 0 0 + 1) (mo + 1) w1.1) k_D_41 n_L_size v_L_size w1.1 rfl rfl ⟨(Nat.le_of_ble_eq_true rfl), (Nat.le_of_ble_eq_true rfl)⟩ ⟨(Nat.le_of_ble_eq_true rfl), by show 16 + (cap + cap / 2 + 10) + 0 ≤ 1526; omega⟩ rfl (Nat.le_of_ble_eq_true rfl) ?_
    rintro v M4 ⟨rfl, rfl⟩
    refine zgo (cut := fun _ => false) 60 C lk_D hR ?_
    simp only [zs_iconst, zs_bipush, zs_iload_n, zs_aload_n, zs_iadd, zs_dup0, zs_dup1, zs_pop0, zs_pop1, zs_pop2, zs_dup2, zs_if_ne, zs_if_lt, zs_icmp_lt, zs_icmp_gt, zs_get, zs_ireturn, zx_iv, zx_is, zx_it, zx_nw, zx_na, zx_an, zx_cc, zx_gs, zx_as, zx_ae, zx_ac, zx_at, zr_seg, zr_t, zr_f, zr_tp, zr_fp, zr_lg, zr_lr, zr_lr0, zr_wi, zr_wr, zr_wn, zr_wl, zr_vo, zr_so, zr_sI, zr_sL, zr_sA, zr_sN, zr_in, zr_rd, zr_wr2, zr_kf, zr_k0, zr_k1, zr_k2, zr_k3, zr_k3n, zr_k10, zr_k11, zr_k12, zr_k13, zr_k13n, zr_ai, zr_af, zr_aw, zr_aL, zr_Lf, zr_Lw, zr_l2, zr_l20, zr_al, zr_an, zr_aq, zr_ag, zr_rfs, zr_rfn, zr_r1, zr_r2, zr_w0, zr_w1, zr_tl, zr_40, zr_41, zr_42, zr_43, d_D_item_0, d_D_item_1, zt_1_15, zo_1_15, d_D_item_4, d_D_item_5, ci_5, d_D_item_6, zt_6_10, zo_6_10, d_D_item_9, d_D_item_10, d_D_item_13, zt_13_6, zo_13_6, d_D_item_16, cb_m12, d_D_item_18, d_D_item_19, d_D_item_20, fl_D_12, d_D_item_23, d_D_item_26, cb_60, d_D_item_28, zt_28_6, zo_28_6, d_D_item_31, cb_m14, d_D_item_33, d_D_item_34, d_D_item_35, d_D_item_38, d_D_item_41, d_D_item_42, d_D_item_43, d_D_item_46, d_D_item_49, ci_1, d_D_item_50, d_D_item_51, d_D_item_52, d_D_item_53, d_D_item_56, d_D_item_59, d_D_item_60, d_D_item_61, d_D_item_64, d_D_item_67, za_0, za_i, za_r, za_n, za_l, zu_s, zu_u, Nat.reduceAdd, Nat.reduceLT, Nat.reduceBEq, Nat.zero_add, Bool.false_or, Bool.or_false, Bool.true_or, Bool.or_true, Bool.false_and, Bool.and_false, Bool.true_and, Bool.and_true, true_and, and_true, true_or, or_true, eq_self, Nat.le_refl, List.getElem?_cons_succ, List.getElem?_cons_zero, List.set_cons_succ, List.set_cons_zero, zk_0, zk_1, zk_2, zk_3, zk_4, zq_1, zq_2, Option.isSome_some, Option.getD_some, Option.toList_some, Option.toList_none, List.cons_append, List.nil_append, true_implies, false_implies, not_true_eq_false, not_false_eq_true, zn_10, Int32.reduceLT, Int32.reduceLE, implies_true, and_self]
    exact ⟨by omega, _, _, _, rl', A', rfl, g1, g2, g3, Or.inr ⟨hk, Or.inr ⟨hlt, rfl, rfl, rfl⟩⟩⟩
  · rw [zb_f hp]
    refine zgo (cut := fun _ => false) 60 C lk_D hR ?_
    simp only [zs_iconst, zs_bipush, zs_iload_n, zs_aload_n, zs_iadd, zs_dup0, zs_dup1, zs_pop0, zs_pop1, zs_pop2, zs_dup2, zs_if_ne, zs_if_lt, zs_icmp_lt, zs_icmp_gt, zs_get, zs_ireturn, zx_iv, zx_is, zx_it, zx_nw, zx_na, zx_an, zx_cc, zx_gs, zx_as, zx_ae, zx_ac, zx_at, zr_seg, zr_t, zr_f, zr_tp, zr_fp, zr_lg, zr_lr, zr_lr0, zr_wi, zr_wr, zr_wn, zr_wl, zr_vo, zr_so, zr_sI, zr_sL, zr_sA, zr_sN, zr_in, zr_rd, zr_wr2, zr_kf, zr_k0, zr_k1, zr_k2, zr_k3, zr_k3n, zr_k10, zr_k11, zr_k12, zr_k13, zr_k13n, zr_ai, zr_af, zr_aw, zr_aL, zr_Lf, zr_Lw, zr_l2, zr_l20, zr_al, zr_an, zr_aq, zr_ag, zr_rfs, zr_rfn, zr_r1, zr_r2, zr_w0, zr_w1, zr_tl, zr_40, zr_41, zr_42, zr_43, d_D_item_0, d_D_item_1, zt_1_15, zo_1_15, d_D_item_4, d_D_item_5, ci_5, d_D_item_6, zt_6_10, zo_6_10, d_D_item_9, d_D_item_10, d_D_item_13, zt_13_6, zo_13_6, d_D_item_16, cb_m12, d_D_item_18, d_D_item_19, d_D_item_20, fl_D_12, d_D_item_23, d_D_item_26, cb_60, d_D_item_28, zt_28_6, zo_28_6, d_D_item_31, cb_m14, d_D_item_33, d_D_item_34, d_D_item_35, d_D_item_38, d_D_item_41, d_D_item_42, d_D_item_43, d_D_item_46, d_D_item_49, ci_1, d_D_item_50, d_D_item_51, d_D_item_52, d_D_item_53, d_D_item_56, d_D_item_59, d_D_item_60, d_D_item_61, d_D_item_64, d_D_item_67, za_0, za_i, za_r, za_n, za_l, zu_s, zu_u, Nat.reduceAdd, Nat.reduceLT, Nat.reduceBEq, Nat.zero_add, Bool.false_or, Bool.or_false, Bool.true_or, Bool.or_true, Bool.false_and, Bool.and_false, Bool.true_and, Bool.and_true, true_and, and_true, true_or, or_true, eq_self, Nat.le_refl, List.getElem?_cons_succ, List.getElem?_cons_zero, List.set_cons_succ, List.set_cons_zero, zk_0, zk_1, zk_2, zk_3, zk_4, zq_1, zq_2, Option.isSome_some, Option.getD_some, Option.toList_some, Option.toList_none, List.cons_append, List.nil_append, hM2, Nat.zero_le, true_implies, false_implies, not_true_eq_false, not_false_eq_true, zn_10, Int32.reduceLT, Int32.reduceLE, implies_true, and_self]
    exact out (fun y => hp y.2)
end
