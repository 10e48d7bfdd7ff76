section
-- ===== PART A: goes FIRST, ahead of the names: the tables' words, and 'selects' of the private methods out of them =====
/-- a private method of a class that the tables say can be made, by its rows of tables_1 -/
def lw_okq (q : MethodName × Nat) : Prop := (q.1.cls ≠ "java/lang/invoke/MethodHandle" ∧ q.1.cls ≠ "java/lang/invoke/VarHandle") ∧ Cond.instantiable q.1.cls q.2 ∈ tables_1 ∧ Cond.privateMethod q.1 ∈ tables_1 ∧ Cond.instanceMethod q.1 ∈ tables_1
theorem lw_p0 : lw_okq (⟨"java/util/ArrayList", "add", "(Ljava/lang/Object;[Ljava/lang/Object;I)V"⟩, 3) := ⟨⟨by decide +kernel, by decide +kernel⟩, List.mem_of_getElem? (i := 27) (by decide +kernel), List.mem_of_getElem? (i := 198) (by decide +kernel), List.mem_of_getElem? (i := 199) (by decide +kernel)⟩
theorem lw_p1 : lw_okq (⟨"java/util/ArrayList", "grow", "()[Ljava/lang/Object;"⟩, 3) := ⟨⟨by decide +kernel, by decide +kernel⟩, List.mem_of_getElem? (i := 27) (by decide +kernel), List.mem_of_getElem? (i := 202) (by decide +kernel), List.mem_of_getElem? (i := 203) (by decide +kernel)⟩
theorem lw_p2 : lw_okq (⟨"java/util/ArrayList", "grow", "(I)[Ljava/lang/Object;"⟩, 3) := ⟨⟨by decide +kernel, by decide +kernel⟩, List.mem_of_getElem? (i := 27) (by decide +kernel), List.mem_of_getElem? (i := 206) (by decide +kernel), List.mem_of_getElem? (i := 207) (by decide +kernel)⟩
theorem lw_p3 : lw_okq (⟨"DoorActs$Consents", "placeOf", "(I)I"⟩, 2) := ⟨⟨by decide +kernel, by decide +kernel⟩, List.mem_of_getElem? (i := 53) (by decide +kernel), List.mem_of_getElem? (i := 261) (by decide +kernel), List.mem_of_getElem? (i := 262) (by decide +kernel)⟩
theorem lw_p4 : lw_okq (⟨"DoorActs", "itemOf", "(I)LDoorActs$Item;"⟩, 5) := ⟨⟨by decide +kernel, by decide +kernel⟩, List.mem_of_getElem? (i := 19) (by decide +kernel), List.mem_of_getElem? (i := 269) (by decide +kernel), List.mem_of_getElem? (i := 270) (by decide +kernel)⟩
theorem lw_p5 : lw_okq (⟨"DoorActs", "outcomeOf", "(LDoorActs$Item;LDoorActs$Facts;III)I"⟩, 5) := ⟨⟨by decide +kernel, by decide +kernel⟩, List.mem_of_getElem? (i := 19) (by decide +kernel), List.mem_of_getElem? (i := 310) (by decide +kernel), List.mem_of_getElem? (i := 311) (by decide +kernel)⟩
theorem lw_p6 : lw_okq (⟨"DoorActs", "handOutcome", "(LDoorActs$Item;LDoorActs$Facts;II)I"⟩, 5) := ⟨⟨by decide +kernel, by decide +kernel⟩, List.mem_of_getElem? (i := 19) (by decide +kernel), List.mem_of_getElem? (i := 314) (by decide +kernel), List.mem_of_getElem? (i := 315) (by decide +kernel)⟩
theorem lw_p7 : lw_okq (⟨"DoorActs", "takerOutcome", "(LDoorActs$Item;LDoorActs$Facts;I)I"⟩, 5) := ⟨⟨by decide +kernel, by decide +kernel⟩, List.mem_of_getElem? (i := 19) (by decide +kernel), List.mem_of_getElem? (i := 318) (by decide +kernel), List.mem_of_getElem? (i := 319) (by decide +kernel)⟩
theorem lw_p8 : lw_okq (⟨"DoorActs", "hasOrder", "(LDoorActs$Item;I)Z"⟩, 5) := ⟨⟨by decide +kernel, by decide +kernel⟩, List.mem_of_getElem? (i := 19) (by decide +kernel), List.mem_of_getElem? (i := 322) (by decide +kernel), List.mem_of_getElem? (i := 323) (by decide +kernel)⟩
theorem lw_p9 : lw_okq (⟨"DoorActs$Facts", "leaveCard", "(I)V"⟩, 11) := ⟨⟨by decide +kernel, by decide +kernel⟩, List.mem_of_getElem? (i := 125) (by decide +kernel), List.mem_of_getElem? (i := 371) (by decide +kernel), List.mem_of_getElem? (i := 372) (by decide +kernel)⟩
theorem lw_p10 : lw_okq (⟨"DoorActs$Facts", "handOver", "(LDoorActs$Act;)V"⟩, 11) := ⟨⟨by decide +kernel, by decide +kernel⟩, List.mem_of_getElem? (i := 125) (by decide +kernel), List.mem_of_getElem? (i := 375) (by decide +kernel), List.mem_of_getElem? (i := 376) (by decide +kernel)⟩
theorem lw_p11 : lw_okq (⟨"DoorActs", "doForAll", "(LDoorActs$Act;)V"⟩, 5) := ⟨⟨by decide +kernel, by decide +kernel⟩, List.mem_of_getElem? (i := 19) (by decide +kernel), List.mem_of_getElem? (i := 383) (by decide +kernel), List.mem_of_getElem? (i := 384) (by decide +kernel)⟩
theorem lw_p12 : lw_okq (⟨"DoorActsModel", "findConsent", "(III)I"⟩, 34) := ⟨⟨by decide +kernel, by decide +kernel⟩, List.mem_of_getElem? (i := 459) (by decide +kernel), List.mem_of_getElem? (i := 584) (by decide +kernel), List.mem_of_getElem? (i := 585) (by decide +kernel)⟩
theorem lw_p13 : lw_okq (⟨"DoorActsModel", "isItem", "(I)Z"⟩, 34) := ⟨⟨by decide +kernel, by decide +kernel⟩, List.mem_of_getElem? (i := 459) (by decide +kernel), List.mem_of_getElem? (i := 592) (by decide +kernel), List.mem_of_getElem? (i := 593) (by decide +kernel)⟩
theorem lw_p14 : lw_okq (⟨"DoorActsModel", "canBe", "(IIIIJ)Z"⟩, 34) := ⟨⟨by decide +kernel, by decide +kernel⟩, List.mem_of_getElem? (i := 459) (by decide +kernel), List.mem_of_getElem? (i := 603) (by decide +kernel), List.mem_of_getElem? (i := 604) (by decide +kernel)⟩
theorem lw_p15 : lw_okq (⟨"DoorActsModel", "outcome", "(IIIII)I"⟩, 34) := ⟨⟨by decide +kernel, by decide +kernel⟩, List.mem_of_getElem? (i := 459) (by decide +kernel), List.mem_of_getElem? (i := 607) (by decide +kernel), List.mem_of_getElem? (i := 608) (by decide +kernel)⟩
def lw_privs_1 : List (MethodName × Nat) := [(⟨"java/util/ArrayList", "add", "(Ljava/lang/Object;[Ljava/lang/Object;I)V"⟩, 3), (⟨"java/util/ArrayList", "grow", "()[Ljava/lang/Object;"⟩, 3), (⟨"java/util/ArrayList", "grow", "(I)[Ljava/lang/Object;"⟩, 3), (⟨"DoorActs$Consents", "placeOf", "(I)I"⟩, 2), (⟨"DoorActs", "itemOf", "(I)LDoorActs$Item;"⟩, 5), (⟨"DoorActs", "outcomeOf", "(LDoorActs$Item;LDoorActs$Facts;III)I"⟩, 5), (⟨"DoorActs", "handOutcome", "(LDoorActs$Item;LDoorActs$Facts;II)I"⟩, 5), (⟨"DoorActs", "takerOutcome", "(LDoorActs$Item;LDoorActs$Facts;I)I"⟩, 5), (⟨"DoorActs", "hasOrder", "(LDoorActs$Item;I)Z"⟩, 5), (⟨"DoorActs$Facts", "leaveCard", "(I)V"⟩, 11), (⟨"DoorActs$Facts", "handOver", "(LDoorActs$Act;)V"⟩, 11), (⟨"DoorActs", "doForAll", "(LDoorActs$Act;)V"⟩, 5), (⟨"DoorActsModel", "findConsent", "(III)I"⟩, 34), (⟨"DoorActsModel", "isItem", "(I)Z"⟩, 34), (⟨"DoorActsModel", "canBe", "(IIIIJ)Z"⟩, 34), (⟨"DoorActsModel", "outcome", "(IIIII)I"⟩, 34)]
theorem lw_r1 : ∀ q ∈ lw_privs_1, lw_okq q := List.forall_mem_cons.mpr ⟨lw_p0, List.forall_mem_cons.mpr ⟨lw_p1, List.forall_mem_cons.mpr ⟨lw_p2, List.forall_mem_cons.mpr ⟨lw_p3, List.forall_mem_cons.mpr ⟨lw_p4, List.forall_mem_cons.mpr ⟨lw_p5, List.forall_mem_cons.mpr ⟨lw_p6, List.forall_mem_cons.mpr ⟨lw_p7, List.forall_mem_cons.mpr ⟨lw_p8, List.forall_mem_cons.mpr ⟨lw_p9, List.forall_mem_cons.mpr ⟨lw_p10, List.forall_mem_cons.mpr ⟨lw_p11, List.forall_mem_cons.mpr ⟨lw_p12, List.forall_mem_cons.mpr ⟨lw_p13, List.forall_mem_cons.mpr ⟨lw_p14, List.forall_mem_cons.mpr ⟨lw_p15, fun _ h => absurd h List.not_mem_nil⟩⟩⟩⟩⟩⟩⟩⟩⟩⟩⟩⟩⟩⟩⟩⟩
theorem lw_p16 : lw_okq (⟨"DoorActsModel", "whoTakes", "(IIZ)I"⟩, 34) := ⟨⟨by decide +kernel, by decide +kernel⟩, List.mem_of_getElem? (i := 459) (by decide +kernel), List.mem_of_getElem? (i := 611) (by decide +kernel), List.mem_of_getElem? (i := 612) (by decide +kernel)⟩
theorem lw_p17 : lw_okq (⟨"DoorActsModel", "isProven", "(IIIZ)Z"⟩, 34) := ⟨⟨by decide +kernel, by decide +kernel⟩, List.mem_of_getElem? (i := 459) (by decide +kernel), List.mem_of_getElem? (i := 615) (by decide +kernel), List.mem_of_getElem? (i := 616) (by decide +kernel)⟩
theorem lw_p18 : lw_okq (⟨"DoorActsModel", "due", "(I)J"⟩, 34) := ⟨⟨by decide +kernel, by decide +kernel⟩, List.mem_of_getElem? (i := 459) (by decide +kernel), List.mem_of_getElem? (i := 619) (by decide +kernel), List.mem_of_getElem? (i := 620) (by decide +kernel)⟩
theorem lw_p19 : lw_okq (⟨"DoorActsModel", "make", "(IIIIIIJ)V"⟩, 34) := ⟨⟨by decide +kernel, by decide +kernel⟩, List.mem_of_getElem? (i := 459) (by decide +kernel), List.mem_of_getElem? (i := 624) (by decide +kernel), List.mem_of_getElem? (i := 625) (by decide +kernel)⟩
theorem lw_p20 : lw_okq (⟨"DoorActsModel", "hand", "(IIIIJ)V"⟩, 34) := ⟨⟨by decide +kernel, by decide +kernel⟩, List.mem_of_getElem? (i := 459) (by decide +kernel), List.mem_of_getElem? (i := 628) (by decide +kernel), List.mem_of_getElem? (i := 629) (by decide +kernel)⟩
def lw_privs_2 : List (MethodName × Nat) := [(⟨"DoorActsModel", "whoTakes", "(IIZ)I"⟩, 34), (⟨"DoorActsModel", "isProven", "(IIIZ)Z"⟩, 34), (⟨"DoorActsModel", "due", "(I)J"⟩, 34), (⟨"DoorActsModel", "make", "(IIIIIIJ)V"⟩, 34), (⟨"DoorActsModel", "hand", "(IIIIJ)V"⟩, 34)]
theorem lw_r2 : ∀ q ∈ lw_privs_2, lw_okq q := List.forall_mem_cons.mpr ⟨lw_p16, List.forall_mem_cons.mpr ⟨lw_p17, List.forall_mem_cons.mpr ⟨lw_p18, List.forall_mem_cons.mpr ⟨lw_p19, List.forall_mem_cons.mpr ⟨lw_p20, fun _ h => absurd h List.not_mem_nil⟩⟩⟩⟩⟩
def lw_privs : List (MethodName × Nat) := lw_privs_1 ++ (lw_privs_2)
def lw_tbl : List Cond := k2_sels lw_privs ++ tables_1
theorem lw_privs_ok : ∀ q ∈ lw_privs, lw_okq q := by
  show ∀ q ∈ lw_privs_1 ++ (lw_privs_2), lw_okq q
  exact List.forall_mem_append.mpr ⟨lw_r1, lw_r2⟩
/-! NAMES, written by wip/whole/gennames.py out of the Statement. -/
def R_D : String := "DoorActs"
def T_D : u_T := fun k => match k with
  | 0 => ("DoorActs", "items", "Ljava/util/ArrayList;", true)
  | 1 => ("DoorActs", "clashes", "Ljava/util/ArrayList;", true)
  | 2 => ("DoorActs", "consents", "LDoorActs$Consents;", true)
  | 3 => ("DoorActs", "devices", "[LDoorActs$Device;", true)
  | _ => ("DoorActs", "today", "J", false)
def t_D : Nat → FieldType := fun k => match k with
  | 0 => .object "java/util/ArrayList"
  | 1 => .object "java/util/ArrayList"
  | 2 => .object "DoorActs$Consents"
  | 3 => .array (.object "DoorActs$Device")
  | _ => .long
def R_A : String := "DoorActs$Act"
def T_A : u_T := fun k => match k with
  | 0 => ("DoorActs$Act", "item", "LDoorActs$Item;", true)
  | 1 => ("DoorActs$Act", "device", "I", true)
  | 2 => ("DoorActs$Act", "kind", "I", true)
  | 3 => ("DoorActs$Act", "who", "I", true)
  | 4 => ("DoorActs$Act", "outcome", "I", true)
  | _ => ("DoorActs$Act", "day", "I", true)
def t_A : Nat → FieldType := fun k => match k with
  | 0 => .object "DoorActs$Item"
  | 1 => .int
  | 2 => .int
  | 3 => .int
  | 4 => .int
  | _ => .int
def R_C : String := "DoorActs$Clash"
def T_C : u_T := fun k => match k with
  | 0 => ("DoorActs$Clash", "item", "I", true)
  | 1 => ("DoorActs$Clash", "latestDevice", "I", true)
  | _ => ("DoorActs$Clash", "joinedDevice", "I", true)
def t_C : Nat → FieldType := fun k => match k with
  | 0 => .int
  | 1 => .int
  | _ => .int
def R_N : String := "DoorActs$Consents"
def T_N : u_T := fun k => match k with
  | 0 => ("DoorActs$Consents", "told", "[I", true)
  | _ => ("DoorActs$Consents", "count", "I", false)
def t_N : Nat → FieldType := fun k => match k with
  | 0 => .array .int
  | _ => .int
def R_V : String := "DoorActs$Device"
def T_V : u_T := fun k => match k with
  | 0 => ("DoorActs$Device", "off", "Z", false)
  | 1 => ("DoorActs$Device", "latestTime", "J", false)
  | 2 => ("DoorActs$Device", "rows", "Ljava/util/ArrayList;", true)
  | _ => ("DoorActs$Device", "known", "Ljava/util/ArrayList;", true)
def t_V : Nat → FieldType := fun k => match k with
  | 0 => .boolean
  | 1 => .long
  | 2 => .object "java/util/ArrayList"
  | _ => .object "java/util/ArrayList"
def R_F : String := "DoorActs$Facts"
def T_F : u_T := fun k => match k with
  | 0 => ("DoorActs$Facts", "state", "I", false)
  | 1 => ("DoorActs$Facts", "stateBefore", "I", false)
  | 2 => ("DoorActs$Facts", "damaged", "Z", false)
  | 3 => ("DoorActs$Facts", "cards", "I", false)
  | 4 => ("DoorActs$Facts", "cardDay", "I", false)
  | 5 => ("DoorActs$Facts", "keptTo", "I", false)
  | 6 => ("DoorActs$Facts", "handDevice", "I", false)
  | 7 => ("DoorActs$Facts", "handDay", "I", false)
  | 8 => ("DoorActs$Facts", "taker", "I", false)
  | 9 => ("DoorActs$Facts", "slip", "I", false)
  | _ => ("DoorActs$Facts", "latestDevice", "I", false)
def t_F : Nat → FieldType := fun k => match k with
  | 0 => .int
  | 1 => .int
  | 2 => .boolean
  | 3 => .int
  | 4 => .int
  | 5 => .int
  | 6 => .int
  | 7 => .int
  | 8 => .int
  | 9 => .int
  | _ => .int
def R_I : String := "DoorActs$Item"
def T_I : u_T := fun k => match k with
  | 0 => ("DoorActs$Item", "number", "I", true)
  | 1 => ("DoorActs$Item", "service", "I", true)
  | 2 => ("DoorActs$Item", "receiver", "I", true)
  | 3 => ("DoorActs$Item", "facts", "LDoorActs$Facts;", true)
  | _ => ("DoorActs$Item", "due", "I", false)
def t_I : Nat → FieldType := fun k => match k with
  | 0 => .int
  | 1 => .int
  | 2 => .int
  | 3 => .object "DoorActs$Facts"
  | _ => .int
def R_L : String := "java/util/ArrayList"
def T_L : u_T := fun k => match k with
  | 0 => ("java/util/ArrayList", "elementData", "[Ljava/lang/Object;", false)
  | 1 => ("java/util/ArrayList", "size", "I", false)
  | _ => ("java/util/AbstractList", "modCount", "I", false)
def t_L : Nat → FieldType := fun k => match k with
  | 0 => .array (.object "java/lang/Object")
  | 1 => .int
  | _ => .int
def R_M : String := "DoorActsModel"
def T_M : u_T := fun k => match k with
  | 0 => ("DoorActsModel", "items", "I", false)
  | 1 => ("DoorActsModel", "services", "[I", true)
  | 2 => ("DoorActsModel", "receivers", "[I", true)
  | 3 => ("DoorActsModel", "paid", "[J", true)
  | 4 => ("DoorActsModel", "latest", "[I", true)
  | 5 => ("DoorActsModel", "signed", "[Z", true)
  | 6 => ("DoorActsModel", "sentBack", "[Z", true)
  | 7 => ("DoorActsModel", "states", "[I", true)
  | 8 => ("DoorActsModel", "cards", "[I", true)
  | 9 => ("DoorActsModel", "cardDays", "[J", true)
  | 10 => ("DoorActsModel", "keptDays", "[J", true)
  | 11 => ("DoorActsModel", "takers", "[I", true)
  | 12 => ("DoorActsModel", "handDevices", "[I", true)
  | 13 => ("DoorActsModel", "handDays", "[J", true)
  | 14 => ("DoorActsModel", "befores", "[I", true)
  | 15 => ("DoorActsModel", "damaged", "[Z", true)
  | 16 => ("DoorActsModel", "consents", "I", false)
  | 17 => ("DoorActsModel", "consentPersons", "[I", true)
  | 18 => ("DoorActsModel", "consentKinds", "[I", true)
  | 19 => ("DoorActsModel", "consentOthers", "[I", true)
  | 20 => ("DoorActsModel", "off", "[Z", true)
  | 21 => ("DoorActsModel", "known", "[I", true)
  | 22 => ("DoorActsModel", "times", "[J", true)
  | 23 => ("DoorActsModel", "rows", "[I", true)
  | 24 => ("DoorActsModel", "rowItems", "[I", true)
  | 25 => ("DoorActsModel", "rowKinds", "[I", true)
  | 26 => ("DoorActsModel", "rowOutcomes", "[I", true)
  | 27 => ("DoorActsModel", "rowWhos", "[I", true)
  | 28 => ("DoorActsModel", "rowDays", "[J", true)
  | 29 => ("DoorActsModel", "clashes", "I", false)
  | 30 => ("DoorActsModel", "clashItems", "[I", true)
  | 31 => ("DoorActsModel", "clashOthers", "[I", true)
  | 32 => ("DoorActsModel", "clashDevices", "[I", true)
  | _ => ("DoorActsModel", "today", "J", false)
def t_M : Nat → FieldType := fun k => match k with
  | 0 => .int
  | 1 => .array .int
  | 2 => .array .int
  | 3 => .array .long
  | 4 => .array .int
  | 5 => .array .boolean
  | 6 => .array .boolean
  | 7 => .array .int
  | 8 => .array .int
  | 9 => .array .long
  | 10 => .array .long
  | 11 => .array .int
  | 12 => .array .int
  | 13 => .array .long
  | 14 => .array .int
  | 15 => .array .boolean
  | 16 => .int
  | 17 => .array .int
  | 18 => .array .int
  | 19 => .array .int
  | 20 => .array .boolean
  | 21 => .array .int
  | 22 => .array .long
  | 23 => .array .int
  | 24 => .array .int
  | 25 => .array .int
  | 26 => .array .int
  | 27 => .array .int
  | 28 => .array .long
  | 29 => .int
  | 30 => .array .int
  | 31 => .array .int
  | 32 => .array .int
  | _ => .long
abbrev kc : List vw_C := [(R_D, T_D, 5), (R_A, T_A, 6), (R_C, T_C, 3), (R_N, T_N, 2), (R_V, T_V, 4), (R_F, T_F, 11), (R_I, T_I, 5), (R_L, T_L, 3), (R_M, T_M, 34)]
abbrev kt (dA : Nat → ClassId) : List (ClassId × FieldType) := [(dA 0, .int), (dA 1, .object "DoorActs$Device"), (dA 2, .object "java/lang/Object"), (dA 3, .long), (dA 4, .boolean)]
abbrev tb : List Cond := lw_tbl.filter goodWord
theorem tb_good : ∀ w ∈ tb, goodWord w = true := fun w hw => (List.mem_filter.mp hw).2
/-- the words that a call does not carry by itself -/
def tx : List Cond := [(.methodLinkNest "DoorActs" (21 : Nat) ({ cls := "DoorActs$Consents", name := "<init>", desc := "()V" } : Jvm.MethodName) "DoorActs"), (.methodLinkNest "DoorActs" (36 : Nat) ({ cls := "DoorActs$Device", name := "<init>", desc := "()V" } : Jvm.MethodName) "DoorActs"), (.methodLinkNest "DoorActs$Item" (11 : Nat) ({ cls := "DoorActs$Facts", name := "<init>", desc := "()V" } : Jvm.MethodName) "DoorActs"), (.methodLinkNest "DoorActs$Device" (43 : Nat) ({ cls := "DoorActs$Facts", name := "<init>", desc := "()V" } : Jvm.MethodName) "DoorActs"), (.castable "DoorActs$Item" "DoorActs$Item"), (.castable "DoorActs$Facts" "DoorActs$Facts"), (.castable "DoorActs$Act" "DoorActs$Act"), (.castable "DoorActs$Clash" "DoorActs$Clash"), (.declares ({ cls := "java/lang/Object", name := "getClass", desc := "()Ljava/lang/Class;" } : Jvm.MethodName)), (.castable "DoorActs" "java/lang/Object"), (.castable "DoorActs$Consents" "java/lang/Object"), (.castable "DoorActs$Device" "java/lang/Object"), (.castable "DoorActsModel" "java/lang/Object"), (.castable "DoorActs$Item" "java/lang/Object"), (.castable "DoorActs$Facts" "java/lang/Object"), (.castable "DoorActs$Act" "java/lang/Object"), (.castable "DoorActs$Clash" "java/lang/Object")]
theorem tx_in : ∀ w ∈ tx, w ∈ lw_tbl := by decide +kernel
abbrev b_D_init : ByteArray := prog_1_method_1_code
def y_D_init : MethodName := ⟨"DoorActs", "<init>", "()V"⟩
abbrev b_O_init : ByteArray := object_method_1_code
def y_O_init : MethodName := ⟨"java/lang/Object", "<init>", "()V"⟩
abbrev b_L_init : ByteArray := prog_17_method_2_code
def y_L_init : MethodName := ⟨"java/util/ArrayList", "<init>", "()V"⟩
abbrev b_AL_init : ByteArray := prog_16_method_1_code
def y_AL_init : MethodName := ⟨"java/util/AbstractList", "<init>", "()V"⟩
abbrev b_AC_init : ByteArray := prog_15_method_1_code
def y_AC_init : MethodName := ⟨"java/util/AbstractCollection", "<init>", "()V"⟩
abbrev b_N_init : ByteArray := prog_4_method_1_code
def y_N_init : MethodName := ⟨"DoorActs$Consents", "<init>", "()V"⟩
abbrev b_V_init : ByteArray := prog_5_method_1_code
def y_V_init : MethodName := ⟨"DoorActs$Device", "<init>", "()V"⟩
abbrev b_D_item : ByteArray := prog_1_method_2_code
def y_D_item : MethodName := ⟨"DoorActs", "item", "(II)I"⟩
abbrev b_D_isPerson : ByteArray := prog_1_method_13_code
def y_D_isPerson : MethodName := ⟨"DoorActs", "isPerson", "(I)Z"⟩
abbrev b_L_size : ByteArray := prog_17_method_8_code
def y_L_size : MethodName := ⟨"java/util/ArrayList", "size", "()I"⟩
abbrev b_I_init : ByteArray := prog_7_method_1_code
def y_I_init : MethodName := ⟨"DoorActs$Item", "<init>", "(III)V"⟩
abbrev b_F_init : ByteArray := prog_6_method_1_code
def y_F_init : MethodName := ⟨"DoorActs$Facts", "<init>", "()V"⟩
abbrev b_L_add1 : ByteArray := prog_17_method_25_code
def y_L_add1 : MethodName := ⟨"java/util/ArrayList", "add", "(Ljava/lang/Object;)Z"⟩
abbrev b_L_add3 : ByteArray := prog_17_method_24_code
def y_L_add3 : MethodName := ⟨"java/util/ArrayList", "add", "(Ljava/lang/Object;[Ljava/lang/Object;I)V"⟩
abbrev b_L_grow0 : ByteArray := prog_17_method_7_code
def y_L_grow0 : MethodName := ⟨"java/util/ArrayList", "grow", "()[Ljava/lang/Object;"⟩
abbrev b_L_grow1 : ByteArray := prog_17_method_6_code
def y_L_grow1 : MethodName := ⟨"java/util/ArrayList", "grow", "(I)[Ljava/lang/Object;"⟩
abbrev b_AS_newLength : ByteArray := prog_24_method_27_code
def y_AS_newLength : MethodName := ⟨"jdk/internal/util/ArraysSupport", "newLength", "(III)I"⟩
abbrev b_Ma_max : ByteArray := prog_13_method_65_code
def y_Ma_max : MethodName := ⟨"java/lang/Math", "max", "(II)I"⟩
abbrev b_AS_hugeLength : ByteArray := prog_24_method_28_code
def y_AS_hugeLength : MethodName := ⟨"jdk/internal/util/ArraysSupport", "hugeLength", "(II)I"⟩
abbrev b_Ar_copyOf2 : ByteArray := prog_18_method_119_code
def y_Ar_copyOf2 : MethodName := ⟨"java/util/Arrays", "copyOf", "([Ljava/lang/Object;I)[Ljava/lang/Object;"⟩
abbrev b_Ar_copyOf3 : ByteArray := prog_18_method_120_code
def y_Ar_copyOf3 : MethodName := ⟨"java/util/Arrays", "copyOf", "([Ljava/lang/Object;ILjava/lang/Class;)[Ljava/lang/Object;"⟩
abbrev b_Ma_min : ByteArray := prog_13_method_69_code
def y_Ma_min : MethodName := ⟨"java/lang/Math", "min", "(II)I"⟩
abbrev b_D_consent : ByteArray := prog_1_method_3_code
def y_D_consent : MethodName := ⟨"DoorActs", "consent", "(III)I"⟩
abbrev b_N_turn : ByteArray := prog_4_method_3_code
def y_N_turn : MethodName := ⟨"DoorActs$Consents", "turn", "(III)I"⟩
abbrev b_N_codeOf : ByteArray := prog_4_method_5_code
def y_N_codeOf : MethodName := ⟨"DoorActs$Consents", "codeOf", "(III)I"⟩
abbrev b_N_placeOf : ByteArray := prog_4_method_4_code
def y_N_placeOf : MethodName := ⟨"DoorActs$Consents", "placeOf", "(I)I"⟩
abbrev b_D_act : ByteArray := prog_1_method_4_code
def y_D_act : MethodName := ⟨"DoorActs", "act", "(IIIIIJ)I"⟩
abbrev b_D_itemOf : ByteArray := prog_1_method_16_code
def y_D_itemOf : MethodName := ⟨"DoorActs", "itemOf", "(I)LDoorActs$Item;"⟩
abbrev b_L_get : ByteArray := prog_17_method_20_code
def y_L_get : MethodName := ⟨"java/util/ArrayList", "get", "(I)Ljava/lang/Object;"⟩
abbrev b_Ob_checkIndex : ByteArray := prog_21_method_17_code
def y_Ob_checkIndex : MethodName := ⟨"java/util/Objects", "checkIndex", "(II)I"⟩
abbrev b_P_checkIndex : ByteArray := prog_25_method_11_code
def y_P_checkIndex : MethodName := ⟨"jdk/internal/util/Preconditions", "checkIndex", "(IILjava/util/function/BiFunction;)I"⟩
abbrev b_L_elementData : ByteArray := prog_17_method_18_code
def y_L_elementData : MethodName := ⟨"java/util/ArrayList", "elementData", "(I)Ljava/lang/Object;"⟩
abbrev b_D_isDevice : ByteArray := prog_1_method_14_code
def y_D_isDevice : MethodName := ⟨"DoorActs", "isDevice", "(I)Z"⟩
abbrev b_V_factsOf : ByteArray := prog_5_method_2_code
def y_V_factsOf : MethodName := ⟨"DoorActs$Device", "factsOf", "(LDoorActs$Item;)LDoorActs$Facts;"⟩
abbrev b_D_isActAsSaid : ByteArray := prog_1_method_15_code
def y_D_isActAsSaid : MethodName := ⟨"DoorActs", "isActAsSaid", "(III)Z"⟩
abbrev b_F_allow : ByteArray := prog_6_method_4_code
def y_F_allow : MethodName := ⟨"DoorActs$Facts", "allow", "(III)Z"⟩
abbrev b_F_isHandedOver : ByteArray := prog_6_method_3_code
def y_F_isHandedOver : MethodName := ⟨"DoorActs$Facts", "isHandedOver", "()Z"⟩
abbrev b_D_outcomeOf : ByteArray := prog_1_method_18_code
def y_D_outcomeOf : MethodName := ⟨"DoorActs", "outcomeOf", "(LDoorActs$Item;LDoorActs$Facts;III)I"⟩
abbrev b_D_handOutcome : ByteArray := prog_1_method_19_code
def y_D_handOutcome : MethodName := ⟨"DoorActs", "handOutcome", "(LDoorActs$Item;LDoorActs$Facts;II)I"⟩
abbrev b_D_takerOutcome : ByteArray := prog_1_method_20_code
def y_D_takerOutcome : MethodName := ⟨"DoorActs", "takerOutcome", "(LDoorActs$Item;LDoorActs$Facts;I)I"⟩
abbrev b_D_hasOrder : ByteArray := prog_1_method_21_code
def y_D_hasOrder : MethodName := ⟨"DoorActs", "hasOrder", "(LDoorActs$Item;I)Z"⟩
abbrev b_N_stand : ByteArray := prog_4_method_2_code
def y_N_stand : MethodName := ⟨"DoorActs$Consents", "stand", "(III)Z"⟩
abbrev b_D_isProofEnough : ByteArray := prog_1_method_22_code
def y_D_isProofEnough : MethodName := ⟨"DoorActs", "isProofEnough", "(LDoorActs$Item;LDoorActs$Facts;II)Z"⟩
abbrev b_A_init : ByteArray := prog_2_method_1_code
def y_A_init : MethodName := ⟨"DoorActs$Act", "<init>", "(LDoorActs$Item;IIIII)V"⟩
abbrev b_F_change : ByteArray := prog_6_method_5_code
def y_F_change : MethodName := ⟨"DoorActs$Facts", "change", "(LDoorActs$Act;)V"⟩
abbrev b_F_leaveCard : ByteArray := prog_6_method_6_code
def y_F_leaveCard : MethodName := ⟨"DoorActs$Facts", "leaveCard", "(I)V"⟩
abbrev b_F_handOver : ByteArray := prog_6_method_7_code
def y_F_handOver : MethodName := ⟨"DoorActs$Facts", "handOver", "(LDoorActs$Act;)V"⟩
abbrev b_D_join : ByteArray := prog_1_method_5_code
def y_D_join : MethodName := ⟨"DoorActs", "join", "(I)I"⟩
abbrev b_D_doForAll : ByteArray := prog_1_method_17_code
def y_D_doForAll : MethodName := ⟨"DoorActs", "doForAll", "(LDoorActs$Act;)V"⟩
abbrev b_C_init : ByteArray := prog_3_method_1_code
def y_C_init : MethodName := ⟨"DoorActs$Clash", "<init>", "(III)V"⟩
abbrev b_V_goOnLine : ByteArray := prog_5_method_4_code
def y_V_goOnLine : MethodName := ⟨"DoorActs$Device", "goOnLine", "()V"⟩
abbrev b_L_clear : ByteArray := prog_17_method_40_code
def y_L_clear : MethodName := ⟨"java/util/ArrayList", "clear", "()V"⟩
abbrev b_D_clash : ByteArray := prog_1_method_6_code
def y_D_clash : MethodName := ⟨"DoorActs", "clash", "(II)I"⟩
abbrev b_D_cut : ByteArray := prog_1_method_7_code
def y_D_cut : MethodName := ⟨"DoorActs", "cut", "(IZ)Z"⟩
abbrev b_V_goOffLine : ByteArray := prog_5_method_3_code
def y_V_goOffLine : MethodName := ⟨"DoorActs$Device", "goOffLine", "(Ljava/util/ArrayList;)V"⟩
abbrev b_F_copyFrom : ByteArray := prog_6_method_2_code
def y_F_copyFrom : MethodName := ⟨"DoorActs$Facts", "copyFrom", "(LDoorActs$Facts;)V"⟩
abbrev b_D_tries : ByteArray := prog_1_method_8_code
def y_D_tries : MethodName := ⟨"DoorActs", "tries", "(I)I"⟩
abbrev b_D_tick : ByteArray := prog_1_method_9_code
def y_D_tick : MethodName := ⟨"DoorActs", "tick", "(J)I"⟩
abbrev b_F_goBackBy : ByteArray := prog_6_method_8_code
def y_F_goBackBy : MethodName := ⟨"DoorActs$Facts", "goBackBy", "(J)Z"⟩
abbrev b_D_slip : ByteArray := prog_1_method_10_code
def y_D_slip : MethodName := ⟨"DoorActs", "slip", "(II)I"⟩
abbrev b_D_cash : ByteArray := prog_1_method_11_code
def y_D_cash : MethodName := ⟨"DoorActs", "cash", "(IJ)I"⟩
abbrev b_D_state : ByteArray := prog_1_method_12_code
def y_D_state : MethodName := ⟨"DoorActs", "state", "(I)I"⟩
abbrev b_M_init : ByteArray := prog_9_method_1_code
def y_M_init : MethodName := ⟨"DoorActsModel", "<init>", "()V"⟩
abbrev b_M_item : ByteArray := prog_9_method_6_code
def y_M_item : MethodName := ⟨"DoorActsModel", "item", "(II)I"⟩
abbrev b_M_isIn : ByteArray := prog_9_method_3_code
def y_M_isIn : MethodName := ⟨"DoorActsModel", "isIn", "(JJJ)Z"⟩
abbrev b_M_consent : ByteArray := prog_9_method_8_code
def y_M_consent : MethodName := ⟨"DoorActsModel", "consent", "(III)I"⟩
abbrev b_M_findConsent : ByteArray := prog_9_method_7_code
def y_M_findConsent : MethodName := ⟨"DoorActsModel", "findConsent", "(III)I"⟩
abbrev b_M_act : ByteArray := prog_9_method_16_code
def y_M_act : MethodName := ⟨"DoorActsModel", "act", "(IIIIIJ)I"⟩
abbrev b_M_isItem : ByteArray := prog_9_method_4_code
def y_M_isItem : MethodName := ⟨"DoorActsModel", "isItem", "(I)Z"⟩
abbrev b_M_isDevice : ByteArray := prog_9_method_5_code
def y_M_isDevice : MethodName := ⟨"DoorActsModel", "isDevice", "(I)Z"⟩
abbrev b_M_canBe : ByteArray := prog_9_method_9_code
def y_M_canBe : MethodName := ⟨"DoorActsModel", "canBe", "(IIIIJ)Z"⟩
abbrev b_M_outcome : ByteArray := prog_9_method_13_code
def y_M_outcome : MethodName := ⟨"DoorActsModel", "outcome", "(IIIII)I"⟩
abbrev b_M_whoTakes : ByteArray := prog_9_method_10_code
def y_M_whoTakes : MethodName := ⟨"DoorActsModel", "whoTakes", "(IIZ)I"⟩
abbrev b_M_isProven : ByteArray := prog_9_method_11_code
def y_M_isProven : MethodName := ⟨"DoorActsModel", "isProven", "(IIIZ)Z"⟩
abbrev b_M_due : ByteArray := prog_9_method_12_code
def y_M_due : MethodName := ⟨"DoorActsModel", "due", "(I)J"⟩
abbrev b_M_make : ByteArray := prog_9_method_15_code
def y_M_make : MethodName := ⟨"DoorActsModel", "make", "(IIIIIIJ)V"⟩
abbrev b_M_hand : ByteArray := prog_9_method_14_code
def y_M_hand : MethodName := ⟨"DoorActsModel", "hand", "(IIIIJ)V"⟩
abbrev b_M_cut : ByteArray := prog_9_method_17_code
def y_M_cut : MethodName := ⟨"DoorActsModel", "cut", "(IZ)Z"⟩
abbrev b_M_join : ByteArray := prog_9_method_18_code
def y_M_join : MethodName := ⟨"DoorActsModel", "join", "(I)I"⟩
abbrev b_M_clash : ByteArray := prog_9_method_19_code
def y_M_clash : MethodName := ⟨"DoorActsModel", "clash", "(II)I"⟩
abbrev b_M_tries : ByteArray := prog_9_method_20_code
def y_M_tries : MethodName := ⟨"DoorActsModel", "tries", "(I)I"⟩
abbrev b_M_tick : ByteArray := prog_9_method_21_code
def y_M_tick : MethodName := ⟨"DoorActsModel", "tick", "(J)I"⟩
abbrev b_M_slip : ByteArray := prog_9_method_22_code
def y_M_slip : MethodName := ⟨"DoorActsModel", "slip", "(II)I"⟩
abbrev b_M_cash : ByteArray := prog_9_method_23_code
def y_M_cash : MethodName := ⟨"DoorActsModel", "cash", "(IJ)I"⟩
abbrev b_M_state : ByteArray := prog_9_method_24_code
def y_M_state : MethodName := ⟨"DoorActsModel", "state", "(I)I"⟩
theorem i_D : ∀ w ∈ u_ws R_D T_D 5, w ∈ tb := by decide +kernel
theorem to_D : ∀ j, j < 5 → parseFieldDescriptor (T_D j).2.2.1 = some (t_D j) := by decide +kernel
theorem no_D : ∀ a, a < 5 → ∀ b, b < 5 → a ≠ b → (T_D a).2.1 ≠ (T_D b).2.1 := by decide +kernel
theorem i_A : ∀ w ∈ u_ws R_A T_A 6, w ∈ tb := by decide +kernel
theorem to_A : ∀ j, j < 6 → parseFieldDescriptor (T_A j).2.2.1 = some (t_A j) := by decide +kernel
theorem no_A : ∀ a, a < 6 → ∀ b, b < 6 → a ≠ b → (T_A a).2.1 ≠ (T_A b).2.1 := by decide +kernel
theorem i_C : ∀ w ∈ u_ws R_C T_C 3, w ∈ tb := by decide +kernel
theorem to_C : ∀ j, j < 3 → parseFieldDescriptor (T_C j).2.2.1 = some (t_C j) := by decide +kernel
theorem no_C : ∀ a, a < 3 → ∀ b, b < 3 → a ≠ b → (T_C a).2.1 ≠ (T_C b).2.1 := by decide +kernel
theorem i_N : ∀ w ∈ u_ws R_N T_N 2, w ∈ tb := by decide +kernel
theorem to_N : ∀ j, j < 2 → parseFieldDescriptor (T_N j).2.2.1 = some (t_N j) := by decide +kernel
theorem no_N : ∀ a, a < 2 → ∀ b, b < 2 → a ≠ b → (T_N a).2.1 ≠ (T_N b).2.1 := by decide +kernel
theorem i_V : ∀ w ∈ u_ws R_V T_V 4, w ∈ tb := by decide +kernel
theorem to_V : ∀ j, j < 4 → parseFieldDescriptor (T_V j).2.2.1 = some (t_V j) := by decide +kernel
theorem no_V : ∀ a, a < 4 → ∀ b, b < 4 → a ≠ b → (T_V a).2.1 ≠ (T_V b).2.1 := by decide +kernel
theorem i_F : ∀ w ∈ u_ws R_F T_F 11, w ∈ tb := by decide +kernel
theorem to_F : ∀ j, j < 11 → parseFieldDescriptor (T_F j).2.2.1 = some (t_F j) := by decide +kernel
theorem no_F : ∀ a, a < 11 → ∀ b, b < 11 → a ≠ b → (T_F a).2.1 ≠ (T_F b).2.1 := by decide +kernel
theorem i_I : ∀ w ∈ u_ws R_I T_I 5, w ∈ tb := by decide +kernel
theorem to_I : ∀ j, j < 5 → parseFieldDescriptor (T_I j).2.2.1 = some (t_I j) := by decide +kernel
theorem no_I : ∀ a, a < 5 → ∀ b, b < 5 → a ≠ b → (T_I a).2.1 ≠ (T_I b).2.1 := by decide +kernel
theorem i_L : ∀ w ∈ u_ws R_L T_L 3, w ∈ tb := by decide +kernel
theorem to_L : ∀ j, j < 3 → parseFieldDescriptor (T_L j).2.2.1 = some (t_L j) := by decide +kernel
theorem no_L : ∀ a, a < 3 → ∀ b, b < 3 → a ≠ b → (T_L a).2.1 ≠ (T_L b).2.1 := by decide +kernel
theorem i_M : ∀ w ∈ u_ws R_M T_M 34, w ∈ tb := by decide +kernel
theorem to_M : ∀ j, j < 34 → parseFieldDescriptor (T_M j).2.2.1 = some (t_M j) := by decide +kernel
theorem no_M : ∀ a, a < 34 → ∀ b, b < 34 → a ≠ b → (T_M a).2.1 ≠ (T_M b).2.1 := by decide +kernel
end
section
/-! A VIEW of the heap: what is known of it, as a function from addresses to contents. Contracts speak of views; no frame is cut. -/
abbrev zVw : Type := Nat → Option va_E
def zu (M : zVw) (a : Nat) (e : va_E) : zVw := fun q => if q = a then some e else M q
theorem zu_s (M : zVw) (a : Nat) (e : va_E) : zu M a e a = some e := if_pos rfl
theorem zu_n {M : zVw} {a b : Nat} {e : va_E} (h : b ≠ a) : zu M a e b = M b := if_neg h
theorem zu_u (M : zVw) (a : Nat) (e1 e2 : va_E) : zu (zu M a e1) a e2 = zu M a e2 := by
  funext q
  unfold zu
  by_cases h : q = a
  · rw [if_pos h, if_pos h]
  · rw [if_neg h, if_neg h, if_neg h]
def zhv (D : va_G) (cl : List vw_C) (M : zVw) (H : Heap) : Prop := ∀ (a : Nat) (e : va_E), M a = some e → va_at D cl (a, e) H
def zhd (z : Nat) (M : zVw) : Prop := ∀ (q : Nat) (e : va_E), M q = some e → z ≤ q
def zws (M : zVw) : Nat → va_W
  | 0 => []
  | n + 1 => zws M n ++ (match M n with | some e => [(n, e)] | none => [])
theorem zws_lt (M : zVw) : ∀ (n k : Nat) (q : Nat × va_E), (zws M n)[k]? = some q → q.1 < n ∧ M q.1 = some q.2
  | 0, k, q, h => by simp [zws] at h
  | n + 1, k, q, h => by
    unfold zws at h
    by_cases hl : k < (zws M n).length
    · rw [List.getElem?_append_left hl] at h
      obtain ⟨h1, h2⟩ := zws_lt M n k q h
      exact ⟨by omega, h2⟩
    · rw [List.getElem?_append_right (by omega)] at h
      cases hM : M n with
      | none => rw [hM] at h; simp at h
      | some e =>
        rw [hM] at h
        have hz : k - (zws M n).length < 1 := (List.getElem?_eq_some_iff.mp h).1
        rw [show k - (zws M n).length = 0 by omega] at h
        cases h
        exact ⟨by show n < n + 1; omega, hM⟩
theorem zws_in (M : zVw) : ∀ (n a : Nat) (e : va_E), a < n → M a = some e → ∃ k : Nat, (zws M n)[k]? = some (a, e)
  | 0, a, e, h, _ => absurd h (by omega)
  | n + 1, a, e, h, hM => by
    by_cases ha : a < n
    · obtain ⟨k, hk⟩ := zws_in M n a e ha hM
      refine ⟨k, ?_⟩
      unfold zws
      rw [List.getElem?_append_left (List.getElem?_eq_some_iff.mp hk).1]
      exact hk
    · have e1 : a = n := by omega
      subst e1
      refine ⟨(zws M a).length, ?_⟩
      show (zws M a ++ (match M a with | some e => [(a, e)] | none => []))[(zws M a).length]? = _
      rw [List.getElem?_append_right (Nat.le_refl _), hM, Nat.sub_self]
      rfl
theorem zws_nd (M : zVw) : ∀ (n i j : Nat) (p q : Nat × va_E), (zws M n)[i]? = some p → (zws M n)[j]? = some q → p.1 = q.1 → i = j
  | 0, i, j, p, q, h, _, _ => by simp [zws] at h
  | n + 1, i, j, p, q, hi, hj, hpq => by
    have key : ∀ (k : Nat) (x : Nat × va_E), (zws M (n + 1))[k]? = some x → ((zws M n)[k]? = some x ∧ x.1 < n) ∨ (k = (zws M n).length ∧ x.1 = n) := by
      intro k x h
      unfold zws at h
      by_cases hl : k < (zws M n).length
      · rw [List.getElem?_append_left hl] at h
        exact Or.inl ⟨h, (zws_lt M n k x h).1⟩
      · rw [List.getElem?_append_right (by omega)] at h
        cases hM : M n with
        | none => rw [hM] at h; simp at h
        | some e =>
          rw [hM] at h
          have hz : k - (zws M n).length < 1 := (List.getElem?_eq_some_iff.mp h).1
          have hk : k = (zws M n).length := by omega
          rw [show k - (zws M n).length = 0 by omega] at h
          cases h
          exact Or.inr ⟨hk, rfl⟩
    rcases key i p hi with ⟨a1, a2⟩ | ⟨a1, a2⟩ <;> rcases key j q hj with ⟨b1, b2⟩ | ⟨b1, b2⟩
    · exact zws_nd M n i j p q a1 b1 hpq
    · omega
    · omega
    · omega
/-- a view as one of the kit's lists of cells, so that the kit's rows serve views -/
theorem zv_ws {D : va_G} {cl : List vw_C} {M : zVw} {H : Heap} {z : Nat} (h : zhv D cl M H) (hd : zhd z M) :
    ∃ ws : va_W, va_P D cl ws H ∧ va_D (fun q => z ≤ q) ws ∧ (∀ (a : Nat) (e : va_E), M a = some e → ∃ k : Nat, ws[k]? = some (a, e)) ∧
      (∀ (k a : Nat) (e0 e : va_E) (H1 : Heap), ws[k]? = some (a, e0) → va_P D cl (ws.set k (a, e)) H1 → zhv D cl (zu M a e) H1) ∧
      (∀ (q : Nat) (e : va_E) (H1 : Heap), va_P D cl (ws ++ [(q, e)]) H1 → zhv D cl (zu M q e) H1) ∧
      (∀ (q : Nat) (e : va_E), va_D (fun q => z ≤ q) (ws ++ [(q, e)]) → M q = none ∧ z ≤ q) ∧ (∀ (k : Nat) (q : Nat × va_E), ws[k]? = some q → M q.1 = some q.2) := by
  have hin : ∀ (a : Nat) (e : va_E), M a = some e → ∃ k : Nat, (zws M H.size)[k]? = some (a, e) := fun a e hM => zws_in M H.size a e (h a e hM).lt hM
  refine ⟨zws M H.size, fun k q hk => h q.1 q.2 (zws_lt M _ k q hk).2, ⟨zws_nd M H.size, fun k q hk => hd q.1 q.2 (zws_lt M _ k q hk).2⟩, hin, ?_, ?_, ?_, fun k q hk => (zws_lt M _ k q hk).2⟩
  · intro k a e0 e H1 hk hP b e2 hb
    have hl := (List.getElem?_eq_some_iff.mp hk).1
    by_cases hba : b = a
    · subst hba
      rw [zu_s] at hb
      cases hb
      exact hP k (b, e) (by rw [List.getElem?_set_self hl])
    · rw [zu_n hba] at hb
      obtain ⟨j, hj⟩ := hin b e2 hb
      have hjk : k ≠ j := fun q => by subst q; rw [hk] at hj; cases hj; exact hba rfl
      exact hP j (b, e2) (by rw [List.getElem?_set_ne hjk]; exact hj)
  · intro q e H1 hP b e2 hb
    by_cases hbq : b = q
    · subst hbq
      rw [zu_s] at hb
      cases hb
      exact hP (zws M H.size).length (b, e) (by rw [List.getElem?_append_right (Nat.le_refl _), Nat.sub_self]; rfl)
    · rw [zu_n hbq] at hb
      obtain ⟨j, hj⟩ := hin b e2 hb
      exact hP j (b, e2) (by rw [List.getElem?_append_left (List.getElem?_eq_some_iff.mp hj).1]; exact hj)
  · intro q e hD
    have hlast : (zws M H.size ++ [(q, e)])[(zws M H.size).length]? = some (q, e) := by rw [List.getElem?_append_right (Nat.le_refl _), Nat.sub_self]; rfl
    refine ⟨?_, hD.2 _ _ hlast⟩
    cases hM : M q with
    | none => rfl
    | some e2 =>
      obtain ⟨j, hj⟩ := hin q e2 hM
      have hjl := (List.getElem?_eq_some_iff.mp hj).1
      have := hD.1 j _ (q, e2) (q, e) (by rw [List.getElem?_append_left hjl]; exact hj) hlast rfl
      omega
theorem zhd_u {z a : Nat} {M : zVw} {e : va_E} (h : zhd z M) (ha : z ≤ a) : zhd z (zu M a e) := by
  intro q e2 hq
  by_cases hqa : q = a
  · subst hqa; exact ha
  · rw [zu_n hqa] at hq
    exact h q e2 hq
end
section
/-! THE JUDGEMENT over views (zJ), and a program that walks straight code and branches (zseg): what it leaves is pure. Written by wip/whole/genseg.py. -/
abbrev zK : Type := Nat → List (Nat × Value) → List Value → zVw → Nat → Nat → Prop
def zJ (p : Program) (l : Launch) (e : Env) (R : Room) (s : State) (m : MethodId) (args : Array Value) (below : List Frame) (meth : Method) (c : Code) (Q : State → Prop) (nL z : Nat) (D : va_G) : zK := fun pc loc st M k n =>
  ∀ (H : Heap) (locs : List Loc) (ls : Array Slot), zhv D kc M H → zhd z M → va_S (fun q => z ≤ q) s.heap H locs → lv_has ls nL loc → W p l e R s m args below meth c H locs k n Q (F0 m pc ls st)
/-- words that are moved one by one -/
def zNk : Cond → Bool
  | .methodLinkNest .. => true
  | .castable .. => true
  | .declares _ => true
  | _ => false
theorem zNk_warm {w : Cond} {s U : State} (hk : zNk w = true) (hW : s.WarmedH U.vm) (h : va_Nw w s) : va_Nw w U := by
  cases w <;> first | exact va_Nw.warmM hW h | exact va_Nw.warmC hW h | exact va_Nw.warmD hW h | cases hk
theorem zNk_on {w : Cond} (hk : zNk w = true) : w.onTables = true := by
  cases w <;> first | rfl | cases hk
theorem tx_k : ∀ w ∈ tx, zNk w = true := by
  have h : tx.all zNk = true := by decide +kernel
  exact fun w hw => List.all_eq_true.mp h w hw
/-- what the start gives of things that nobody writes: the empty array of ArrayList (its address: dA 100), the mirror of Object[] (dA 101), the words of tx -/
def zX (dA : Nat → ClassId) (z : Nat) (U : State) : Prop := va_Z "java/util/ArrayList" "DEFAULTCAPACITY_EMPTY_ELEMENTDATA" "[Ljava/lang/Object;" (.ref (dA 100)) (fun q => z ≤ q) U U.heap ∧ va_T (.object "java/lang/Object") (dA 100) 0 (fun _ => .null) (fun q => z ≤ q) U U.heap ∧ va_Mi "[Ljava/lang/Object;" (dA 101) U ∧ (∀ w ∈ tx, va_Nw w U) ∧ va_AO "DoorActs$Device" U ∧ va_AO "java/lang/Object" U
theorem zX_to {dA : Nat → ClassId} {z : Nat} {s t : State} {H : Heap} {locs : List Loc} (h : zX dA z s) (hW : s.WarmedH t.vm) (hS : va_S (fun q => z ≤ q) s.heap H locs) (ht : t.heap = H) : zX dA z t := by
  subst ht
  exact ⟨(h.1.kept (fun a h1 h2 => hS.2.1 a h1 h2)).moved hW.alike, (h.2.1.kept (fun a h1 h2 => hS.2.1 a h1 h2)).moved hW.alike, h.2.2.1.moved hW.alike, fun w hw => zNk_warm (tx_k w hw) hW (h.2.2.2.1 w hw), h.2.2.2.2.1.moved hW.alike, h.2.2.2.2.2.moved hW.alike⟩
theorem zX_same {dA : Nat → ClassId} {z : Nat} {s t : State} (h : zX dA z s) (hvm : s.vm = t.vm) (ht : t.heap = s.heap) : zX dA z t := by
  have ha : s.vm.Alike t.vm := by rw [hvm]; exact Vm.Alike.refl _
  refine ⟨?_, ?_, h.2.2.1.moved ha, fun w hw => va_Nw.same (zNk_on (tx_k w hw)) hvm (h.2.2.2.1 w hw), h.2.2.2.2.1.moved ha, h.2.2.2.2.2.moved ha⟩
  · rw [ht]; exact h.1.moved ha
  · rw [ht]; exact h.2.1.moved ha
def zC (p : Program) (s : State) (m : MethodId) (args : Array Value) (meth : Method) (c : Code) (own : String) (cc : ByteArray) (nL z : Nat) (D : va_G) (dA : Nat → ClassId) (ini : Bool) : Prop :=
  p.tables.exec = Jvm.exec ∧ c.code = cc ∧ c.maxLocals = nL ∧ s.vm.findClass own = some m.cls ∧ (∀ w ∈ tb, w.before args s = true) ∧ meth.locks = false ∧ va_K D kc (kt dA) s ∧ z ≤ s.heap.size ∧ (ini = true → meth.name = "<init>") ∧ zX dA z s
/-- locals -/
def zlg : List (Nat × Value) → Nat → Option Value
  | [], _ => none
  | (j, v) :: l, i => bif j == i then some v else zlg l i
def zw (v : Value) : Bool := v.category == 2
def zlr : List (Nat × Value) → Nat → List (Nat × Value)
  | [], _ => []
  | (j, v) :: l, i => bif j == i || (j + 1 == i && zw v) then zlr l i else (j, v) :: zlr l i
theorem zlg_at {ls : Array Slot} {nL : Nat} : ∀ {loc : List (Nat × Value)} {i : Nat} {v : Value}, lv_has ls nL loc → zlg loc i = some v → ls[i]? = some (.val v)
  | [], i, v, _, h => by simp [zlg] at h
  | (j, w) :: loc, i, v, hl, h => by
    unfold zlg at h
    cases hj : (j == i) with
    | true =>
      rw [hj] at h
      have e1 : j = i := by simpa using hj
      cases h
      subst e1
      exact hl.2.2 (j, w) List.mem_cons_self
    | false =>
      rw [hj] at h
      exact zlg_at (loc := loc) ⟨hl.1, hl.2.1, fun q hq => hl.2.2 q (List.mem_cons_of_mem _ hq)⟩ h
theorem zlr_eq : ∀ (loc : List (Nat × Value)) (i : Nat), loc.filter (fun q => !(q.1 == i) && !(q.1 + 1 == i && q.2.category == 2)) = zlr loc i
  | [], i => rfl
  | (j, v) :: l, i => by
    unfold zlr
    rw [← zlr_eq l i]
    unfold zw
    cases h1 : (j == i) <;> cases h2 : (j + 1 == i) <;> cases h3 : (v.category == 2) <;> simp [List.filter_cons, h1, h2, h3]
def zl2 : List (Nat × Value) → Nat → List (Nat × Value)
  | [], _ => []
  | (j, v) :: l, i => bif j == i || (j == i + 1 || (j + 1 == i && zw v)) then zl2 l i else (j, v) :: zl2 l i
theorem zl2_eq : ∀ (loc : List (Nat × Value)) (i : Nat), loc.filter (fun q => !(q.1 == i) && (!(q.1 == i + 1) && !(q.1 + 1 == i && q.2.category == 2))) = zl2 loc i
  | [], i => rfl
  | (j, v) :: l, i => by
    unfold zl2
    rw [← zl2_eq l i]
    unfold zw
    cases h1 : (j == i) <;> cases h4 : (j == i + 1) <;> cases h2 : (j + 1 == i) <;> cases h3 : (v.category == 2) <;> simp [List.filter_cons, h1, h2, h3, h4]
/-- options -/
def zvo : Option Value → Value
  | some v => v
  | none => .null
def zso : Option Value → Bool
  | some _ => true
  | none => false
def zsI : Option Value → Bool
  | some (.int _) => true
  | _ => false
def zsL : Option Value → Bool
  | some (.long _) => true
  | _ => false
def zsA : Option Value → Bool
  | some (.ref _) => true
  | some .null => true
  | _ => false
def zin : Option Value → Int32
  | some (.int x) => x
  | _ => 0
theorem zsI_sp {o : Option Value} (h : zsI o = true) : ∃ x, o = some (.int x) := by
  rcases o with _ | v
  · cases h
  · cases v <;> first | exact ⟨_, rfl⟩ | cases h
theorem zsL_sp {o : Option Value} (h : zsL o = true) : ∃ x, o = some (.long x) := by
  rcases o with _ | v
  · cases h
  · cases v <;> first | exact ⟨_, rfl⟩ | cases h
theorem zsA_sp {o : Option Value} (h : zsA o = true) : (∃ x, o = some (.ref x)) ∨ o = some .null := by
  rcases o with _ | v
  · cases h
  · cases v <;> first | exact Or.inl ⟨_, rfl⟩ | exact Or.inr rfl | cases h
/-- fields: which class and slot and kind (0 int, 1 long, 2 boolean, 3 a reference; 10 more: final) -/
def zrd : Option (Nat × Nat × Nat) → Option va_E → Option Value
  | some (ci, f, _), some (.inr (c, fs)) => bif c == ci then fs[f]? else none
  | _, _ => none
def zwr : Option (Nat × Nat × Nat) → Option va_E → Value → va_E
  | some (_, f, _), some (.inr (c, fs)), v => .inr (c, fs.set f v)
  | _, _, v => .inr (0, [v])
def zkv (ini : Bool) : Nat → Value → Prop
  | 0, .int _ => True
  | 1, .long _ => True
  | 2, .int x => x = 0 ∨ x = 1
  | 3, .ref _ => True
  | 3, .null => True
  | 10, .int _ => ini = true
  | 11, .long _ => ini = true
  | 12, .int x => ini = true ∧ (x = 0 ∨ x = 1)
  | 13, .ref _ => ini = true
  | 13, .null => ini = true
  | _, _ => False
def zkf (ini : Bool) : Option (Nat × Nat × Nat) → Value → Prop
  | some (_, _, kd), v => zkv ini kd v
  | _, _ => False
/-- arrays -/
def zai : Option va_E → ClassId → Int32 → Prop
  | some (.inl (c, n, .inl _)), cA, i => c = cA ∧ vp_in i n
  | _, _, _ => False
def zaf : Option va_E → Nat → Int32
  | some (.inl (_, _, .inl f)), j => f j
  | _, _ => 0
def zaw : Option va_E → Nat → Int32 → va_E
  | some (.inl (c, n, .inl f)), j, x => .inl (c, n, .inl (upd f j x))
  | _, _, x => .inr (0, [.int x])
def zaL : Option va_E → ClassId → Int32 → Prop
  | some (.inl (c, n, .inr (.inl _))), cA, i => c = cA ∧ vp_in i n
  | _, _, _ => False
def zLf : Option va_E → Nat → Int64
  | some (.inl (_, _, .inr (.inl f))), j => f j
  | _, _ => 0
def zLw : Option va_E → Nat → Int64 → va_E
  | some (.inl (c, n, .inr (.inl f))), j, x => .inl (c, n, .inr (.inl (vp_updL f j x)))
  | _, _, x => .inr (0, [.long x])
def zal (dA : Nat → ClassId) : Option va_E → Prop
  | some (.inl (c, _)) => ∃ (t : Nat) (ty : FieldType), (kt dA)[t]? = some (c, ty)
  | _ => False
def zan : Option va_E → Nat
  | some (.inl (_, n, _)) => n
  | _ => 0
def zaq (dA : Nat → ClassId) : Option va_E → Int32 → Prop
  | some (.inl (c, n, .inr (.inr (.inr (.inr _))))), i => (∃ (t : Nat) (C : String), (kt dA)[t]? = some (c, .object C)) ∧ vp_in i n
  | _, _ => False
def zag : Option va_E → Nat → Option Nat
  | some (.inl (_, _, .inr (.inr (.inr (.inr f))))), j => f j
  | _, _ => none
/-- the answer of a method: 1 int, 2 boolean, 3 a reference, 4 long -/
def zri : Nat → Int32 → Prop
  | 1, _ => True
  | 2, x => x = 0 ∨ x = 1
  | _, _ => False
def zt (pc : Nat) (off : Int) : Nat := ((pc : Int) + off).toNat
def zo (pc : Nat) (off : Int) : Prop := 0 ≤ (pc : Int) + off
theorem zt_ok {pc : Nat} {off : Int} (h : zo pc off) : (pc : Int) + off = ((zt pc off : Nat) : Int) := by
  unfold zo at h; unfold zt; omega
def zf4 (k : Fin 4) : Nat := k.val
def zst5 (fl : Nat → Option (Nat × Nat × Nat)) (lc : Nat → Option Int32) (ll : Nat → Option Int64) (dA : Nat → ClassId) (rt : Nat) (ini : Bool) (nL : Nat) (Jk K : zK) (post : Option Value → zVw → Nat → Nat → Prop) (i : Instr) (len : Nat) : zK := fun pc loc st M k n =>
  match i with
  | .return_ => match st with
    | [] => rt = 0 ∧ post none M k n
    | _ => False
  | _ => Jk pc loc st M k n
def zst4 (fl : Nat → Option (Nat × Nat × Nat)) (lc : Nat → Option Int32) (ll : Nat → Option Int64) (dA : Nat → ClassId) (rt : Nat) (ini : Bool) (nL : Nat) (Jk K : zK) (post : Option Value → zVw → Nat → Nat → Prop) (i : Instr) (len : Nat) : zK := fun pc loc st M k n =>
  match i with
  | .iinc x v => zsI (zlg loc x) = true ∧ x < nL ∧ K (pc + len) ((x, .int (zin (zlg loc x) + Int32.ofInt v)) :: zlr loc x) st M k n
  | .getfield x => match st with
    | .ref a :: r => zso (zrd (fl x) (M a)) = true ∧ K (pc + len) loc (zvo (zrd (fl x) (M a)) :: r) M k n
    | _ => False
  | .putfield x => match st with
    | v :: .ref a :: r => zso (zrd (fl x) (M a)) = true ∧ zkf ini (fl x) v ∧ K (pc + len) loc r (zu M a (zwr (fl x) (M a) v)) k n
    | _ => False
  | .iaload => match st with
    | .int i :: .ref a :: r => zai (M a) (dA 0) i ∧ K (pc + len) loc (.int (zaf (M a) i.toNatClampNeg) :: r) M k n
    | _ => False
  | .iastore => match st with
    | .int x :: .int i :: .ref a :: r => zai (M a) (dA 0) i ∧ K (pc + len) loc r (zu M a (zaw (M a) i.toNatClampNeg x)) k n
    | _ => False
  | .laload => match st with
    | .int i :: .ref a :: r => zaL (M a) (dA 3) i ∧ K (pc + len) loc (.long (zLf (M a) i.toNatClampNeg) :: r) M k n
    | _ => False
  | .lastore => match st with
    | .long x :: .int i :: .ref a :: r => zaL (M a) (dA 3) i ∧ K (pc + len) loc r (zu M a (zLw (M a) i.toNatClampNeg x)) k n
    | _ => False
  | .baload => match st with
    | .int i :: .ref a :: r => zai (M a) (dA 4) i ∧ K (pc + len) loc (.int (zaf (M a) i.toNatClampNeg) :: r) M k n
    | _ => False
  | .bastore => match st with
    | .int x :: .int i :: .ref a :: r => zai (M a) (dA 4) i ∧ (x = 0 ∨ x = 1) ∧ K (pc + len) loc r (zu M a (zaw (M a) i.toNatClampNeg x)) k n
    | _ => False
  | .arraylength => match st with
    | .ref a :: r => zal dA (M a) ∧ K (pc + len) loc (.int (Int32.ofNat (zan (M a))) :: r) M k n
    | _ => False
  | .aaload => match st with
    | .int i :: .ref a :: r => zaq dA (M a) i ∧ K (pc + len) loc (va_rf (zag (M a) i.toNatClampNeg) :: r) M k n
    | _ => False
  | .ireturn => match st with
    | [.int v] => zri rt v ∧ post (some (.int v)) M k n
    | _ => False
  | .lreturn => match st with
    | [.long v] => rt = 4 ∧ post (some (.long v)) M k n
    | _ => False
  | .areturn => match st with
    | [.ref v] => rt = 3 ∧ post (some (.ref v)) M k n
    | [.null] => rt = 3 ∧ post (some .null) M k n
    | _ => False
  | _ => zst5 fl lc ll dA rt ini nL Jk K post i len pc loc st M k n
def zst3 (fl : Nat → Option (Nat × Nat × Nat)) (lc : Nat → Option Int32) (ll : Nat → Option Int64) (dA : Nat → ClassId) (rt : Nat) (ini : Bool) (nL : Nat) (Jk K : zK) (post : Option Value → zVw → Nat → Nat → Prop) (i : Instr) (len : Nat) : zK := fun pc loc st M k n =>
  match i with
  | .ifCond .ne off => match st with
    | .int x :: r => zo pc off ∧ (¬ x = 0 → K (zt pc off) loc r M k n) ∧ (x = 0 → K (pc + len) loc r M k n)
    | _ => False
  | .ifCond .lt off => match st with
    | .int x :: r => zo pc off ∧ (x < 0 → K (zt pc off) loc r M k n) ∧ (¬ x < 0 → K (pc + len) loc r M k n)
    | _ => False
  | .ifCond .ge off => match st with
    | .int x :: r => zo pc off ∧ (0 ≤ x → K (zt pc off) loc r M k n) ∧ (¬ 0 ≤ x → K (pc + len) loc r M k n)
    | _ => False
  | .ifCond .gt off => match st with
    | .int x :: r => zo pc off ∧ (0 < x → K (zt pc off) loc r M k n) ∧ (¬ 0 < x → K (pc + len) loc r M k n)
    | _ => False
  | .ifCond .le off => match st with
    | .int x :: r => zo pc off ∧ (x ≤ 0 → K (zt pc off) loc r M k n) ∧ (¬ x ≤ 0 → K (pc + len) loc r M k n)
    | _ => False
  | .if_icmp .eq off => match st with
    | .int y :: .int x :: r => zo pc off ∧ (x = y → K (zt pc off) loc r M k n) ∧ (¬ x = y → K (pc + len) loc r M k n)
    | _ => False
  | .if_icmp .ne off => match st with
    | .int y :: .int x :: r => zo pc off ∧ (¬ x = y → K (zt pc off) loc r M k n) ∧ (x = y → K (pc + len) loc r M k n)
    | _ => False
  | .if_icmp .lt off => match st with
    | .int y :: .int x :: r => zo pc off ∧ (x < y → K (zt pc off) loc r M k n) ∧ (¬ x < y → K (pc + len) loc r M k n)
    | _ => False
  | .if_icmp .ge off => match st with
    | .int y :: .int x :: r => zo pc off ∧ (y ≤ x → K (zt pc off) loc r M k n) ∧ (¬ y ≤ x → K (pc + len) loc r M k n)
    | _ => False
  | .if_icmp .gt off => match st with
    | .int y :: .int x :: r => zo pc off ∧ (y < x → K (zt pc off) loc r M k n) ∧ (¬ y < x → K (pc + len) loc r M k n)
    | _ => False
  | .if_icmp .le off => match st with
    | .int y :: .int x :: r => zo pc off ∧ (x ≤ y → K (zt pc off) loc r M k n) ∧ (¬ x ≤ y → K (pc + len) loc r M k n)
    | _ => False
  | .ifnull off => match st with
    | .ref _ :: r => K (pc + len) loc r M k n
    | .null :: r => zo pc off ∧ K (zt pc off) loc r M k n
    | _ => False
  | .ifnonnull off => match st with
    | .ref _ :: r => zo pc off ∧ K (zt pc off) loc r M k n
    | .null :: r => K (pc + len) loc r M k n
    | _ => False
  | .goto off => zo pc off ∧ K (zt pc off) loc st M k n
  | _ => zst4 fl lc ll dA rt ini nL Jk K post i len pc loc st M k n
def zst2 (fl : Nat → Option (Nat × Nat × Nat)) (lc : Nat → Option Int32) (ll : Nat → Option Int64) (dA : Nat → ClassId) (rt : Nat) (ini : Bool) (nL : Nat) (Jk K : zK) (post : Option Value → zVw → Nat → Nat → Prop) (i : Instr) (len : Nat) : zK := fun pc loc st M k n =>
  match i with
  | .lsub => match st with
    | .long y :: .long x :: r => K (pc + len) loc (.long (x - y) :: r) M k n
    | _ => False
  | .lmul => match st with
    | .long y :: .long x :: r => K (pc + len) loc (.long (x * y) :: r) M k n
    | _ => False
  | .land => match st with
    | .long y :: .long x :: r => K (pc + len) loc (.long (x &&& y) :: r) M k n
    | _ => False
  | .lor => match st with
    | .long y :: .long x :: r => K (pc + len) loc (.long (x ||| y) :: r) M k n
    | _ => False
  | .ldiv => match st with
    | .long y :: .long x :: r => ¬ y = 0 ∧ K (pc + len) loc (.long (x / y) :: r) M k n
    | _ => False
  | .lcmp => match st with
    | .long y :: .long x :: r => K (pc + len) loc (.int (lg_cmp x y) :: r) M k n
    | _ => False
  | .i2l => match st with
    | .int x :: r => K (pc + len) loc (.long x.toInt64 :: r) M k n
    | _ => False
  | .l2i => match st with
    | .long x :: r => K (pc + len) loc (.int x.toInt32 :: r) M k n
    | _ => False
  | .lshl => match st with
    | .int y :: .long x :: r => K (pc + len) loc (.long (x <<< (y.toInt64 &&& 63)) :: r) M k n
    | _ => False
  | .dup => match st with
    | .int x :: r => K (pc + len) loc (.int x :: .int x :: r) M k n
    | .ref x :: r => K (pc + len) loc (.ref x :: .ref x :: r) M k n
    | _ => False
  | .pop => match st with
    | .int _ :: r => K (pc + len) loc r M k n
    | .ref _ :: r => K (pc + len) loc r M k n
    | .null :: r => K (pc + len) loc r M k n
    | _ => False
  | .dup_x1 => match st with
    | .int x :: .ref y :: r => K (pc + len) loc (.int x :: .ref y :: .int x :: r) M k n
    | .ref x :: .ref y :: r => K (pc + len) loc (.ref x :: .ref y :: .ref x :: r) M k n
    | _ => False
  | .dup2 => match st with
    | .int x :: .ref y :: r => K (pc + len) loc (.int x :: .ref y :: .int x :: .ref y :: r) M k n
    | _ => False
  | .ifCond .eq off => match st with
    | .int x :: r => zo pc off ∧ (x = 0 → K (zt pc off) loc r M k n) ∧ (¬ x = 0 → K (pc + len) loc r M k n)
    | _ => False
  | _ => zst3 fl lc ll dA rt ini nL Jk K post i len pc loc st M k n
def zst1 (fl : Nat → Option (Nat × Nat × Nat)) (lc : Nat → Option Int32) (ll : Nat → Option Int64) (dA : Nat → ClassId) (rt : Nat) (ini : Bool) (nL : Nat) (Jk K : zK) (post : Option Value → zVw → Nat → Nat → Prop) (i : Instr) (len : Nat) : zK := fun pc loc st M k n =>
  match i with
  | .astore_n x => match st with
    | .ref v :: r => (zf4 x) < nL ∧ K (pc + len) (((zf4 x), .ref v) :: zlr loc (zf4 x)) r M k n
    | .null :: r => (zf4 x) < nL ∧ K (pc + len) (((zf4 x), .null) :: zlr loc (zf4 x)) r M k n
    | _ => False
  | .istore x => match st with
    | .int v :: r => x < nL ∧ K (pc + len) ((x, .int v) :: zlr loc x) r M k n
    | _ => False
  | .astore x => match st with
    | .ref v :: r => x < nL ∧ K (pc + len) ((x, .ref v) :: zlr loc x) r M k n
    | .null :: r => x < nL ∧ K (pc + len) ((x, .null) :: zlr loc x) r M k n
    | _ => False
  | .lstore_n x => match st with
    | .long v :: r => (zf4 x) + 1 < nL ∧ K (pc + len) (((zf4 x), .long v) :: zl2 loc (zf4 x)) r M k n
    | _ => False
  | .lstore x => match st with
    | .long v :: r => x + 1 < nL ∧ K (pc + len) ((x, .long v) :: zl2 loc x) r M k n
    | _ => False
  | .iadd => match st with
    | .int y :: .int x :: r => K (pc + len) loc (.int (x + y) :: r) M k n
    | _ => False
  | .isub => match st with
    | .int y :: .int x :: r => K (pc + len) loc (.int (x - y) :: r) M k n
    | _ => False
  | .ishr => match st with
    | .int y :: .int x :: r => K (pc + len) loc (.int (x >>> (y &&& 31)) :: r) M k n
    | _ => False
  | .imul => match st with
    | .int y :: .int x :: r => K (pc + len) loc (.int (x * y) :: r) M k n
    | _ => False
  | .iand => match st with
    | .int y :: .int x :: r => K (pc + len) loc (.int (x &&& y) :: r) M k n
    | _ => False
  | .idiv => match st with
    | .int y :: .int x :: r => ¬ y = 0 ∧ K (pc + len) loc (.int (x / y) :: r) M k n
    | _ => False
  | .irem => match st with
    | .int y :: .int x :: r => ¬ y = 0 ∧ K (pc + len) loc (.int (x - x / y * y) :: r) M k n
    | _ => False
  | .ineg => match st with
    | .int x :: r => K (pc + len) loc (.int (-x) :: r) M k n
    | _ => False
  | .ladd => match st with
    | .long y :: .long x :: r => K (pc + len) loc (.long (x + y) :: r) M k n
    | _ => False
  | _ => zst2 fl lc ll dA rt ini nL Jk K post i len pc loc st M k n
def zst0 (fl : Nat → Option (Nat × Nat × Nat)) (lc : Nat → Option Int32) (ll : Nat → Option Int64) (dA : Nat → ClassId) (rt : Nat) (ini : Bool) (nL : Nat) (Jk K : zK) (post : Option Value → zVw → Nat → Nat → Prop) (i : Instr) (len : Nat) : zK := fun pc loc st M k n =>
  match i with
  | .aconst_null => K (pc + len) loc (.null :: st) M k n
  | .iconst v => K (pc + len) loc (.int (Int32.ofInt v) :: st) M k n
  | .bipush v => K (pc + len) loc (.int (Int8.ofInt v).toInt32 :: st) M k n
  | .sipush v => K (pc + len) loc (.int (Int16.ofInt v).toInt32 :: st) M k n
  | .lconst v => K (pc + len) loc (.long (Int64.ofNat (v : Nat)) :: st) M k n
  | .ldc x => (lc x).isSome = true ∧ K (pc + len) loc (.int ((lc x).getD 0) :: st) M k n
  | .ldc2_w x => (ll x).isSome = true ∧ K (pc + len) loc (.long ((ll x).getD 0) :: st) M k n
  | .iload_n x => zsI (zlg loc (zf4 x)) = true ∧ K (pc + len) loc (zvo (zlg loc (zf4 x)) :: st) M k n
  | .iload x => zsI (zlg loc x) = true ∧ K (pc + len) loc (zvo (zlg loc x) :: st) M k n
  | .lload_n x => zsL (zlg loc (zf4 x)) = true ∧ K (pc + len) loc (zvo (zlg loc (zf4 x)) :: st) M k n
  | .lload x => zsL (zlg loc x) = true ∧ K (pc + len) loc (zvo (zlg loc x) :: st) M k n
  | .aload_n x => zsA (zlg loc (zf4 x)) = true ∧ K (pc + len) loc (zvo (zlg loc (zf4 x)) :: st) M k n
  | .aload x => zsA (zlg loc x) = true ∧ K (pc + len) loc (zvo (zlg loc x) :: st) M k n
  | .istore_n x => match st with
    | .int v :: r => (zf4 x) < nL ∧ K (pc + len) (((zf4 x), .int v) :: zlr loc (zf4 x)) r M k n
    | _ => False
  | _ => zst1 fl lc ll dA rt ini nL Jk K post i len pc loc st M k n
def zln (i : Instr) : Nat := match i with
  | .aconst_null => 1
  | .iconst _ => 1
  | .bipush _ => 2
  | .sipush _ => 3
  | .lconst _ => 1
  | .ldc _ => 2
  | .ldc2_w _ => 3
  | .iload_n _ => 1
  | .iload _ => 2
  | .lload_n _ => 1
  | .lload _ => 2
  | .aload_n _ => 1
  | .aload _ => 2
  | .istore_n _ => 1
  | .astore_n _ => 1
  | .istore _ => 2
  | .astore _ => 2
  | .lstore_n _ => 1
  | .lstore _ => 2
  | .iadd => 1
  | .isub => 1
  | .ishr => 1
  | .imul => 1
  | .iand => 1
  | .idiv => 1
  | .irem => 1
  | .ineg => 1
  | .ladd => 1
  | .lsub => 1
  | .lmul => 1
  | .land => 1
  | .lor => 1
  | .ldiv => 1
  | .lcmp => 1
  | .i2l => 1
  | .l2i => 1
  | .lshl => 1
  | .dup => 1
  | .pop => 1
  | .dup_x1 => 1
  | .dup2 => 1
  | .ifCond .eq _ => 3
  | .ifCond .ne _ => 3
  | .ifCond .lt _ => 3
  | .ifCond .ge _ => 3
  | .ifCond .gt _ => 3
  | .ifCond .le _ => 3
  | .if_icmp .eq _ => 3
  | .if_icmp .ne _ => 3
  | .if_icmp .lt _ => 3
  | .if_icmp .ge _ => 3
  | .if_icmp .gt _ => 3
  | .if_icmp .le _ => 3
  | .ifnull _ => 3
  | .ifnonnull _ => 3
  | .goto _ => 3
  | .iinc _ _ => 3
  | .getfield _ => 3
  | .putfield _ => 3
  | .iaload => 1
  | .iastore => 1
  | .laload => 1
  | .lastore => 1
  | .baload => 1
  | .bastore => 1
  | .arraylength => 1
  | .aaload => 1
  | .ireturn => 1
  | .lreturn => 1
  | .areturn => 1
  | .return_ => 1
  | _ => 0
section ZS
variable {p : Program} {l : Launch} {e : Env} {R : Room} {s : State} {m : MethodId} {args : Array Value} {below : List Frame} {meth : Method} {c : Code} {Q : State → Prop} {own : String} {cc : ByteArray} {nL z : Nat} {D : va_G} {dA : Nat → ClassId} {ini : Bool} {fl : Nat → Option (Nat × Nat × Nat)} {lc : Nat → Option Int32} {ll : Nat → Option Int64} {rt : Nat} {K : zK} {post : Option Value → zVw → Nat → Nat → Prop} {pc k n : Nat} {loc : List (Nat × Value)} {M : zVw} {r : List Value}
theorem zJ_iinc {x : Nat} {v : Int} {w : Int32} {st : List Value} (C : zC p s m args meth c own cc nL z D dA ini) (hd : decode cc pc = .ok (.iinc x v, 3)) (hw : zlg loc x = some (.int w)) (hx : x < nL) (h : (zJ p l e R s m args below meth c Q nL z D) (pc + 3) ((x, .int (w + Int32.ofInt v)) :: zlr loc x) st M k n) : (zJ p l e R s m args below meth c Q nL z D) pc loc st M k n := by
  intro H locs ls hv hz hS hl
  have hmem : ∀ {loc : List (Nat × Value)}, zlg loc x = some (.int w) → ∃ j : Nat, loc[j]? = some (x, Value.int w) := by
    intro loc
    induction loc with
    | nil => intro h; simp [zlg] at h
    | cons q loc ih =>
      obtain ⟨j, u⟩ := q
      intro h
      unfold zlg at h
      cases hj : (j == x) with
      | true =>
        rw [hj] at h
        have e1 : j = x := by simpa using hj
        cases h
        subst e1
        exact ⟨0, rfl⟩
      | false =>
        rw [hj] at h
        obtain ⟨j2, h2⟩ := ih h
        exact ⟨j2 + 1, by rw [List.getElem?_cons_succ]; exact h2⟩
  obtain ⟨j, hj⟩ := hmem hw
  exact lv_iinc C.1 C.2.1 hd hl hj rfl hx (congrArg (List.cons _) (zlr_eq _ _)) (fun ls' hl' => h H locs ls' hv hz hS hl')
/-- the fields of a class's pool: what the table says of an index is so by the words -/
def zfl (own : String) (fl : Nat → Option (Nat × Nat × Nat)) : Prop := ∀ (x ci f kd : Nat), fl x = some (ci, f, kd) → ∃ (r : vw_C) (ref : String) (ty0 : Nat → FieldType), kc[ci]? = some r ∧ f < r.2.2 ∧ Cond.fieldLink own x ref (r.2.1 f).2.1 (r.2.1 f).2.2.1 ∈ tb ∧ (ref = (r.2.1 f).1 ∨ Cond.sameField ref (r.2.1 f).1 (r.2.1 f).2.1 (r.2.1 f).2.2.1 ∈ tb) ∧ (∀ w ∈ u_ws r.1 r.2.1 r.2.2, w ∈ tb) ∧ (∀ j, j < r.2.2 → parseFieldDescriptor (r.2.1 j).2.2.1 = some (ty0 j)) ∧ (∀ a, a < r.2.2 → ∀ b, b < r.2.2 → a ≠ b → (r.2.1 a).2.1 ≠ (r.2.1 b).2.1) ∧
  ((kd = 0 ∧ ty0 f = .int ∧ (r.2.1 f).2.2.2 = false) ∨ (kd = 1 ∧ ty0 f = .long ∧ (r.2.1 f).2.2.2 = false) ∨ (kd = 2 ∧ ty0 f = .boolean ∧ (r.2.1 f).2.2.2 = false) ∨ (kd = 3 ∧ ((∃ C, ty0 f = .object C) ∨ ∃ t, ty0 f = .array t) ∧ (r.2.1 f).2.2.2 = false) ∨
   (kd = 10 ∧ ty0 f = .int ∧ (r.2.1 f).2.2.2 = true ∧ (r.2.1 f).1 = own) ∨ (kd = 11 ∧ ty0 f = .long ∧ (r.2.1 f).2.2.2 = true ∧ (r.2.1 f).1 = own) ∨ (kd = 12 ∧ ty0 f = .boolean ∧ (r.2.1 f).2.2.2 = true ∧ (r.2.1 f).1 = own) ∨ (kd = 13 ∧ ((∃ C, ty0 f = .object C) ∨ ∃ t, ty0 f = .array t) ∧ (r.2.1 f).2.2.2 = true ∧ (r.2.1 f).1 = own) ∨ kd = 20)
def zlk (own : String) (fl : Nat → Option (Nat × Nat × Nat)) (lc : Nat → Option Int32) (ll : Nat → Option Int64) : Prop := zfl own fl ∧ (∀ x v, lc x = some v → Cond.constant own x v ∈ tb) ∧ ∀ x v, ll x = some v → Cond.constantLong own x v ∈ tb
theorem zrd_sp {o : Option (Nat × Nat × Nat)} {q : Option va_E} (h : zso (zrd o q) = true) : ∃ (ci f kd : Nat) (fs : List Value) (v : Value), o = some (ci, f, kd) ∧ q = some (.inr (ci, fs)) ∧ fs[f]? = some v := by
  rcases o with _ | ⟨ci, f, kd⟩
  · cases h
  · rcases q with _ | (a | ⟨c, fs⟩)
    · cases h
    · cases h
    · have h : zso (bif c == ci then fs[f]? else none) = true := h
      cases hc : (c == ci) with
      | false => rw [hc] at h; cases h
      | true =>
        rw [hc] at h
        have h : zso fs[f]? = true := h
        have e1 : c = ci := by simpa using hc
        cases hf : fs[f]? with
        | none => rw [hf] at h; cases h
        | some v => exact ⟨ci, f, kd, fs, v, rfl, by rw [e1], hf⟩
theorem zrd_eq {ci f kd : Nat} {fs : List Value} : zrd (some (ci, f, kd)) (some (.inr (ci, fs))) = fs[f]? := by
  show (bif ci == ci then fs[f]? else none) = fs[f]?
  rw [beq_self_eq_true]
  rfl
theorem zJ_get {x a : Nat} (C : zC p s m args meth c own cc nL z D dA ini) (L : zfl own fl) (hd : decode cc pc = .ok (.getfield x, 3)) (h1 : zso (zrd (fl x) (M a)) = true) (h : (zJ p l e R s m args below meth c Q nL z D) (pc + 3) loc (zvo (zrd (fl x) (M a)) :: r) M k n) : (zJ p l e R s m args below meth c Q nL z D) pc loc (.ref a :: r) M k n := by
  intro H locs ls hv hz hS hl
  obtain ⟨ci, f, kd, fs, v, e1, e2, e3⟩ := zrd_sp h1
  rw [e1, e2, zrd_eq, e3] at h
  obtain ⟨q, ref, ty0, g1, g2, g3, g4, g5, -⟩ := L x ci f kd e1
  obtain ⟨ws, hP, hD, hin, -⟩ := zv_ws hv hz
  obtain ⟨j, hj⟩ := hin a _ e2
  refine va_get (D := D) (ci := ci) (v := v) (C := q.1) (T := q.2.1) (N := q.2.2) C.1 C.2.1 C.2.2.2.2.1 g5 C.2.2.2.1 C.2.2.2.2.2.2.1 hP j hj g1 f g2 (C.2.2.2.2.1 _ g3) ?_ e3 hd (h H locs ls hv hz hS hl)
  rcases g4 with g4 | g4
  · intro y hy; rw [g4]; exact hy
  · exact u_same (C.2.2.2.2.1 _ g4)
theorem zJ_put {x a : Nat} {v : Value} (C : zC p s m args meth c own cc nL z D dA ini) (L : zfl own fl) (hd : decode cc pc = .ok (.putfield x, 3)) (h1 : zso (zrd (fl x) (M a)) = true) (h2 : zkf ini (fl x) v) (h : (zJ p l e R s m args below meth c Q nL z D) (pc + 3) loc r (zu M a (zwr (fl x) (M a) v)) k n) : (zJ p l e R s m args below meth c Q nL z D) pc loc (v :: .ref a :: r) M k n := by
  intro H locs ls hv hz hS hl
  obtain ⟨ci, f, kd, fs, v0, e1, e2, e3⟩ := zrd_sp h1
  rw [e1, e2] at h
  rw [e1] at h2
  have h2 : zkv ini kd v := h2
  have h : (zJ p l e R s m args below meth c Q nL z D) (pc + 3) loc r (zu M a (.inr (ci, fs.set f v))) k n := h
  obtain ⟨q, ref, ty0, g1, g2, g3, g4, g5, g6, g7, g8⟩ := L x ci f kd e1
  obtain ⟨ws, hP, hD, hin, hset, -⟩ := zv_ws hv hz
  obtain ⟨j, hj⟩ := hin a _ e2
  have hfl : f < fs.length := (List.getElem?_eq_some_iff.mp e3).1
  have hsame : ∀ x, s.fieldFound? (q.2.1 f).1 (q.2.1 f).2.1 (q.2.1 f).2.2.1 = some x → s.fieldFound? ref (q.2.1 f).2.1 (q.2.1 f).2.2.1 = some x := by
    rcases g4 with g4 | g4
    · intro y hy; rw [g4]; exact hy
    · exact u_same (C.2.2.2.2.1 _ g4)
  have go : ∀ {ty : FieldType}, ty0 f = ty → (q.2.1 f).2.2.2 = false → narrow ty v = v → fits ty v = true → W p l e R s m args below meth c H locs k n Q (F0 m pc ls (v :: .ref a :: r)) := by
    intro ty hty hfin hn hf
    exact va_put (D := D) (ci := ci) (v := v) (ty := ty) (C := q.1) (T := q.2.1) (N := q.2.2) C.1 C.2.1 C.2.2.2.2.1 g5 ty0 g6 g7 C.2.2.2.1 C.2.2.2.2.2.2.1 hP hD hS j hj g1 f g2 (C.2.2.2.2.1 _ g3) hsame hfin (by rw [g6 f g2, hty]) hn hf hfl hd (fun H1 locs1 hP1 hD1 hS1 => h H1 locs1 ls (hset j a _ _ H1 hj hP1) (zhd_u hz (hz a _ e2)) hS1 hl)
  have goF : ∀ {ty : FieldType}, ty0 f = ty → (q.2.1 f).2.2.2 = true → (q.2.1 f).1 = own → ini = true → narrow ty v = v → fits ty v = true → W p l e R s m args below meth c H locs k n Q (F0 m pc ls (v :: .ref a :: r)) := by
    intro ty hty hfin hown2 hi hn hf
    exact va_putF (D := D) (ci := ci) (v := v) (ty := ty) (C := q.1) (T := q.2.1) (N := q.2.2) C.1 C.2.1 C.2.2.2.2.1 g5 ty0 g6 g7 C.2.2.2.1 C.2.2.2.2.2.2.1 hP hD hS j hj g1 f g2 (C.2.2.2.2.1 _ g3) hsame hfin (C.2.2.2.2.2.2.2.2.1 hi) hown2 (by rw [g6 f g2, hty]) hn hf hfl hd (fun H1 locs1 hP1 hD1 hS1 => h H1 locs1 ls (hset j a _ _ H1 hj hP1) (zhd_u hz (hz a _ e2)) hS1 hl)
  have bz : ∀ x : Int32, (x = 0 ∨ x = 1) → narrow .boolean (.int x) = .int x ∧ fits .boolean (.int x) = true := by
    rintro x (rfl | rfl)
    · exact ⟨by decide +kernel, by decide +kernel⟩
    · exact ⟨by decide +kernel, by decide +kernel⟩
  rcases g8 with ⟨rfl, t1, t2⟩ | ⟨rfl, t1, t2⟩ | ⟨rfl, t1, t2⟩ | ⟨rfl, t1, t2⟩ | ⟨rfl, t1, t2, t3⟩ | ⟨rfl, t1, t2, t3⟩ | ⟨rfl, t1, t2, t3⟩ | ⟨rfl, t1, t2, t3⟩ | rfl
  · cases v <;> first | exact go t1 t2 rfl rfl | exact h2.elim
  · cases v <;> first | exact go t1 t2 rfl rfl | exact h2.elim
  · cases v <;> first | exact go t1 t2 (bz _ h2).1 (bz _ h2).2 | exact h2.elim
  · rcases t1 with ⟨_, t1⟩ | ⟨_, t1⟩ <;> cases v <;> first | exact go t1 t2 rfl rfl | exact h2.elim
  · cases v <;> first | exact goF t1 t2 t3 h2 rfl rfl | exact h2.elim
  · cases v <;> first | exact goF t1 t2 t3 h2 rfl rfl | exact h2.elim
  · cases v <;> first | exact goF t1 t2 t3 h2.1 (bz _ h2.2).1 (bz _ h2.2).2 | exact h2.elim
  · rcases t1 with ⟨_, t1⟩ | ⟨_, t1⟩ <;> cases v <;> first | exact goF t1 t2 t3 h2 rfl rfl | exact h2.elim
  · cases v <;> exact h2.elim
theorem zai_sp {o : Option va_E} {cA : ClassId} {i : Int32} (h : zai o cA i) : ∃ nn f, o = some (.inl (cA, nn, .inl f)) ∧ vp_in i nn := by
  rcases o with _ | (⟨c, nn, f | f⟩ | q)
  · exact h.elim
  · obtain ⟨rfl, h2⟩ := h
    exact ⟨nn, f, rfl, h2⟩
  · exact h.elim
  · exact h.elim
theorem zJ_iald {a : Nat} {i : Int32} (C : zC p s m args meth c own cc nL z D dA ini) (hd : decode cc pc = .ok (.iaload, 1)) (h1 : zai (M a) (dA 0) i) (h : (zJ p l e R s m args below meth c Q nL z D) (pc + 1) loc (.int (zaf (M a) i.toNatClampNeg) :: r) M k n) : (zJ p l e R s m args below meth c Q nL z D) pc loc (.int i :: .ref a :: r) M k n := by
  intro H locs ls hv hz hS hl
  obtain ⟨nn, f, e2, hi⟩ := zai_sp h1
  rw [e2] at h
  obtain ⟨ws, hP, hD, hin, -⟩ := zv_ws hv hz
  obtain ⟨j, hj⟩ := hin a _ e2
  exact va_iald C.1 C.2.1 C.2.2.2.2.2.2.1 hP j 0 hj rfl hi hd (h H locs ls hv hz hS hl)
theorem zJ_iast {a : Nat} {i x : Int32} (C : zC p s m args meth c own cc nL z D dA ini) (hd : decode cc pc = .ok (.iastore, 1)) (h1 : zai (M a) (dA 0) i) (h : (zJ p l e R s m args below meth c Q nL z D) (pc + 1) loc r (zu M a (zaw (M a) i.toNatClampNeg x)) k n) : (zJ p l e R s m args below meth c Q nL z D) pc loc (.int x :: .int i :: .ref a :: r) M k n := by
  intro H locs ls hv hz hS hl
  obtain ⟨nn, f, e2, hi⟩ := zai_sp h1
  rw [e2] at h
  obtain ⟨ws, hP, hD, hin, hset, -⟩ := zv_ws hv hz
  obtain ⟨j, hj⟩ := hin a _ e2
  exact va_iast C.1 C.2.1 C.2.2.2.2.2.2.1 hP hD hS j 0 hj rfl hi hd (fun H1 locs1 hP1 hD1 hS1 => h H1 locs1 ls (hset j a _ _ H1 hj hP1) (zhd_u hz (hz a _ e2)) hS1 hl)
theorem zJ_zald {a : Nat} {i : Int32} (C : zC p s m args meth c own cc nL z D dA ini) (hd : decode cc pc = .ok (.baload, 1)) (h1 : zai (M a) (dA 4) i) (h : (zJ p l e R s m args below meth c Q nL z D) (pc + 1) loc (.int (zaf (M a) i.toNatClampNeg) :: r) M k n) : (zJ p l e R s m args below meth c Q nL z D) pc loc (.int i :: .ref a :: r) M k n := by
  intro H locs ls hv hz hS hl
  obtain ⟨nn, f, e2, hi⟩ := zai_sp h1
  rw [e2] at h
  obtain ⟨ws, hP, hD, hin, -⟩ := zv_ws hv hz
  obtain ⟨j, hj⟩ := hin a _ e2
  exact va_zald C.1 C.2.1 C.2.2.2.2.2.2.1 hP j 4 hj rfl hi hd (h H locs ls hv hz hS hl)
theorem z_narb {x : Int32} (h : x = 0 ∨ x = 1) : vp_nar .boolean x = x := by
  rcases h with rfl | rfl
  · decide +kernel
  · decide +kernel
theorem zJ_zast {a : Nat} {i x : Int32} (C : zC p s m args meth c own cc nL z D dA ini) (hd : decode cc pc = .ok (.bastore, 1)) (h1 : zai (M a) (dA 4) i) (hx : x = 0 ∨ x = 1) (h : (zJ p l e R s m args below meth c Q nL z D) (pc + 1) loc r (zu M a (zaw (M a) i.toNatClampNeg x)) k n) : (zJ p l e R s m args below meth c Q nL z D) pc loc (.int x :: .int i :: .ref a :: r) M k n := by
  intro H locs ls hv hz hS hl
  obtain ⟨nn, f, e2, hi⟩ := zai_sp h1
  rw [e2] at h
  obtain ⟨ws, hP, hD, hin, hset, -⟩ := zv_ws hv hz
  obtain ⟨j, hj⟩ := hin a _ e2
  exact va_zast C.1 C.2.1 C.2.2.2.2.2.2.1 hP hD hS j 4 hj rfl hi hd (fun H1 locs1 hP1 hD1 hS1 => h H1 locs1 ls (hset j a _ _ H1 hj (by rw [z_narb hx] at hP1; exact hP1)) (zhd_u hz (hz a _ e2)) hS1 hl)
theorem zaL_sp {o : Option va_E} {cA : ClassId} {i : Int32} (h : zaL o cA i) : ∃ nn f, o = some (.inl (cA, nn, .inr (.inl f))) ∧ vp_in i nn := by
  rcases o with _ | (⟨c, nn, f | f | f⟩ | q)
  · exact h.elim
  · exact h.elim
  · obtain ⟨rfl, h2⟩ := h
    exact ⟨nn, f, rfl, h2⟩
  · exact h.elim
  · exact h.elim
theorem zJ_lald {a : Nat} {i : Int32} (C : zC p s m args meth c own cc nL z D dA ini) (hd : decode cc pc = .ok (.laload, 1)) (h1 : zaL (M a) (dA 3) i) (h : (zJ p l e R s m args below meth c Q nL z D) (pc + 1) loc (.long (zLf (M a) i.toNatClampNeg) :: r) M k n) : (zJ p l e R s m args below meth c Q nL z D) pc loc (.int i :: .ref a :: r) M k n := by
  intro H locs ls hv hz hS hl
  obtain ⟨nn, f, e2, hi⟩ := zaL_sp h1
  rw [e2] at h
  obtain ⟨ws, hP, hD, hin, -⟩ := zv_ws hv hz
  obtain ⟨j, hj⟩ := hin a _ e2
  exact va_lald C.1 C.2.1 C.2.2.2.2.2.2.1 hP j 3 hj rfl hi hd (h H locs ls hv hz hS hl)
theorem zJ_last {a : Nat} {i : Int32} {x : Int64} (C : zC p s m args meth c own cc nL z D dA ini) (hd : decode cc pc = .ok (.lastore, 1)) (h1 : zaL (M a) (dA 3) i) (h : (zJ p l e R s m args below meth c Q nL z D) (pc + 1) loc r (zu M a (zLw (M a) i.toNatClampNeg x)) k n) : (zJ p l e R s m args below meth c Q nL z D) pc loc (.long x :: .int i :: .ref a :: r) M k n := by
  intro H locs ls hv hz hS hl
  obtain ⟨nn, f, e2, hi⟩ := zaL_sp h1
  rw [e2] at h
  obtain ⟨ws, hP, hD, hin, hset, -⟩ := zv_ws hv hz
  obtain ⟨j, hj⟩ := hin a _ e2
  exact va_last C.1 C.2.1 C.2.2.2.2.2.2.1 hP hD hS j 3 hj rfl hi hd (fun H1 locs1 hP1 hD1 hS1 => h H1 locs1 ls (hset j a _ _ H1 hj hP1) (zhd_u hz (hz a _ e2)) hS1 hl)
theorem zJ_alen {a : Nat} (C : zC p s m args meth c own cc nL z D dA ini) (hd : decode cc pc = .ok (.arraylength, 1)) (h1 : zal dA (M a)) (h : (zJ p l e R s m args below meth c Q nL z D) (pc + 1) loc (.int (Int32.ofNat (zan (M a))) :: r) M k n) : (zJ p l e R s m args below meth c Q nL z D) pc loc (.ref a :: r) M k n := by
  intro H locs ls hv hz hS hl
  cases e2 : M a with
  | none => rw [e2] at h1; exact h1.elim
  | some q =>
    rcases q with ⟨cA, nn, f⟩ | q
    · rw [e2] at h1 h
      obtain ⟨t, ty, ht⟩ := h1
      obtain ⟨ws, hP, hD, hin, -⟩ := zv_ws hv hz
      obtain ⟨j, hj⟩ := hin a _ e2
      exact va_alen C.1 C.2.1 C.2.2.2.2.2.2.1 hP j t hj ht rfl hd (h H locs ls hv hz hS hl)
    · rw [e2] at h1; exact h1.elim
theorem zaq_sp {o : Option va_E} {i : Int32} (h : zaq dA o i) : ∃ (cA : ClassId) (nn : Nat) (f : Nat → Option Nat) (t : Nat) (C : String), o = some (.inl (cA, nn, .inr (.inr (.inr (.inr f))))) ∧ (kt dA)[t]? = some (cA, .object C) ∧ vp_in i nn := by
  rcases o with _ | (⟨c, nn, f | f | f | f | f⟩ | q)
  · exact h.elim
  · exact h.elim
  · exact h.elim
  · exact h.elim
  · exact h.elim
  · obtain ⟨⟨t, C, h1⟩, h2⟩ := h
    exact ⟨c, nn, f, t, C, rfl, h1, h2⟩
  · exact h.elim
theorem zJ_aald {a : Nat} {i : Int32} (C : zC p s m args meth c own cc nL z D dA ini) (hd : decode cc pc = .ok (.aaload, 1)) (h1 : zaq dA (M a) i) (h : (zJ p l e R s m args below meth c Q nL z D) (pc + 1) loc (va_rf (zag (M a) i.toNatClampNeg) :: r) M k n) : (zJ p l e R s m args below meth c Q nL z D) pc loc (.int i :: .ref a :: r) M k n := by
  intro H locs ls hv hz hS hl
  obtain ⟨cA, nn, f, t, C0, e2, ht, hi⟩ := zaq_sp h1
  rw [e2] at h
  obtain ⟨ws, hP, hD, hin, -⟩ := zv_ws hv hz
  obtain ⟨j, hj⟩ := hin a _ e2
  exact va_aldq C.1 C.2.1 C.2.2.2.2.2.2.1 hP j t hj ht hi hd (h H locs ls hv hz hS hl)
/-- the returns: what a contract's end gives -/
def zRet (rt : Nat) (JK : zK) (cc : ByteArray) (post : Option Value → zVw → Nat → Nat → Prop) : Prop :=
  (∀ (v : Int32) {pc k n : Nat} {loc : List (Nat × Value)} {M : zVw}, zri rt v → post (some (.int v)) M k n → decode cc pc = .ok (.ireturn, 1) → JK pc loc [.int v] M k n) ∧
  (∀ (o : Option Nat) {pc k n : Nat} {loc : List (Nat × Value)} {M : zVw}, rt = 3 → post (some (va_rf o)) M k n → decode cc pc = .ok (.areturn, 1) → JK pc loc [va_rf o] M k n) ∧
  (∀ {pc k n : Nat} {loc : List (Nat × Value)} {M : zVw}, rt = 0 → post none M k n → decode cc pc = .ok (.return_, 1) → JK pc loc [] M k n) ∧
  (∀ (v : Int64) {pc k n : Nat} {loc : List (Nat × Value)} {M : zVw}, rt = 4 → post (some (.long v)) M k n → decode cc pc = .ok (.lreturn, 1) → JK pc loc [.long v] M k n)
theorem zst5_ok (C : zC p s m args meth c own cc nL z D dA ini) (L : zlk own fl lc ll) (hK : ∀ pc loc st M k n, K pc loc st M k n → (zJ p l e R s m args below meth c Q nL z D) pc loc st M k n) (hR : zRet rt (zJ p l e R s m args below meth c Q nL z D) cc post) {i : Instr} {len : Nat} {st : List Value} (hd : decode cc pc = .ok (i, len)) (hln : len = zln i) (h : zst5 fl lc ll dA rt ini nL (zJ p l e R s m args below meth c Q nL z D) K post i len pc loc st M k n) : (zJ p l e R s m args below meth c Q nL z D) pc loc st M k n := by
  unfold zst5 at h
  split at h
  · have hln : len = 1 := hln
    subst hln
    split at h
    · intro H locs ls hv hz hS hl
      exact hR.2.2.1 h.1 h.2 hd H locs ls hv hz hS hl
    · exact h.elim
  · exact h
theorem zst4_ok (C : zC p s m args meth c own cc nL z D dA ini) (L : zlk own fl lc ll) (hK : ∀ pc loc st M k n, K pc loc st M k n → (zJ p l e R s m args below meth c Q nL z D) pc loc st M k n) (hR : zRet rt (zJ p l e R s m args below meth c Q nL z D) cc post) {i : Instr} {len : Nat} {st : List Value} (hd : decode cc pc = .ok (i, len)) (hln : len = zln i) (h : zst4 fl lc ll dA rt ini nL (zJ p l e R s m args below meth c Q nL z D) K post i len pc loc st M k n) : (zJ p l e R s m args below meth c Q nL z D) pc loc st M k n := by
  unfold zst4 at h
  split at h
  · have hln : len = 3 := hln
    subst hln
    · intro H locs ls hv hz hS hl
      obtain ⟨h1, h2, h⟩ := h
      obtain ⟨w, hw⟩ := zsI_sp h1
      rw [hw] at h
      exact zJ_iinc C hd hw h2 (hK _ _ _ _ _ _ h) H locs ls hv hz hS hl
  · have hln : len = 3 := hln
    subst hln
    split at h
    · intro H locs ls hv hz hS hl
      exact zJ_get C L.1 hd h.1 (hK _ _ _ _ _ _ h.2) H locs ls hv hz hS hl
    · exact h.elim
  · have hln : len = 3 := hln
    subst hln
    split at h
    · intro H locs ls hv hz hS hl
      exact zJ_put C L.1 hd h.1 h.2.1 (hK _ _ _ _ _ _ h.2.2) H locs ls hv hz hS hl
    · exact h.elim
  · have hln : len = 1 := hln
    subst hln
    split at h
    · intro H locs ls hv hz hS hl
      exact zJ_iald C hd h.1 (hK _ _ _ _ _ _ h.2) H locs ls hv hz hS hl
    · exact h.elim
  · have hln : len = 1 := hln
    subst hln
    split at h
    · intro H locs ls hv hz hS hl
      exact zJ_iast C hd h.1 (hK _ _ _ _ _ _ h.2) H locs ls hv hz hS hl
    · exact h.elim
  · have hln : len = 1 := hln
    subst hln
    split at h
    · intro H locs ls hv hz hS hl
      exact zJ_lald C hd h.1 (hK _ _ _ _ _ _ h.2) H locs ls hv hz hS hl
    · exact h.elim
  · have hln : len = 1 := hln
    subst hln
    split at h
    · intro H locs ls hv hz hS hl
      exact zJ_last C hd h.1 (hK _ _ _ _ _ _ h.2) H locs ls hv hz hS hl
    · exact h.elim
  · have hln : len = 1 := hln
    subst hln
    split at h
    · intro H locs ls hv hz hS hl
      exact zJ_zald C hd h.1 (hK _ _ _ _ _ _ h.2) H locs ls hv hz hS hl
    · exact h.elim
  · have hln : len = 1 := hln
    subst hln
    split at h
    · intro H locs ls hv hz hS hl
      exact zJ_zast C hd h.1 h.2.1 (hK _ _ _ _ _ _ h.2.2) H locs ls hv hz hS hl
    · exact h.elim
  · have hln : len = 1 := hln
    subst hln
    split at h
    · intro H locs ls hv hz hS hl
      exact zJ_alen C hd h.1 (hK _ _ _ _ _ _ h.2) H locs ls hv hz hS hl
    · exact h.elim
  · have hln : len = 1 := hln
    subst hln
    split at h
    · intro H locs ls hv hz hS hl
      exact zJ_aald C hd h.1 (hK _ _ _ _ _ _ h.2) H locs ls hv hz hS hl
    · exact h.elim
  · have hln : len = 1 := hln
    subst hln
    split at h
    · intro H locs ls hv hz hS hl
      exact hR.1 _ h.1 h.2 hd H locs ls hv hz hS hl
    · exact h.elim
  · have hln : len = 1 := hln
    subst hln
    split at h
    · intro H locs ls hv hz hS hl
      exact hR.2.2.2 _ h.1 h.2 hd H locs ls hv hz hS hl
    · exact h.elim
  · have hln : len = 1 := hln
    subst hln
    split at h
    · intro H locs ls hv hz hS hl
      exact hR.2.1 (some _) h.1 h.2 hd H locs ls hv hz hS hl
    · intro H locs ls hv hz hS hl
      exact hR.2.1 none h.1 h.2 hd H locs ls hv hz hS hl
    · exact h.elim
  · exact zst5_ok C L hK hR hd hln h
theorem zst3_ok (C : zC p s m args meth c own cc nL z D dA ini) (L : zlk own fl lc ll) (hK : ∀ pc loc st M k n, K pc loc st M k n → (zJ p l e R s m args below meth c Q nL z D) pc loc st M k n) (hR : zRet rt (zJ p l e R s m args below meth c Q nL z D) cc post) {i : Instr} {len : Nat} {st : List Value} (hd : decode cc pc = .ok (i, len)) (hln : len = zln i) (h : zst3 fl lc ll dA rt ini nL (zJ p l e R s m args below meth c Q nL z D) K post i len pc loc st M k n) : (zJ p l e R s m args below meth c Q nL z D) pc loc st M k n := by
  unfold zst3 at h
  split at h
  · have hln : len = 3 := hln
    subst hln
    split at h
    · intro H locs ls hv hz hS hl
      exact lv_if_ne C.1 C.2.1 hd (zt_ok h.1) (fun hc => hK _ _ _ _ _ _ (h.2.1 hc) H locs ls hv hz hS hl) (fun hc => hK _ _ _ _ _ _ (h.2.2 hc) H locs ls hv hz hS hl)
    · exact h.elim
  · have hln : len = 3 := hln
    subst hln
    split at h
    · intro H locs ls hv hz hS hl
      exact lv_if_lt C.1 C.2.1 hd (zt_ok h.1) (fun hc => hK _ _ _ _ _ _ (h.2.1 hc) H locs ls hv hz hS hl) (fun hc => hK _ _ _ _ _ _ (h.2.2 hc) H locs ls hv hz hS hl)
    · exact h.elim
  · have hln : len = 3 := hln
    subst hln
    split at h
    · intro H locs ls hv hz hS hl
      exact lv_if_ge C.1 C.2.1 hd (zt_ok h.1) (fun hc => hK _ _ _ _ _ _ (h.2.1 hc) H locs ls hv hz hS hl) (fun hc => hK _ _ _ _ _ _ (h.2.2 hc) H locs ls hv hz hS hl)
    · exact h.elim
  · have hln : len = 3 := hln
    subst hln
    split at h
    · intro H locs ls hv hz hS hl
      exact lv_if_gt C.1 C.2.1 hd (zt_ok h.1) (fun hc => hK _ _ _ _ _ _ (h.2.1 hc) H locs ls hv hz hS hl) (fun hc => hK _ _ _ _ _ _ (h.2.2 hc) H locs ls hv hz hS hl)
    · exact h.elim
  · have hln : len = 3 := hln
    subst hln
    split at h
    · intro H locs ls hv hz hS hl
      exact lv_if_le C.1 C.2.1 hd (zt_ok h.1) (fun hc => hK _ _ _ _ _ _ (h.2.1 hc) H locs ls hv hz hS hl) (fun hc => hK _ _ _ _ _ _ (h.2.2 hc) H locs ls hv hz hS hl)
    · exact h.elim
  · have hln : len = 3 := hln
    subst hln
    split at h
    · intro H locs ls hv hz hS hl
      exact lv_icmp_eq C.1 C.2.1 hd (zt_ok h.1) (fun hc => hK _ _ _ _ _ _ (h.2.1 hc) H locs ls hv hz hS hl) (fun hc => hK _ _ _ _ _ _ (h.2.2 hc) H locs ls hv hz hS hl)
    · exact h.elim
  · have hln : len = 3 := hln
    subst hln
    split at h
    · intro H locs ls hv hz hS hl
      exact lv_icmp_ne C.1 C.2.1 hd (zt_ok h.1) (fun hc => hK _ _ _ _ _ _ (h.2.1 hc) H locs ls hv hz hS hl) (fun hc => hK _ _ _ _ _ _ (h.2.2 hc) H locs ls hv hz hS hl)
    · exact h.elim
  · have hln : len = 3 := hln
    subst hln
    split at h
    · intro H locs ls hv hz hS hl
      exact lv_icmp_lt C.1 C.2.1 hd (zt_ok h.1) (fun hc => hK _ _ _ _ _ _ (h.2.1 hc) H locs ls hv hz hS hl) (fun hc => hK _ _ _ _ _ _ (h.2.2 hc) H locs ls hv hz hS hl)
    · exact h.elim
  · have hln : len = 3 := hln
    subst hln
    split at h
    · intro H locs ls hv hz hS hl
      exact lv_icmp_ge C.1 C.2.1 hd (zt_ok h.1) (fun hc => hK _ _ _ _ _ _ (h.2.1 hc) H locs ls hv hz hS hl) (fun hc => hK _ _ _ _ _ _ (h.2.2 hc) H locs ls hv hz hS hl)
    · exact h.elim
  · have hln : len = 3 := hln
    subst hln
    split at h
    · intro H locs ls hv hz hS hl
      exact lv_icmp_gt C.1 C.2.1 hd (zt_ok h.1) (fun hc => hK _ _ _ _ _ _ (h.2.1 hc) H locs ls hv hz hS hl) (fun hc => hK _ _ _ _ _ _ (h.2.2 hc) H locs ls hv hz hS hl)
    · exact h.elim
  · have hln : len = 3 := hln
    subst hln
    split at h
    · intro H locs ls hv hz hS hl
      exact lv_icmp_le C.1 C.2.1 hd (zt_ok h.1) (fun hc => hK _ _ _ _ _ _ (h.2.1 hc) H locs ls hv hz hS hl) (fun hc => hK _ _ _ _ _ _ (h.2.2 hc) H locs ls hv hz hS hl)
    · exact h.elim
  · have hln : len = 3 := hln
    subst hln
    split at h
    · intro H locs ls hv hz hS hl
      exact lv_ifnull C.1 C.2.1 hd (hK _ _ _ _ _ _ h H locs ls hv hz hS hl)
    · intro H locs ls hv hz hS hl
      exact lv_ifnullN C.1 C.2.1 hd (zt_ok h.1) (hK _ _ _ _ _ _ h.2 H locs ls hv hz hS hl)
    · exact h.elim
  · have hln : len = 3 := hln
    subst hln
    split at h
    · intro H locs ls hv hz hS hl
      exact lv_ifnonnull C.1 C.2.1 hd (zt_ok h.1) (hK _ _ _ _ _ _ h.2 H locs ls hv hz hS hl)
    · intro H locs ls hv hz hS hl
      exact lv_ifnonnullN C.1 C.2.1 hd (hK _ _ _ _ _ _ h H locs ls hv hz hS hl)
    · exact h.elim
  · have hln : len = 3 := hln
    subst hln
    · intro H locs ls hv hz hS hl
      exact lv_goto C.1 C.2.1 hd (zt_ok h.1) (hK _ _ _ _ _ _ h.2 H locs ls hv hz hS hl)
  · exact zst4_ok C L hK hR hd hln h
theorem zst2_ok (C : zC p s m args meth c own cc nL z D dA ini) (L : zlk own fl lc ll) (hK : ∀ pc loc st M k n, K pc loc st M k n → (zJ p l e R s m args below meth c Q nL z D) pc loc st M k n) (hR : zRet rt (zJ p l e R s m args below meth c Q nL z D) cc post) {i : Instr} {len : Nat} {st : List Value} (hd : decode cc pc = .ok (i, len)) (hln : len = zln i) (h : zst2 fl lc ll dA rt ini nL (zJ p l e R s m args below meth c Q nL z D) K post i len pc loc st M k n) : (zJ p l e R s m args below meth c Q nL z D) pc loc st M k n := by
  unfold zst2 at h
  split at h
  · have hln : len = 1 := hln
    subst hln
    split at h
    · intro H locs ls hv hz hS hl
      exact lv_lsub C.1 C.2.1 hd (hK _ _ _ _ _ _ h H locs ls hv hz hS hl)
    · exact h.elim
  · have hln : len = 1 := hln
    subst hln
    split at h
    · intro H locs ls hv hz hS hl
      exact lv_lmul C.1 C.2.1 hd (hK _ _ _ _ _ _ h H locs ls hv hz hS hl)
    · exact h.elim
  · have hln : len = 1 := hln
    subst hln
    split at h
    · intro H locs ls hv hz hS hl
      exact lv_land C.1 C.2.1 hd (hK _ _ _ _ _ _ h H locs ls hv hz hS hl)
    · exact h.elim
  · have hln : len = 1 := hln
    subst hln
    split at h
    · intro H locs ls hv hz hS hl
      exact lv_lor C.1 C.2.1 hd (hK _ _ _ _ _ _ h H locs ls hv hz hS hl)
    · exact h.elim
  · have hln : len = 1 := hln
    subst hln
    split at h
    · intro H locs ls hv hz hS hl
      exact lv_ldiv C.1 C.2.1 hd h.1 (hK _ _ _ _ _ _ h.2 H locs ls hv hz hS hl)
    · exact h.elim
  · have hln : len = 1 := hln
    subst hln
    split at h
    · intro H locs ls hv hz hS hl
      exact W.lcmp C.1 C.2.1 hd (hK _ _ _ _ _ _ h H locs ls hv hz hS hl)
    · exact h.elim
  · have hln : len = 1 := hln
    subst hln
    split at h
    · intro H locs ls hv hz hS hl
      exact lv_i2l C.1 C.2.1 hd rfl (hK _ _ _ _ _ _ h H locs ls hv hz hS hl)
    · exact h.elim
  · have hln : len = 1 := hln
    subst hln
    split at h
    · intro H locs ls hv hz hS hl
      exact lv_l2i C.1 C.2.1 hd rfl (hK _ _ _ _ _ _ h H locs ls hv hz hS hl)
    · exact h.elim
  · have hln : len = 1 := hln
    subst hln
    split at h
    · intro H locs ls hv hz hS hl
      exact lv_lshl C.1 C.2.1 hd rfl (hK _ _ _ _ _ _ h H locs ls hv hz hS hl)
    · exact h.elim
  · have hln : len = 1 := hln
    subst hln
    split at h
    · intro H locs ls hv hz hS hl
      exact lv_dup C.1 C.2.1 hd rfl (hK _ _ _ _ _ _ h H locs ls hv hz hS hl)
    · intro H locs ls hv hz hS hl
      exact lv_dup C.1 C.2.1 hd rfl (hK _ _ _ _ _ _ h H locs ls hv hz hS hl)
    · exact h.elim
  · have hln : len = 1 := hln
    subst hln
    split at h
    · intro H locs ls hv hz hS hl
      exact lv_pop C.1 C.2.1 hd rfl (hK _ _ _ _ _ _ h H locs ls hv hz hS hl)
    · intro H locs ls hv hz hS hl
      exact lv_pop C.1 C.2.1 hd rfl (hK _ _ _ _ _ _ h H locs ls hv hz hS hl)
    · intro H locs ls hv hz hS hl
      exact lv_pop C.1 C.2.1 hd rfl (hK _ _ _ _ _ _ h H locs ls hv hz hS hl)
    · exact h.elim
  · have hln : len = 1 := hln
    subst hln
    split at h
    · intro H locs ls hv hz hS hl
      exact lv_dup_x1 C.1 C.2.1 hd rfl rfl (hK _ _ _ _ _ _ h H locs ls hv hz hS hl)
    · intro H locs ls hv hz hS hl
      exact lv_dup_x1 C.1 C.2.1 hd rfl rfl (hK _ _ _ _ _ _ h H locs ls hv hz hS hl)
    · exact h.elim
  · have hln : len = 1 := hln
    subst hln
    split at h
    · intro H locs ls hv hz hS hl
      exact lv_dup2_11 C.1 C.2.1 hd rfl rfl (hK _ _ _ _ _ _ h H locs ls hv hz hS hl)
    · exact h.elim
  · have hln : len = 3 := hln
    subst hln
    split at h
    · intro H locs ls hv hz hS hl
      exact lv_if_eq C.1 C.2.1 hd (zt_ok h.1) (fun hc => hK _ _ _ _ _ _ (h.2.1 hc) H locs ls hv hz hS hl) (fun hc => hK _ _ _ _ _ _ (h.2.2 hc) H locs ls hv hz hS hl)
    · exact h.elim
  · exact zst3_ok C L hK hR hd hln h
theorem zst1_ok (C : zC p s m args meth c own cc nL z D dA ini) (L : zlk own fl lc ll) (hK : ∀ pc loc st M k n, K pc loc st M k n → (zJ p l e R s m args below meth c Q nL z D) pc loc st M k n) (hR : zRet rt (zJ p l e R s m args below meth c Q nL z D) cc post) {i : Instr} {len : Nat} {st : List Value} (hd : decode cc pc = .ok (i, len)) (hln : len = zln i) (h : zst1 fl lc ll dA rt ini nL (zJ p l e R s m args below meth c Q nL z D) K post i len pc loc st M k n) : (zJ p l e R s m args below meth c Q nL z D) pc loc st M k n := by
  unfold zst1 at h
  split at h
  · have hln : len = 1 := hln
    subst hln
    split at h
    · intro H locs ls hv hz hS hl
      exact lv_astore_n C.1 C.2.1 hd rfl hl h.1 (congrArg (List.cons _) (zlr_eq _ _)) (fun ls' hl' => hK _ _ _ _ _ _ h.2 H locs ls' hv hz hS hl')
    · intro H locs ls hv hz hS hl
      exact lv_astore_nN C.1 C.2.1 hd rfl hl h.1 (congrArg (List.cons _) (zlr_eq _ _)) (fun ls' hl' => hK _ _ _ _ _ _ h.2 H locs ls' hv hz hS hl')
    · exact h.elim
  · have hln : len = 2 := hln
    subst hln
    split at h
    · intro H locs ls hv hz hS hl
      exact lv_istore C.1 C.2.1 hd hl h.1 (congrArg (List.cons _) (zlr_eq _ _)) (fun ls' hl' => hK _ _ _ _ _ _ h.2 H locs ls' hv hz hS hl')
    · exact h.elim
  · have hln : len = 2 := hln
    subst hln
    split at h
    · intro H locs ls hv hz hS hl
      exact lv_astore C.1 C.2.1 hd hl h.1 (congrArg (List.cons _) (zlr_eq _ _)) (fun ls' hl' => hK _ _ _ _ _ _ h.2 H locs ls' hv hz hS hl')
    · intro H locs ls hv hz hS hl
      exact lv_astoreN C.1 C.2.1 hd hl h.1 (congrArg (List.cons _) (zlr_eq _ _)) (fun ls' hl' => hK _ _ _ _ _ _ h.2 H locs ls' hv hz hS hl')
    · exact h.elim
  · have hln : len = 1 := hln
    subst hln
    split at h
    · intro H locs ls hv hz hS hl
      exact lv_lstore_n C.1 C.2.1 hd rfl hl h.1 (congrArg (List.cons _) (zl2_eq _ _)) (fun ls' hl' => hK _ _ _ _ _ _ h.2 H locs ls' hv hz hS hl')
    · exact h.elim
  · have hln : len = 2 := hln
    subst hln
    split at h
    · intro H locs ls hv hz hS hl
      exact lv_lstore C.1 C.2.1 hd hl h.1 (congrArg (List.cons _) (zl2_eq _ _)) (fun ls' hl' => hK _ _ _ _ _ _ h.2 H locs ls' hv hz hS hl')
    · exact h.elim
  · have hln : len = 1 := hln
    subst hln
    split at h
    · intro H locs ls hv hz hS hl
      exact lv_iadd C.1 C.2.1 hd (hK _ _ _ _ _ _ h H locs ls hv hz hS hl)
    · exact h.elim
  · have hln : len = 1 := hln
    subst hln
    split at h
    · intro H locs ls hv hz hS hl
      exact lv_isub C.1 C.2.1 hd (hK _ _ _ _ _ _ h H locs ls hv hz hS hl)
    · exact h.elim
  · have hln : len = 1 := hln
    subst hln
    split at h
    · intro H locs ls hv hz hS hl
      exact lv_ishr C.1 C.2.1 hd (hK _ _ _ _ _ _ h H locs ls hv hz hS hl)
    · exact h.elim
  · have hln : len = 1 := hln
    subst hln
    split at h
    · intro H locs ls hv hz hS hl
      exact lv_imul C.1 C.2.1 hd (hK _ _ _ _ _ _ h H locs ls hv hz hS hl)
    · exact h.elim
  · have hln : len = 1 := hln
    subst hln
    split at h
    · intro H locs ls hv hz hS hl
      exact lv_iand C.1 C.2.1 hd (hK _ _ _ _ _ _ h H locs ls hv hz hS hl)
    · exact h.elim
  · have hln : len = 1 := hln
    subst hln
    split at h
    · intro H locs ls hv hz hS hl
      exact lv_idiv C.1 C.2.1 hd h.1 (hK _ _ _ _ _ _ h.2 H locs ls hv hz hS hl)
    · exact h.elim
  · have hln : len = 1 := hln
    subst hln
    split at h
    · intro H locs ls hv hz hS hl
      exact lv_irem C.1 C.2.1 hd h.1 (hK _ _ _ _ _ _ h.2 H locs ls hv hz hS hl)
    · exact h.elim
  · have hln : len = 1 := hln
    subst hln
    split at h
    · intro H locs ls hv hz hS hl
      exact lv_ineg C.1 C.2.1 hd (hK _ _ _ _ _ _ h H locs ls hv hz hS hl)
    · exact h.elim
  · have hln : len = 1 := hln
    subst hln
    split at h
    · intro H locs ls hv hz hS hl
      exact lv_ladd C.1 C.2.1 hd (hK _ _ _ _ _ _ h H locs ls hv hz hS hl)
    · exact h.elim
  · exact zst2_ok C L hK hR hd hln h
theorem zst0_ok (C : zC p s m args meth c own cc nL z D dA ini) (L : zlk own fl lc ll) (hK : ∀ pc loc st M k n, K pc loc st M k n → (zJ p l e R s m args below meth c Q nL z D) pc loc st M k n) (hR : zRet rt (zJ p l e R s m args below meth c Q nL z D) cc post) {i : Instr} {len : Nat} {st : List Value} (hd : decode cc pc = .ok (i, len)) (hln : len = zln i) (h : zst0 fl lc ll dA rt ini nL (zJ p l e R s m args below meth c Q nL z D) K post i len pc loc st M k n) : (zJ p l e R s m args below meth c Q nL z D) pc loc st M k n := by
  unfold zst0 at h
  split at h
  · have hln : len = 1 := hln
    subst hln
    · intro H locs ls hv hz hS hl
      exact lv_null C.1 C.2.1 hd (hK _ _ _ _ _ _ h H locs ls hv hz hS hl)
  · have hln : len = 1 := hln
    subst hln
    · intro H locs ls hv hz hS hl
      exact lv_iconst C.1 C.2.1 hd rfl (hK _ _ _ _ _ _ h H locs ls hv hz hS hl)
  · have hln : len = 2 := hln
    subst hln
    · intro H locs ls hv hz hS hl
      exact lv_bipush C.1 C.2.1 hd rfl (hK _ _ _ _ _ _ h H locs ls hv hz hS hl)
  · have hln : len = 3 := hln
    subst hln
    · intro H locs ls hv hz hS hl
      exact lv_sipush C.1 C.2.1 hd rfl (hK _ _ _ _ _ _ h H locs ls hv hz hS hl)
  · have hln : len = 1 := hln
    subst hln
    · intro H locs ls hv hz hS hl
      exact lv_lconst C.1 C.2.1 hd rfl (hK _ _ _ _ _ _ h H locs ls hv hz hS hl)
  · have hln : len = 2 := hln
    subst hln
    · intro H locs ls hv hz hS hl
      obtain ⟨h1, h⟩ := h
      obtain ⟨v, hv1⟩ := Option.isSome_iff_exists.mp h1
      rw [hv1] at h
      exact lv_ldc C.1 C.2.1 C.2.2.2.1 (C.2.2.2.2.1 _ (L.2.1 _ v hv1)) hd (hK _ _ _ _ _ _ h H locs ls hv hz hS hl)
  · have hln : len = 3 := hln
    subst hln
    · intro H locs ls hv hz hS hl
      obtain ⟨h1, h⟩ := h
      obtain ⟨v, hv1⟩ := Option.isSome_iff_exists.mp h1
      rw [hv1] at h
      exact lv_ldc2 C.1 C.2.1 C.2.2.2.1 (C.2.2.2.2.1 _ (L.2.2 _ v hv1)) hd (hK _ _ _ _ _ _ h H locs ls hv hz hS hl)
  · have hln : len = 1 := hln
    subst hln
    · intro H locs ls hv hz hS hl
      obtain ⟨h1, h⟩ := h
      obtain ⟨v, hv1⟩ := zsI_sp h1
      rw [hv1] at h
      exact lv_iload_n C.1 C.2.1 hd rfl (zlg_at hl hv1) (hK _ _ _ _ _ _ h H locs ls hv hz hS hl)
  · have hln : len = 2 := hln
    subst hln
    · intro H locs ls hv hz hS hl
      obtain ⟨h1, h⟩ := h
      obtain ⟨v, hv1⟩ := zsI_sp h1
      rw [hv1] at h
      exact lv_iload C.1 C.2.1 hd (zlg_at hl hv1) (hK _ _ _ _ _ _ h H locs ls hv hz hS hl)
  · have hln : len = 1 := hln
    subst hln
    · intro H locs ls hv hz hS hl
      obtain ⟨h1, h⟩ := h
      obtain ⟨v, hv1⟩ := zsL_sp h1
      rw [hv1] at h
      exact lv_lload_n C.1 C.2.1 hd rfl (zlg_at hl hv1) (hK _ _ _ _ _ _ h H locs ls hv hz hS hl)
  · have hln : len = 2 := hln
    subst hln
    · intro H locs ls hv hz hS hl
      obtain ⟨h1, h⟩ := h
      obtain ⟨v, hv1⟩ := zsL_sp h1
      rw [hv1] at h
      exact lv_lload C.1 C.2.1 hd (zlg_at hl hv1) (hK _ _ _ _ _ _ h H locs ls hv hz hS hl)
  · have hln : len = 1 := hln
    subst hln
    · intro H locs ls hv hz hS hl
      obtain ⟨h1, h⟩ := h
      rcases zsA_sp h1 with ⟨v, hv1⟩ | hv1
      · rw [hv1] at h
        exact lv_aload_n C.1 C.2.1 hd rfl (zlg_at hl hv1) (hK _ _ _ _ _ _ h H locs ls hv hz hS hl)
      · rw [hv1] at h
        exact lv_aload_nN C.1 C.2.1 hd rfl (zlg_at hl hv1) (hK _ _ _ _ _ _ h H locs ls hv hz hS hl)
  · have hln : len = 2 := hln
    subst hln
    · intro H locs ls hv hz hS hl
      obtain ⟨h1, h⟩ := h
      rcases zsA_sp h1 with ⟨v, hv1⟩ | hv1
      · rw [hv1] at h
        exact lv_aload C.1 C.2.1 hd (zlg_at hl hv1) (hK _ _ _ _ _ _ h H locs ls hv hz hS hl)
      · rw [hv1] at h
        exact lv_aloadN C.1 C.2.1 hd (zlg_at hl hv1) (hK _ _ _ _ _ _ h H locs ls hv hz hS hl)
  · have hln : len = 1 := hln
    subst hln
    split at h
    · intro H locs ls hv hz hS hl
      exact lv_istore_n C.1 C.2.1 hd rfl hl h.1 (congrArg (List.cons _) (zlr_eq _ _)) (fun ls' hl' => hK _ _ _ _ _ _ h.2 H locs ls' hv hz hS hl')
    · exact h.elim
  · exact zst1_ok C L hK hR hd hln h
def zsg (cut : Nat → Bool) (fl : Nat → Option (Nat × Nat × Nat)) (lc : Nat → Option Int32) (ll : Nat → Option Int64) (dA : Nat → ClassId) (rt : Nat) (ini : Bool) (nL : Nat) (Jk K : zK) (post : Option Value → zVw → Nat → Nat → Prop) : Except DecodeError (Instr × Nat) → zK
  | .ok (i, len) => fun pc loc st M k n => bif zln i == len then zst0 fl lc ll dA rt ini nL Jk K post i len pc loc st M k n else Jk pc loc st M k n
  | _ => fun _ _ _ _ _ _ => False
def zseg (cc : ByteArray) (cut : Nat → Bool) (fl : Nat → Option (Nat × Nat × Nat)) (lc : Nat → Option Int32) (ll : Nat → Option Int64) (dA : Nat → ClassId) (rt : Nat) (ini : Bool) (nL : Nat) (Jk : zK) (post : Option Value → zVw → Nat → Nat → Prop) : Nat → zK
  | 0 => Jk
  | f + 1 => fun pc loc st M k n => bif cut pc then Jk pc loc st M k n else zsg cut fl lc ll dA rt ini nL Jk (zseg cc cut fl lc ll dA rt ini nL Jk post f) post (decode cc pc) pc loc st M k n
theorem zsg_ok {cut : Nat → Bool} (C : zC p s m args meth c own cc nL z D dA ini) (L : zlk own fl lc ll) (hK : ∀ pc loc st M k n, K pc loc st M k n → (zJ p l e R s m args below meth c Q nL z D) pc loc st M k n) (hR : zRet rt (zJ p l e R s m args below meth c Q nL z D) cc post) {st : List Value} (h : zsg cut fl lc ll dA rt ini nL (zJ p l e R s m args below meth c Q nL z D) K post (decode cc pc) pc loc st M k n) : (zJ p l e R s m args below meth c Q nL z D) pc loc st M k n := by
  cases hd : decode cc pc with
  | error _ => rw [hd] at h; exact h.elim
  | ok q =>
    obtain ⟨i, len⟩ := q
    rw [hd] at h
    unfold zsg at h
    dsimp only at h
    cases hb : (zln i == len) with
    | false => rw [hb] at h; exact h
    | true =>
      rw [hb] at h
      have e1 : zln i = len := by simpa using hb
      exact zst0_ok C L hK hR hd e1.symm h
theorem zseg_ok {cut : Nat → Bool} (C : zC p s m args meth c own cc nL z D dA ini) (L : zlk own fl lc ll) (hR : zRet rt (zJ p l e R s m args below meth c Q nL z D) cc post) : ∀ (f : Nat) (pc : Nat) (loc : List (Nat × Value)) (st : List Value) (M : zVw) (k n : Nat), zseg cc cut fl lc ll dA rt ini nL (zJ p l e R s m args below meth c Q nL z D) post f pc loc st M k n → (zJ p l e R s m args below meth c Q nL z D) pc loc st M k n
  | 0, _, _, _, _, _, _, h => h
  | f + 1, pc, loc, st, M, k, n, h => by
    unfold zseg at h
    cases hb : cut pc with
    | true => rw [hb] at h; exact h
    | false =>
      rw [hb] at h
      exact zsg_ok (cut := cut) C L (zseg_ok C L hR f) hR h
/-- from a place that may itself be a stop -/
theorem zgo {cut : Nat → Bool} (f : Nat) (C : zC p s m args meth c own cc nL z D dA ini) (L : zlk own fl lc ll) (hR : zRet rt (zJ p l e R s m args below meth c Q nL z D) cc post) {st : List Value} (h : zsg cut fl lc ll dA rt ini nL (zJ p l e R s m args below meth c Q nL z D) (zseg cc cut fl lc ll dA rt ini nL (zJ p l e R s m args below meth c Q nL z D) post f) post (decode cc pc) pc loc st M k n) : (zJ p l e R s m args below meth c Q nL z D) pc loc st M k n := zsg_ok (cut := cut) C L (zseg_ok C L hR f) hR h
end ZS
/-! rows for simp: each holds by rfl -/
section ZR
variable {cc : ByteArray} {cut : Nat → Bool} {fl : Nat → Option (Nat × Nat × Nat)} {lc : Nat → Option Int32} {ll : Nat → Option Int64} {dA : Nat → ClassId} {rt : Nat} {ini : Bool} {nL : Nat} {Jk K : zK} {post : Option Value → zVw → Nat → Nat → Prop} {pc k n len f : Nat} {loc : List (Nat × Value)} {st : List Value} {M : zVw}
theorem zs_null : zsg cut fl lc ll dA rt ini nL Jk K post (.ok (.aconst_null, 1)) pc loc st M k n = (K (pc + 1) loc (.null :: st) M k n) := rfl
theorem zs_iconst {v : Int} : zsg cut fl lc ll dA rt ini nL Jk K post (.ok (.iconst v, 1)) pc loc st M k n = (K (pc + 1) loc (.int (Int32.ofInt v) :: st) M k n) := rfl
theorem zs_bipush {v : Int} : zsg cut fl lc ll dA rt ini nL Jk K post (.ok (.bipush v, 2)) pc loc st M k n = (K (pc + 2) loc (.int (Int8.ofInt v).toInt32 :: st) M k n) := rfl
theorem zs_sipush {v : Int} : zsg cut fl lc ll dA rt ini nL Jk K post (.ok (.sipush v, 3)) pc loc st M k n = (K (pc + 3) loc (.int (Int16.ofInt v).toInt32 :: st) M k n) := rfl
theorem zs_lconst {v : Fin 2} : zsg cut fl lc ll dA rt ini nL Jk K post (.ok (.lconst v, 1)) pc loc st M k n = (K (pc + 1) loc (.long (Int64.ofNat (v : Nat)) :: st) M k n) := rfl
theorem zs_ldc {x : Nat} : zsg cut fl lc ll dA rt ini nL Jk K post (.ok (.ldc x, 2)) pc loc st M k n = ((lc x).isSome = true ∧ K (pc + 2) loc (.int ((lc x).getD 0) :: st) M k n) := rfl
theorem zs_ldc2 {x : Nat} : zsg cut fl lc ll dA rt ini nL Jk K post (.ok (.ldc2_w x, 3)) pc loc st M k n = ((ll x).isSome = true ∧ K (pc + 3) loc (.long ((ll x).getD 0) :: st) M k n) := rfl
theorem zs_iload_n {x : Fin 4} : zsg cut fl lc ll dA rt ini nL Jk K post (.ok (.iload_n x, 1)) pc loc st M k n = (zsI (zlg loc (zf4 x)) = true ∧ K (pc + 1) loc (zvo (zlg loc (zf4 x)) :: st) M k n) := rfl
theorem zs_iload {x : Nat} : zsg cut fl lc ll dA rt ini nL Jk K post (.ok (.iload x, 2)) pc loc st M k n = (zsI (zlg loc x) = true ∧ K (pc + 2) loc (zvo (zlg loc x) :: st) M k n) := rfl
theorem zs_lload_n {x : Fin 4} : zsg cut fl lc ll dA rt ini nL Jk K post (.ok (.lload_n x, 1)) pc loc st M k n = (zsL (zlg loc (zf4 x)) = true ∧ K (pc + 1) loc (zvo (zlg loc (zf4 x)) :: st) M k n) := rfl
theorem zs_lload {x : Nat} : zsg cut fl lc ll dA rt ini nL Jk K post (.ok (.lload x, 2)) pc loc st M k n = (zsL (zlg loc x) = true ∧ K (pc + 2) loc (zvo (zlg loc x) :: st) M k n) := rfl
theorem zs_aload_n {x : Fin 4} : zsg cut fl lc ll dA rt ini nL Jk K post (.ok (.aload_n x, 1)) pc loc st M k n = (zsA (zlg loc (zf4 x)) = true ∧ K (pc + 1) loc (zvo (zlg loc (zf4 x)) :: st) M k n) := rfl
theorem zs_aload {x : Nat} : zsg cut fl lc ll dA rt ini nL Jk K post (.ok (.aload x, 2)) pc loc st M k n = (zsA (zlg loc x) = true ∧ K (pc + 2) loc (zvo (zlg loc x) :: st) M k n) := rfl
theorem zs_istore_n {r : List Value} {v : Int32} {x : Fin 4} : zsg cut fl lc ll dA rt ini nL Jk K post (.ok (.istore_n x, 1)) pc loc (.int v :: r) M k n = ((zf4 x) < nL ∧ K (pc + 1) (((zf4 x), .int v) :: zlr loc (zf4 x)) r M k n) := rfl
theorem zs_astore_n0 {r : List Value} {v : Nat} {x : Fin 4} : zsg cut fl lc ll dA rt ini nL Jk K post (.ok (.astore_n x, 1)) pc loc (.ref v :: r) M k n = ((zf4 x) < nL ∧ K (pc + 1) (((zf4 x), .ref v) :: zlr loc (zf4 x)) r M k n) := rfl
theorem zs_astore_n1 {r : List Value} {x : Fin 4} : zsg cut fl lc ll dA rt ini nL Jk K post (.ok (.astore_n x, 1)) pc loc (.null :: r) M k n = ((zf4 x) < nL ∧ K (pc + 1) (((zf4 x), .null) :: zlr loc (zf4 x)) r M k n) := rfl
theorem zs_istore {r : List Value} {v : Int32} {x : Nat} : zsg cut fl lc ll dA rt ini nL Jk K post (.ok (.istore x, 2)) pc loc (.int v :: r) M k n = (x < nL ∧ K (pc + 2) ((x, .int v) :: zlr loc x) r M k n) := rfl
theorem zs_astore0 {r : List Value} {v : Nat} {x : Nat} : zsg cut fl lc ll dA rt ini nL Jk K post (.ok (.astore x, 2)) pc loc (.ref v :: r) M k n = (x < nL ∧ K (pc + 2) ((x, .ref v) :: zlr loc x) r M k n) := rfl
theorem zs_astore1 {r : List Value} {x : Nat} : zsg cut fl lc ll dA rt ini nL Jk K post (.ok (.astore x, 2)) pc loc (.null :: r) M k n = (x < nL ∧ K (pc + 2) ((x, .null) :: zlr loc x) r M k n) := rfl
theorem zs_lstore_n {r : List Value} {v : Int64} {x : Fin 4} : zsg cut fl lc ll dA rt ini nL Jk K post (.ok (.lstore_n x, 1)) pc loc (.long v :: r) M k n = ((zf4 x) + 1 < nL ∧ K (pc + 1) (((zf4 x), .long v) :: zl2 loc (zf4 x)) r M k n) := rfl
theorem zs_lstore {r : List Value} {v : Int64} {x : Nat} : zsg cut fl lc ll dA rt ini nL Jk K post (.ok (.lstore x, 2)) pc loc (.long v :: r) M k n = (x + 1 < nL ∧ K (pc + 2) ((x, .long v) :: zl2 loc x) r M k n) := rfl
theorem zs_iadd {r : List Value} {x : Int32} {y : Int32} : zsg cut fl lc ll dA rt ini nL Jk K post (.ok (.iadd, 1)) pc loc (.int y :: .int x :: r) M k n = (K (pc + 1) loc (.int (x + y) :: r) M k n) := rfl
theorem zs_isub {r : List Value} {x : Int32} {y : Int32} : zsg cut fl lc ll dA rt ini nL Jk K post (.ok (.isub, 1)) pc loc (.int y :: .int x :: r) M k n = (K (pc + 1) loc (.int (x - y) :: r) M k n) := rfl
theorem zs_ishr {r : List Value} {x : Int32} {y : Int32} : zsg cut fl lc ll dA rt ini nL Jk K post (.ok (.ishr, 1)) pc loc (.int y :: .int x :: r) M k n = (K (pc + 1) loc (.int (x >>> (y &&& 31)) :: r) M k n) := rfl
theorem zs_imul {r : List Value} {x : Int32} {y : Int32} : zsg cut fl lc ll dA rt ini nL Jk K post (.ok (.imul, 1)) pc loc (.int y :: .int x :: r) M k n = (K (pc + 1) loc (.int (x * y) :: r) M k n) := rfl
theorem zs_iand {r : List Value} {x : Int32} {y : Int32} : zsg cut fl lc ll dA rt ini nL Jk K post (.ok (.iand, 1)) pc loc (.int y :: .int x :: r) M k n = (K (pc + 1) loc (.int (x &&& y) :: r) M k n) := rfl
theorem zs_idiv {r : List Value} {x : Int32} {y : Int32} : zsg cut fl lc ll dA rt ini nL Jk K post (.ok (.idiv, 1)) pc loc (.int y :: .int x :: r) M k n = (¬ y = 0 ∧ K (pc + 1) loc (.int (x / y) :: r) M k n) := rfl
theorem zs_irem {r : List Value} {x : Int32} {y : Int32} : zsg cut fl lc ll dA rt ini nL Jk K post (.ok (.irem, 1)) pc loc (.int y :: .int x :: r) M k n = (¬ y = 0 ∧ K (pc + 1) loc (.int (x - x / y * y) :: r) M k n) := rfl
theorem zs_ineg {r : List Value} {x : Int32} : zsg cut fl lc ll dA rt ini nL Jk K post (.ok (.ineg, 1)) pc loc (.int x :: r) M k n = (K (pc + 1) loc (.int (-x) :: r) M k n) := rfl
theorem zs_ladd {r : List Value} {x : Int64} {y : Int64} : zsg cut fl lc ll dA rt ini nL Jk K post (.ok (.ladd, 1)) pc loc (.long y :: .long x :: r) M k n = (K (pc + 1) loc (.long (x + y) :: r) M k n) := rfl
theorem zs_lsub {r : List Value} {x : Int64} {y : Int64} : zsg cut fl lc ll dA rt ini nL Jk K post (.ok (.lsub, 1)) pc loc (.long y :: .long x :: r) M k n = (K (pc + 1) loc (.long (x - y) :: r) M k n) := rfl
theorem zs_lmul {r : List Value} {x : Int64} {y : Int64} : zsg cut fl lc ll dA rt ini nL Jk K post (.ok (.lmul, 1)) pc loc (.long y :: .long x :: r) M k n = (K (pc + 1) loc (.long (x * y) :: r) M k n) := rfl
theorem zs_land {r : List Value} {x : Int64} {y : Int64} : zsg cut fl lc ll dA rt ini nL Jk K post (.ok (.land, 1)) pc loc (.long y :: .long x :: r) M k n = (K (pc + 1) loc (.long (x &&& y) :: r) M k n) := rfl
theorem zs_lor {r : List Value} {x : Int64} {y : Int64} : zsg cut fl lc ll dA rt ini nL Jk K post (.ok (.lor, 1)) pc loc (.long y :: .long x :: r) M k n = (K (pc + 1) loc (.long (x ||| y) :: r) M k n) := rfl
theorem zs_ldiv {r : List Value} {x : Int64} {y : Int64} : zsg cut fl lc ll dA rt ini nL Jk K post (.ok (.ldiv, 1)) pc loc (.long y :: .long x :: r) M k n = (¬ y = 0 ∧ K (pc + 1) loc (.long (x / y) :: r) M k n) := rfl
theorem zs_lcmp {r : List Value} {x : Int64} {y : Int64} : zsg cut fl lc ll dA rt ini nL Jk K post (.ok (.lcmp, 1)) pc loc (.long y :: .long x :: r) M k n = (K (pc + 1) loc (.int (lg_cmp x y) :: r) M k n) := rfl
theorem zs_i2l {r : List Value} {x : Int32} : zsg cut fl lc ll dA rt ini nL Jk K post (.ok (.i2l, 1)) pc loc (.int x :: r) M k n = (K (pc + 1) loc (.long x.toInt64 :: r) M k n) := rfl
theorem zs_l2i {r : List Value} {x : Int64} : zsg cut fl lc ll dA rt ini nL Jk K post (.ok (.l2i, 1)) pc loc (.long x :: r) M k n = (K (pc + 1) loc (.int x.toInt32 :: r) M k n) := rfl
theorem zs_lshl {r : List Value} {x : Int64} {y : Int32} : zsg cut fl lc ll dA rt ini nL Jk K post (.ok (.lshl, 1)) pc loc (.int y :: .long x :: r) M k n = (K (pc + 1) loc (.long (x <<< (y.toInt64 &&& 63)) :: r) M k n) := rfl
theorem zs_dup0 {r : List Value} {x : Int32} : zsg cut fl lc ll dA rt ini nL Jk K post (.ok (.dup, 1)) pc loc (.int x :: r) M k n = (K (pc + 1) loc (.int x :: .int x :: r) M k n) := rfl
theorem zs_dup1 {r : List Value} {x : Nat} : zsg cut fl lc ll dA rt ini nL Jk K post (.ok (.dup, 1)) pc loc (.ref x :: r) M k n = (K (pc + 1) loc (.ref x :: .ref x :: r) M k n) := rfl
theorem zs_pop0 {r : List Value} {y0 : Int32} : zsg cut fl lc ll dA rt ini nL Jk K post (.ok (.pop, 1)) pc loc (.int y0 :: r) M k n = (K (pc + 1) loc r M k n) := rfl
theorem zs_pop1 {r : List Value} {x0 : Nat} : zsg cut fl lc ll dA rt ini nL Jk K post (.ok (.pop, 1)) pc loc (.ref x0 :: r) M k n = (K (pc + 1) loc r M k n) := rfl
theorem zs_pop2 {r : List Value} : zsg cut fl lc ll dA rt ini nL Jk K post (.ok (.pop, 1)) pc loc (.null :: r) M k n = (K (pc + 1) loc r M k n) := rfl
theorem zs_dup_x10 {r : List Value} {x : Int32} {y : Nat} : zsg cut fl lc ll dA rt ini nL Jk K post (.ok (.dup_x1, 1)) pc loc (.int x :: .ref y :: r) M k n = (K (pc + 1) loc (.int x :: .ref y :: .int x :: r) M k n) := rfl
theorem zs_dup_x11 {r : List Value} {x : Nat} {y : Nat} : zsg cut fl lc ll dA rt ini nL Jk K post (.ok (.dup_x1, 1)) pc loc (.ref x :: .ref y :: r) M k n = (K (pc + 1) loc (.ref x :: .ref y :: .ref x :: r) M k n) := rfl
theorem zs_dup2 {r : List Value} {x : Int32} {y : Nat} : zsg cut fl lc ll dA rt ini nL Jk K post (.ok (.dup2, 1)) pc loc (.int x :: .ref y :: r) M k n = (K (pc + 1) loc (.int x :: .ref y :: .int x :: .ref y :: r) M k n) := rfl
theorem zs_if_eq {off : Int} {r : List Value} {x : Int32} : zsg cut fl lc ll dA rt ini nL Jk K post (.ok (.ifCond .eq off, 3)) pc loc (.int x :: r) M k n = (zo pc off ∧ (x = 0 → K (zt pc off) loc r M k n) ∧ (¬ x = 0 → K (pc + 3) loc r M k n)) := rfl
theorem zs_if_ne {off : Int} {r : List Value} {x : Int32} : zsg cut fl lc ll dA rt ini nL Jk K post (.ok (.ifCond .ne off, 3)) pc loc (.int x :: r) M k n = (zo pc off ∧ (¬ x = 0 → K (zt pc off) loc r M k n) ∧ (x = 0 → K (pc + 3) loc r M k n)) := rfl
theorem zs_if_lt {off : Int} {r : List Value} {x : Int32} : zsg cut fl lc ll dA rt ini nL Jk K post (.ok (.ifCond .lt off, 3)) pc loc (.int x :: r) M k n = (zo pc off ∧ (x < 0 → K (zt pc off) loc r M k n) ∧ (¬ x < 0 → K (pc + 3) loc r M k n)) := rfl
theorem zs_if_ge {off : Int} {r : List Value} {x : Int32} : zsg cut fl lc ll dA rt ini nL Jk K post (.ok (.ifCond .ge off, 3)) pc loc (.int x :: r) M k n = (zo pc off ∧ (0 ≤ x → K (zt pc off) loc r M k n) ∧ (¬ 0 ≤ x → K (pc + 3) loc r M k n)) := rfl
theorem zs_if_gt {off : Int} {r : List Value} {x : Int32} : zsg cut fl lc ll dA rt ini nL Jk K post (.ok (.ifCond .gt off, 3)) pc loc (.int x :: r) M k n = (zo pc off ∧ (0 < x → K (zt pc off) loc r M k n) ∧ (¬ 0 < x → K (pc + 3) loc r M k n)) := rfl
theorem zs_if_le {off : Int} {r : List Value} {x : Int32} : zsg cut fl lc ll dA rt ini nL Jk K post (.ok (.ifCond .le off, 3)) pc loc (.int x :: r) M k n = (zo pc off ∧ (x ≤ 0 → K (zt pc off) loc r M k n) ∧ (¬ x ≤ 0 → K (pc + 3) loc r M k n)) := rfl
theorem zs_icmp_eq {off : Int} {r : List Value} {x : Int32} {y : Int32} : zsg cut fl lc ll dA rt ini nL Jk K post (.ok (.if_icmp .eq off, 3)) pc loc (.int y :: .int x :: r) M k n = (zo pc off ∧ (x = y → K (zt pc off) loc r M k n) ∧ (¬ x = y → K (pc + 3) loc r M k n)) := rfl
theorem zs_icmp_ne {off : Int} {r : List Value} {x : Int32} {y : Int32} : zsg cut fl lc ll dA rt ini nL Jk K post (.ok (.if_icmp .ne off, 3)) pc loc (.int y :: .int x :: r) M k n = (zo pc off ∧ (¬ x = y → K (zt pc off) loc r M k n) ∧ (x = y → K (pc + 3) loc r M k n)) := rfl
theorem zs_icmp_lt {off : Int} {r : List Value} {x : Int32} {y : Int32} : zsg cut fl lc ll dA rt ini nL Jk K post (.ok (.if_icmp .lt off, 3)) pc loc (.int y :: .int x :: r) M k n = (zo pc off ∧ (x < y → K (zt pc off) loc r M k n) ∧ (¬ x < y → K (pc + 3) loc r M k n)) := rfl
theorem zs_icmp_ge {off : Int} {r : List Value} {x : Int32} {y : Int32} : zsg cut fl lc ll dA rt ini nL Jk K post (.ok (.if_icmp .ge off, 3)) pc loc (.int y :: .int x :: r) M k n = (zo pc off ∧ (y ≤ x → K (zt pc off) loc r M k n) ∧ (¬ y ≤ x → K (pc + 3) loc r M k n)) := rfl
theorem zs_icmp_gt {off : Int} {r : List Value} {x : Int32} {y : Int32} : zsg cut fl lc ll dA rt ini nL Jk K post (.ok (.if_icmp .gt off, 3)) pc loc (.int y :: .int x :: r) M k n = (zo pc off ∧ (y < x → K (zt pc off) loc r M k n) ∧ (¬ y < x → K (pc + 3) loc r M k n)) := rfl
theorem zs_icmp_le {off : Int} {r : List Value} {x : Int32} {y : Int32} : zsg cut fl lc ll dA rt ini nL Jk K post (.ok (.if_icmp .le off, 3)) pc loc (.int y :: .int x :: r) M k n = (zo pc off ∧ (x ≤ y → K (zt pc off) loc r M k n) ∧ (¬ x ≤ y → K (pc + 3) loc r M k n)) := rfl
theorem zs_ifnull0 {off : Int} {r : List Value} {x0 : Nat} : zsg cut fl lc ll dA rt ini nL Jk K post (.ok (.ifnull off, 3)) pc loc (.ref x0 :: r) M k n = (K (pc + 3) loc r M k n) := rfl
theorem zs_ifnull1 {off : Int} {r : List Value} : zsg cut fl lc ll dA rt ini nL Jk K post (.ok (.ifnull off, 3)) pc loc (.null :: r) M k n = (zo pc off ∧ K (zt pc off) loc r M k n) := rfl
theorem zs_ifnonnull0 {off : Int} {r : List Value} {x0 : Nat} : zsg cut fl lc ll dA rt ini nL Jk K post (.ok (.ifnonnull off, 3)) pc loc (.ref x0 :: r) M k n = (zo pc off ∧ K (zt pc off) loc r M k n) := rfl
theorem zs_ifnonnull1 {off : Int} {r : List Value} : zsg cut fl lc ll dA rt ini nL Jk K post (.ok (.ifnonnull off, 3)) pc loc (.null :: r) M k n = (K (pc + 3) loc r M k n) := rfl
theorem zs_goto {off : Int} : zsg cut fl lc ll dA rt ini nL Jk K post (.ok (.goto off, 3)) pc loc st M k n = (zo pc off ∧ K (zt pc off) loc st M k n) := rfl
theorem zs_iinc {v : Int} {x : Nat} : zsg cut fl lc ll dA rt ini nL Jk K post (.ok (.iinc x v, 3)) pc loc st M k n = (zsI (zlg loc x) = true ∧ x < nL ∧ K (pc + 3) ((x, .int (zin (zlg loc x) + Int32.ofInt v)) :: zlr loc x) st M k n) := rfl
theorem zs_get {a : Nat} {r : List Value} {x : Nat} : zsg cut fl lc ll dA rt ini nL Jk K post (.ok (.getfield x, 3)) pc loc (.ref a :: r) M k n = (zso (zrd (fl x) (M a)) = true ∧ K (pc + 3) loc (zvo (zrd (fl x) (M a)) :: r) M k n) := rfl
theorem zs_put {a : Nat} {r : List Value} {v : Value} {x : Nat} : zsg cut fl lc ll dA rt ini nL Jk K post (.ok (.putfield x, 3)) pc loc (v :: .ref a :: r) M k n = (zso (zrd (fl x) (M a)) = true ∧ zkf ini (fl x) v ∧ K (pc + 3) loc r (zu M a (zwr (fl x) (M a) v)) k n) := rfl
theorem zs_iaload {a : Nat} {i : Int32} {r : List Value} : zsg cut fl lc ll dA rt ini nL Jk K post (.ok (.iaload, 1)) pc loc (.int i :: .ref a :: r) M k n = (zai (M a) (dA 0) i ∧ K (pc + 1) loc (.int (zaf (M a) i.toNatClampNeg) :: r) M k n) := rfl
theorem zs_iastore {a : Nat} {i : Int32} {r : List Value} {x : Int32} : zsg cut fl lc ll dA rt ini nL Jk K post (.ok (.iastore, 1)) pc loc (.int x :: .int i :: .ref a :: r) M k n = (zai (M a) (dA 0) i ∧ K (pc + 1) loc r (zu M a (zaw (M a) i.toNatClampNeg x)) k n) := rfl
theorem zs_laload {a : Nat} {i : Int32} {r : List Value} : zsg cut fl lc ll dA rt ini nL Jk K post (.ok (.laload, 1)) pc loc (.int i :: .ref a :: r) M k n = (zaL (M a) (dA 3) i ∧ K (pc + 1) loc (.long (zLf (M a) i.toNatClampNeg) :: r) M k n) := rfl
theorem zs_lastore {a : Nat} {i : Int32} {r : List Value} {x : Int64} : zsg cut fl lc ll dA rt ini nL Jk K post (.ok (.lastore, 1)) pc loc (.long x :: .int i :: .ref a :: r) M k n = (zaL (M a) (dA 3) i ∧ K (pc + 1) loc r (zu M a (zLw (M a) i.toNatClampNeg x)) k n) := rfl
theorem zs_baload {a : Nat} {i : Int32} {r : List Value} : zsg cut fl lc ll dA rt ini nL Jk K post (.ok (.baload, 1)) pc loc (.int i :: .ref a :: r) M k n = (zai (M a) (dA 4) i ∧ K (pc + 1) loc (.int (zaf (M a) i.toNatClampNeg) :: r) M k n) := rfl
theorem zs_bastore {a : Nat} {i : Int32} {r : List Value} {x : Int32} : zsg cut fl lc ll dA rt ini nL Jk K post (.ok (.bastore, 1)) pc loc (.int x :: .int i :: .ref a :: r) M k n = (zai (M a) (dA 4) i ∧ (x = 0 ∨ x = 1) ∧ K (pc + 1) loc r (zu M a (zaw (M a) i.toNatClampNeg x)) k n) := rfl
theorem zs_alen {a : Nat} {r : List Value} : zsg cut fl lc ll dA rt ini nL Jk K post (.ok (.arraylength, 1)) pc loc (.ref a :: r) M k n = (zal dA (M a) ∧ K (pc + 1) loc (.int (Int32.ofNat (zan (M a))) :: r) M k n) := rfl
theorem zs_aaload {a : Nat} {i : Int32} {r : List Value} : zsg cut fl lc ll dA rt ini nL Jk K post (.ok (.aaload, 1)) pc loc (.int i :: .ref a :: r) M k n = (zaq dA (M a) i ∧ K (pc + 1) loc (va_rf (zag (M a) i.toNatClampNeg) :: r) M k n) := rfl
theorem zs_ireturn {v : Int32} : zsg cut fl lc ll dA rt ini nL Jk K post (.ok (.ireturn, 1)) pc loc ([.int v]) M k n = (zri rt v ∧ post (some (.int v)) M k n) := rfl
theorem zs_lreturn {v : Int64} : zsg cut fl lc ll dA rt ini nL Jk K post (.ok (.lreturn, 1)) pc loc ([.long v]) M k n = (rt = 4 ∧ post (some (.long v)) M k n) := rfl
theorem zs_areturn0 {v : Nat} : zsg cut fl lc ll dA rt ini nL Jk K post (.ok (.areturn, 1)) pc loc ([.ref v]) M k n = (rt = 3 ∧ post (some (.ref v)) M k n) := rfl
theorem zs_areturn1 : zsg cut fl lc ll dA rt ini nL Jk K post (.ok (.areturn, 1)) pc loc ([.null]) M k n = (rt = 3 ∧ post (some .null) M k n) := rfl
theorem zs_return : zsg cut fl lc ll dA rt ini nL Jk K post (.ok (.return_, 1)) pc loc ([]) M k n = (rt = 0 ∧ post none M k n) := rfl
theorem zr_seg : zseg cc cut fl lc ll dA rt ini nL Jk post (f + 1) pc loc st M k n = (bif cut pc then Jk pc loc st M k n else zsg cut fl lc ll dA rt ini nL Jk (zseg cc cut fl lc ll dA rt ini nL Jk post f) post (decode cc pc) pc loc st M k n) := rfl
theorem zr_t {α : Type} {a b : α} : (bif true then a else b) = a := rfl
theorem zr_f {α : Type} {a b : α} : (bif false then a else b) = b := rfl
theorem zr_tp {a b : Prop} : (bif true then a else b) = a := rfl
theorem zr_fp {a b : Prop} : (bif false then a else b) = b := rfl
theorem zr_lg {j i : Nat} {v : Value} : zlg ((j, v) :: loc) i = bif j == i then some v else zlg loc i := rfl
theorem zr_lr {j i : Nat} {v : Value} : zlr ((j, v) :: loc) i = bif j == i || (j + 1 == i && zw v) then zlr loc i else (j, v) :: zlr loc i := rfl
theorem zr_lr0 {i : Nat} : zlr [] i = [] := rfl
theorem zr_wi {x : Int32} : zw (.int x) = false := rfl
theorem zr_wr {x : Nat} : zw (.ref x) = false := rfl
theorem zr_wn : zw .null = false := rfl
theorem zr_wl {x : Int64} : zw (.long x) = true := rfl
theorem zr_vo {v : Value} : zvo (some v) = v := rfl
theorem zr_so {v : Value} : zso (some v) = true := rfl
theorem zr_sI {x : Int32} : zsI (some (.int x)) = true := rfl
theorem zr_sL {x : Int64} : zsL (some (.long x)) = true := rfl
theorem zr_sA {x : Nat} : zsA (some (.ref x)) = true := rfl
theorem zr_sN : zsA (some .null) = true := rfl
theorem zr_in {x : Int32} : zin (some (.int x)) = x := rfl
theorem zr_rd {ci fi kd c0 : Nat} {fs : List Value} : zrd (some (ci, fi, kd)) (some (.inr (c0, fs))) = bif c0 == ci then fs[fi]? else none := rfl
theorem zr_wr2 {ci fi kd c0 : Nat} {fs : List Value} {v : Value} : zwr (some (ci, fi, kd)) (some (.inr (c0, fs))) v = .inr (c0, fs.set fi v) := rfl
theorem zr_kf {ci fi kd : Nat} {v : Value} : zkf ini (some (ci, fi, kd)) v = zkv ini kd v := rfl
theorem zr_k0 {x : Int32} : zkv ini 0 (.int x) = True := rfl
theorem zr_k1 {x : Int64} : zkv ini 1 (.long x) = True := rfl
theorem zr_k2 {x : Int32} : zkv ini 2 (.int x) = (x = 0 ∨ x = 1) := rfl
theorem zr_k3 {x : Nat} : zkv ini 3 (.ref x) = True := rfl
theorem zr_k3n : zkv ini 3 .null = True := rfl
theorem zr_k10 {x : Int32} : zkv true 10 (.int x) = (true = true) := rfl
theorem zr_k11 {x : Int64} : zkv true 11 (.long x) = (true = true) := rfl
theorem zr_k12 {x : Int32} : zkv true 12 (.int x) = (true = true ∧ (x = 0 ∨ x = 1)) := rfl
theorem zr_k13 {x : Nat} : zkv true 13 (.ref x) = (true = true) := rfl
theorem zr_k13n : zkv true 13 .null = (true = true) := rfl
theorem zr_ai {c0 cA : ClassId} {nn : Nat} {g : Nat → Int32} {i : Int32} : zai (some (.inl (c0, nn, .inl g))) cA i = (c0 = cA ∧ vp_in i nn) := rfl
theorem zr_af {c0 : ClassId} {nn j : Nat} {g : Nat → Int32} : zaf (some (.inl (c0, nn, .inl g))) j = g j := rfl
theorem zr_aw {c0 : ClassId} {nn j : Nat} {g : Nat → Int32} {x : Int32} : zaw (some (.inl (c0, nn, .inl g))) j x = .inl (c0, nn, .inl (upd g j x)) := rfl
theorem zr_aL {c0 cA : ClassId} {nn : Nat} {g : Nat → Int64} {i : Int32} : zaL (some (.inl (c0, nn, .inr (.inl g)))) cA i = (c0 = cA ∧ vp_in i nn) := rfl
theorem zr_Lf {c0 : ClassId} {nn j : Nat} {g : Nat → Int64} : zLf (some (.inl (c0, nn, .inr (.inl g)))) j = g j := rfl
theorem zr_Lw {c0 : ClassId} {nn j : Nat} {g : Nat → Int64} {x : Int64} : zLw (some (.inl (c0, nn, .inr (.inl g)))) j x = .inl (c0, nn, .inr (.inl (vp_updL g j x))) := rfl
theorem zr_l2 {j i : Nat} {v : Value} : zl2 ((j, v) :: loc) i = bif j == i || (j == i + 1 || (j + 1 == i && zw v)) then zl2 loc i else (j, v) :: zl2 loc i := rfl
theorem zr_l20 {i : Nat} : zl2 [] i = [] := rfl
theorem zr_al {c0 : ClassId} {q : vp_A} : zal dA (some (.inl (c0, q))) = (∃ (t : Nat) (ty : FieldType), (kt dA)[t]? = some (c0, ty)) := rfl
theorem zr_an {c0 : ClassId} {nn : Nat} {q : (Nat → Int32) ⊕ (Nat → Int64) ⊕ (Nat → UInt32) ⊕ (Nat → UInt64) ⊕ (Nat → Option Nat)} : zan (some (.inl (c0, nn, q))) = nn := rfl
theorem zr_aq {c0 : ClassId} {nn : Nat} {g : Nat → Option Nat} {i : Int32} : zaq dA (some (.inl (c0, nn, .inr (.inr (.inr (.inr g)))))) i = ((∃ (t : Nat) (C : String), (kt dA)[t]? = some (c0, .object C)) ∧ vp_in i nn) := rfl
theorem zr_ag {c0 : ClassId} {nn j : Nat} {g : Nat → Option Nat} : zag (some (.inl (c0, nn, .inr (.inr (.inr (.inr g)))))) j = g j := rfl
theorem zr_rfs {a : Nat} : va_rf (some a) = .ref a := rfl
theorem zr_rfn : va_rf none = .null := rfl
theorem zr_r1 {x : Int32} : zri 1 x = True := rfl
theorem zr_r2 {x : Int32} : zri 2 x = (x = 0 ∨ x = 1) := rfl
theorem zr_40 : zf4 0 = 0 := rfl
theorem zr_41 : zf4 1 = 1 := rfl
theorem zr_42 : zf4 2 = 2 := rfl
theorem zr_43 : zf4 3 = 3 := rfl
end ZR
end
section
/-! CONTRACTS over views, calls, new objects and arrays. -/
def zP (D : va_G) (dA : Nat → ClassId) (z : Nat) (M : zVw) (U : State) : Prop := z ≤ U.heap.size ∧ zhv D kc M U.heap ∧ zhd z M ∧ va_K D kc (kt dA) U ∧ zX dA z U
def zQ (D : va_G) (dA : Nat → ClassId) (z : Nat) (post : Option Value → zVw → Prop) : Array Value → State → Outcome → State → Prop := fun _ st oc t => (∃ (v : Option Value) (M : zVw), oc = .returned v ∧ post v M ∧ zP D dA z M t) ∧ va_F (fun q => z ≤ q) st t
abbrev zR (fr lo mc ms : Nat) : Room := { frames := fr, cells := mc, slots := ms, locals := lo }
/-- the contract of a method: from the view M, with the arguments As, it returns v and leaves a view M' with 'post v M'' -/
def zMet (l : Launch) (y : MethodName) (cc : ByteArray) (maxL : Nat) (ret : Option FieldType) (fr lo mc ms : Nat) (D : va_G) (dA : Nat → ClassId) (z : Nat) (As : List Value) (M : zVw) (post : Option Value → zVw → Prop) : Prop :=
  Met l y (Cond.code y cc maxL ret :: tb) (zR fr lo mc ms) (fun a U => a = As.toArray ∧ zP D dA z M U) (zQ D dA z post) mc ms (fun q => z ≤ q)
def zrt : Nat → Option FieldType → Prop
  | 0, none => True
  | 1, some .int => True
  | 2, some .boolean => True
  | 3, some (.object _) => True
  | 3, some (.array _) => True
  | 4, some .long => True
  | _, _ => False
theorem z_nb {v : Int32} (h : v = 0 ∨ v = 1) : narrow .boolean (.int v) = .int v := by
  rcases h with rfl | rfl
  · decide +kernel
  · decide +kernel
theorem z_ret {p : Program} {l : Launch} {e : Env} {R : Room} {s : State} {m : MethodId} {args : Array Value} {below : List Frame} {meth : Method} {c : Code} {own : String} {cc : ByteArray} {nL z : Nat} {D : va_G} {dA : Nat → ClassId} {ini : Bool} {rt mc ms : Nat} {ret : Option FieldType} {post : Option Value → zVw → Prop}
    (C : zC p s m args meth c own cc nL z D dA ini) (hr : meth.sig.returnType = ret) (hrt : zrt rt ret) :
    zRet rt (zJ p l e R s m args below meth c (MQ below (zQ D dA z post) args s mc ms (fun q => z ≤ q)) nL z D) cc (fun v M k n => k ≤ mc ∧ n ≤ ms ∧ post v M) := by
  have hlocks : meth.locks = false := C.2.2.2.2.2.1
  have fin : ∀ {H : Heap} {locs : List Loc} {M : zVw} {t : State}, zhv D kc M H → zhd z M → va_S (fun q => z ≤ q) s.heap H locs → t.heap = H → s.WarmedH t.vm → zP D dA z M t := by
    intro H locs M t hv hz hS ht hW
    exact ⟨by rw [ht]; exact Nat.le_trans C.2.2.2.2.2.2.2.1 hS.1, by rw [ht]; exact hv, hz, va_K.moved hW.alike C.2.2.2.2.2.2.1, zX_to C.2.2.2.2.2.2.2.2.2 hW hS ht⟩
  refine ⟨?_, ?_, ?_, ?_⟩
  · intro v pc k n loc M hv1 hp hd H locs ls hv hz hS hl
    refine W.widen (k := mc) (n := ms) hp.1 hp.2.1 ?_
    have go : ∀ ty, ret = some ty → narrow ty (.int v) = .int v → W p l e R s m args below meth c H locs mc ms (MQ below (zQ D dA z post) args s mc ms (fun q => z ≤ q)) (F0 m pc ls [.int v]) := by
      intro ty hty hn
      exact W.zret (ty := ty) C.1 C.2.1 (hr.trans hty) hn (fun t ht hW => ⟨⟨_, M, rfl, hp.2.2, fin hv hz hS ht hW⟩, hS.F ht⟩) hS.2.2 hd hlocks
    match rt, ret, hrt, hv1 with
    | 1, some .int, _, _ => exact go .int rfl rfl
    | 2, some .boolean, _, h => exact go .boolean rfl (z_nb h)
  · intro o pc k n loc M h3 hp hd H locs ls hv hz hS hl
    refine W.widen (k := mc) (n := ms) hp.1 hp.2.1 ?_
    have go : ∀ ty, ret = some ty → ((∃ n, ty = .object n) ∨ ∃ t, ty = .array t) → W p l e R s m args below meth c H locs mc ms (MQ below (zQ D dA z post) args s mc ms (fun q => z ≤ q)) (F0 m pc ls [va_rf o]) := by
      intro ty hty hn
      exact W.aret C.1 C.2.1 (hr.trans hty) hn (by cases o with | none => exact Or.inl rfl | some a => exact Or.inr ⟨a, rfl⟩) (fun t ht hW => ⟨⟨_, M, rfl, hp.2.2, fin hv hz hS ht hW⟩, hS.F ht⟩) hS.2.2 hd hlocks
    subst h3
    match ret, hrt with
    | some (.object a), _ => exact go _ rfl (Or.inl ⟨_, rfl⟩)
    | some (.array a), _ => exact go _ rfl (Or.inr ⟨_, rfl⟩)
  · intro pc k n loc M h0 hp hd H locs ls hv hz hS hl
    refine W.widen (k := mc) (n := ms) hp.1 hp.2.1 ?_
    subst h0
    match ret, hrt with
    | none, _ => exact W.vret C.1 C.2.1 hr (fun t ht hW => ⟨⟨_, M, rfl, hp.2.2, fin hv hz hS ht hW⟩, hS.F ht⟩) hS.2.2 hd hlocks
  · intro v pc k n loc M h0 hp hd H locs ls hv hz hS hl
    refine W.widen (k := mc) (n := ms) hp.1 hp.2.1 ?_
    subst h0
    match ret, hrt with
    | some .long, _ => exact W.lret C.1 C.2.1 hr (fun t ht hW => ⟨⟨_, M, rfl, hp.2.2, fin hv hz hS ht hW⟩, hS.F ht⟩) hS.2.2 hd hlocks
/-- a contract out of the walk from its entry -/
theorem z_of {l : Launch} {y : MethodName} {cc : ByteArray} {maxL : Nat} {ret : Option FieldType} {fr lo mc ms : Nat} {D : va_G} {dA : Nat → ClassId} {z : Nat} {As : List Value} {M : zVw} {post : Option Value → zVw → Prop} (rt : Nat) (ini : Bool) (hy : plainName y.cls = true) (hini : ini = true → y.name = "<init>") (hlen : (lg_sl As).length ≤ maxL) (hrt : zrt rt ret)
    (body : ∀ (p : Program) (e : Env) (s : State) (m : MethodId) (args : Array Value) (below : List Frame) (meth : Method) (c : Code), zC p s m args meth c y.cls cc maxL z D dA ini →
      zRet rt (zJ p l e (zR fr lo mc ms) s m args below meth c (MQ below (zQ D dA z post) args s mc ms (fun q => z ≤ q)) maxL z D) cc (fun v M k n => k ≤ mc ∧ n ≤ ms ∧ post v M) →
      zJ p l e (zR fr lo mc ms) s m args below meth c (MQ below (zQ D dA z post) args s mc ms (fun q => z ≤ q)) maxL z D 0 (lv_args 0 As) [] M 0 0) : zMet l y cc maxL ret fr lo mc ms D dA z As M post := by
  refine Met.ofW (cc := cc) (maxL := maxL) (ret := ret) hy rfl ?_
  intro p e s m args below meth c s₁ B hml hv
  obtain ⟨rfl, hz, hv, hd, hK, hX⟩ := hv
  have hts := atoms_spec (ws := Cond.code y cc maxL ret :: tb) B.pre
  have C : zC p s m As.toArray meth c y.cls cc maxL z D dA ini := ⟨B.exec, B.bytes, hml, findClass_of_methodNamed B.named, fun w hw => hts w (List.mem_cons_of_mem _ hw), B.notSynchronized, hK, hz, fun hi => (name_of_methodNamed B.named B.method).1.trans (hini hi), hX⟩
  have hl := lv_entry As (n := maxL) hlen
  rw [lg_entry_eq]
  exact body p e s m As.toArray below meth c C (z_ret C B.returns hrt) s.heap [] _ hv hd va_S.rf hl
section ZCALL
variable {p : Program} {l : Launch} {e : Env} {R : Room} {s : State} {m : MethodId} {args : Array Value} {below : List Frame} {meth : Method} {c : Code} {Q : State → Prop} {own : String} {cc : ByteArray} {nL z : Nat} {D : va_G} {dA : Nat → ClassId} {ini : Bool} {pc k n x : Nat} {loc : List (Nat × Value)} {M : zVw} {st rest As : List Value} {y : MethodName} {cc' : ByteArray} {maxL fr lo mc ms : Nat} {ret : Option FieldType} {post : Option Value → zVw → Prop}
theorem z_good (hc : Cond.code y cc' maxL ret ∈ tb) : GoodIn tb (Cond.code y cc' maxL ret :: tb) := by
  intro w hw
  have hm : w ∈ tb := by
    rcases List.mem_cons.mp hw with rfl | h
    · exact hc
    · exact h
  exact ⟨hm, good_of_word (tb_good w hm)⟩
theorem z_blind : FrameBlind (fun a U => a = As.toArray ∧ zP D dA z M U) := fun a U g mk q => by
  obtain ⟨q0, q1, q2, q3, q4, q5⟩ := q
  exact ⟨q0, q1, q2, q3, va_K.moved (u := U) (U := U.calling g mk a) (Vm.Alike.refl U.vm) q4, zX_same (t := U.calling g mk a) q5 rfl rfl⟩
theorem z_pre {H : Heap} {locs : List Loc} (C : zC p s m args meth c own cc nL z D dA ini) (hv : zhv D kc M H) (hz : zhd z M) (hS : va_S (fun q => z ≤ q) s.heap H locs) : ∀ U : State, U.heap = H → s.WarmedH U.vm → (As.toArray = As.toArray ∧ zP D dA z M U) := fun U hU hW =>
  ⟨rfl, by rw [hU]; exact Nat.le_trans C.2.2.2.2.2.2.2.1 hS.1, by rw [hU]; exact hv, hz, va_K.moved hW.alike C.2.2.2.2.2.2.1, zX_to C.2.2.2.2.2.2.2.2.2 hW hS hU⟩
/-- behind a call -/
theorem z_after {H : Heap} {locs : List Loc} {ls : Array Slot} {a : Array Value} (hr : va_Run p l e R s m args below meth c H locs k n mc ms (F0 m pc ls st) rest (zQ D dA z post a) (fun q => z ≤ q)) (hS : va_S (fun q => z ≤ q) s.heap H locs) (hl : lv_has ls nL loc)
    (kk : ∀ (v : Option Value) (M' : zVw), post v M' → zJ p l e R s m args below meth c Q nL z D (pc + 3) loc (v.toList ++ rest) M' (k + mc) (n + ms)) : W p l e R s m args below meth c H locs k n Q (F0 m pc ls st) := by
  intro T hT X
  obtain ⟨v, st₀, t, T', L, h0, X', hL, e1, e2, ⟨⟨v', M', hv', hpost, hz', hvt, hdt, hKt, hXt⟩, hz1, hk1⟩, stp⟩ := hr T hT X
  cases hv'
  rw [h0] at hz1 hk1
  obtain ⟨t2, a1, b1⟩ := kk v M' hpost T'.heap (locs ++ L) ls (by rw [e1]; exact hvt) hdt ⟨Nat.le_trans hS.1 (by rw [e1]; exact hz1), fun q h1 h2 => by rw [e1, hk1 q (Nat.lt_of_lt_of_le h1 hS.1) h2]; exact hS.2.1 q h1 h2, fun q hq => by
      rcases List.mem_append.mp hq with h | h
      · exact hS.2.2 q h
      · exact hL q h⟩ hl T' rfl X'
  exact ⟨t2, stp t2 a1, b1⟩
/-- what a call's numbers and words are: decided once a call -/
def zcb (own : String) (x : Nat) (y : MethodName) (cc' : ByteArray) (maxL : Nat) (ret : Option FieldType) (na : Nat) : Prop :=
  Cond.code y cc' maxL ret ∈ tb ∧ Cond.initialized y.cls ∈ tb ∧ Cond.methodLink own x y ∈ tb ∧ y.cls ≠ "java/lang/invoke/MethodHandle" ∧ y.cls ≠ "java/lang/invoke/VarHandle" ∧ (parseMethodDescriptor y.desc).map (fun d => d.parameters.length) = some na
theorem z_cb {na : Nat} (C : zC p s m args meth c own cc nL z D dA ini) (h : zcb own x y cc' maxL ret na) (hroom : fr + 1 ≤ R.frames ∧ 8 + (maxL + 11) + lo ≤ R.locals) : CallB R s args own x y cc' maxL ret (Cond.code y cc' maxL ret :: tb) (zR fr lo mc ms) mc ms na :=
  callB_of na C.2.2.2.2.1 (z_good h.1) rfl rfl rfl (C.2.2.2.2.1 _ h.2.1) (C.2.2.2.2.1 _ h.2.2.1) h.2.2.2 hroom
theorem zJ_callV {b ci : Nat} {fs : List Value} {r : vw_C} (C : zC p s m args meth c own cc nL z D dA ini) (hd : decode cc pc = .ok (.invokevirtual x, 3)) (hm : zMet l y cc' maxL ret fr lo mc ms D dA z (.ref b :: As) M post) (hw : zcb own x y cc' maxL ret As.length) (hi : Cond.instanceMethod y ∈ tb) (hs : Cond.selects y.cls y y ∈ tb)
    (hb : M b = some (.inr (ci, fs))) (hc : kc[ci]? = some r) (hry : r.1 = y.cls) (hroom : fr + 1 ≤ R.frames ∧ 8 + (maxL + 11) + lo ≤ R.locals) (hcs : k + mc ≤ R.cells ∧ n + ms ≤ R.slots) (hst : st = As.reverse ++ .ref b :: rest) (hcat : (rest.map fun v => v.category).sum ≤ 8)
    (kk : ∀ (v : Option Value) (M' : zVw), post v M' → zJ p l e R s m args below meth c Q nL z D (pc + 3) loc (v.toList ++ rest) M' (k + mc) (n + ms)) : zJ p l e R s m args below meth c Q nL z D pc loc st M k n := by
  intro H locs ls hv hz hS hl
  obtain ⟨ws, hP, hD, hin, -⟩ := zv_ws hv hz
  obtain ⟨j, hj⟩ := hin b _ hb
  have hrec := va_recv C.2.2.2.2.2.2.1 hP hc hj
  rw [hry] at hrec
  exact z_after (va_runV (As := As) (rest := rest) ⟨C.1, C.2.1, C.2.2.1, C.2.2.2.1, C.2.2.2.2.1⟩ hm ⟨z_cb C hw hroom, C.2.2.2.2.1 _ hi, C.2.2.2.2.1 _ hs⟩ ⟨z_blind, hrec, z_pre C hv hz hS⟩ rfl rfl hl.1 hst (lv_room hcat) hd hcs) hS hl kk
theorem zJ_callS (C : zC p s m args meth c own cc nL z D dA ini) (hd : decode cc pc = .ok (.invokestatic x, 3)) (hm : zMet l y cc' maxL ret fr lo mc ms D dA z As M post) (hw : zcb own x y cc' maxL ret As.length) (hi : Cond.static y ∈ tb)
    (hroom : fr + 1 ≤ R.frames ∧ 8 + (maxL + 11) + lo ≤ R.locals) (hcs : k + mc ≤ R.cells ∧ n + ms ≤ R.slots) (hst : st = As.reverse ++ rest) (hcat : (rest.map fun v => v.category).sum ≤ 8)
    (kk : ∀ (v : Option Value) (M' : zVw), post v M' → zJ p l e R s m args below meth c Q nL z D (pc + 3) loc (v.toList ++ rest) M' (k + mc) (n + ms)) : zJ p l e R s m args below meth c Q nL z D pc loc st M k n := by
  intro H locs ls hv hz hS hl
  exact z_after (va_runS (As := As) (rest := rest) ⟨C.1, C.2.1, C.2.2.1, C.2.2.2.1, C.2.2.2.2.1⟩ hm ⟨z_cb C hw hroom, C.2.2.2.2.1 _ hi⟩ ⟨z_blind, z_pre C hv hz hS⟩ rfl rfl hl.1 hst (lv_room hcat) hd hcs) hS hl kk
theorem zJ_callI {b : Nat} (C : zC p s m args meth c own cc nL z D dA ini) (hd : decode cc pc = .ok (.invokespecial x, 3)) (hm : zMet l y cc' maxL none fr lo mc ms D dA z (.ref b :: As) M post) (hw : zcb own x y cc' maxL none As.length) (hi : Cond.instanceMethod y ∈ tb) (hn : y.name = "<init>")
    (hroom : fr + 1 ≤ R.frames ∧ 8 + (maxL + 11) + lo ≤ R.locals) (hcs : k + mc ≤ R.cells ∧ n + ms ≤ R.slots) (hst : st = As.reverse ++ .ref b :: rest) (hcat : (rest.map fun v => v.category).sum ≤ 8)
    (kk : ∀ (v : Option Value) (M' : zVw), post v M' → zJ p l e R s m args below meth c Q nL z D (pc + 3) loc (v.toList ++ rest) M' (k + mc) (n + ms)) : zJ p l e R s m args below meth c Q nL z D pc loc st M k n := by
  intro H locs ls hv hz hS hl
  exact z_after (va_runI (As := As) (rest := rest) ⟨C.1, C.2.1, C.2.2.1, C.2.2.2.1, C.2.2.2.2.1⟩ hm ⟨z_cb C hw hroom, hn, C.2.2.2.2.1 _ hi⟩ ⟨z_blind, z_pre C hv hz hS⟩ rfl rfl hl.1 hst (lv_room hcat) hd hcs) hS hl kk
/-- the same of a private method of a nest mate -/
def zcn (own : String) (x : Nat) (y : MethodName) (host : String) (cc' : ByteArray) (maxL : Nat) (ret : Option FieldType) (na : Nat) : Prop :=
  Cond.code y cc' maxL ret ∈ tb ∧ Cond.initialized y.cls ∈ tb ∧ Cond.methodLinkNest own x y host ∈ tx ∧ y.cls ≠ "java/lang/invoke/MethodHandle" ∧ y.cls ≠ "java/lang/invoke/VarHandle" ∧ (parseMethodDescriptor y.desc).map (fun d => d.parameters.length) = some na
theorem z_cn {na : Nat} {host : String} (C : zC p s m args meth c own cc nL z D dA ini) (h : zcn own x y host cc' maxL ret na) (hroom : fr + 1 ≤ R.frames ∧ 8 + (maxL + 11) + lo ≤ R.locals) : va_CN R s args own x y host cc' maxL ret (Cond.code y cc' maxL ret :: tb) (zR fr lo mc ms) mc ms na :=
  va_cnB na C.2.2.2.2.1 (z_good h.1) rfl rfl rfl (C.2.2.2.2.2.2.2.2.2.2.2.2.1 _ h.2.2.1) (C.2.2.2.2.1 _ h.2.1) h.2.2.2 hroom
theorem zJ_callIN {b : Nat} {host : String} (C : zC p s m args meth c own cc nL z D dA ini) (hd : decode cc pc = .ok (.invokespecial x, 3)) (hm : zMet l y cc' maxL none fr lo mc ms D dA z (.ref b :: As) M post) (hw : zcn own x y host cc' maxL none As.length) (hi : Cond.instanceMethod y ∈ tb) (hn : y.name = "<init>")
    (hroom : fr + 1 ≤ R.frames ∧ 8 + (maxL + 11) + lo ≤ R.locals) (hcs : k + mc ≤ R.cells ∧ n + ms ≤ R.slots) (hst : st = As.reverse ++ .ref b :: rest) (hcat : (rest.map fun v => v.category).sum ≤ 8)
    (kk : ∀ (v : Option Value) (M' : zVw), post v M' → zJ p l e R s m args below meth c Q nL z D (pc + 3) loc (v.toList ++ rest) M' (k + mc) (n + ms)) : zJ p l e R s m args below meth c Q nL z D pc loc st M k n := by
  intro H locs ls hv hz hS hl
  exact z_after (va_runIN (As := As) (rest := rest) ⟨C.1, C.2.1, C.2.2.1, C.2.2.2.1, C.2.2.2.2.1⟩ hm ⟨z_cn C hw hroom, hn, C.2.2.2.2.1 _ hi⟩ ⟨z_blind, z_pre C hv hz hS⟩ rfl rfl hl.1 hst (lv_room hcat) hd hcs) hS hl kk
/-- Object's constructor -/
theorem zJ_obj {a : Nat} (C : zC p s m args meth c own cc nL z D dA ini) (hd : decode cc pc = .ok (.invokespecial x, 3)) (h1 : Cond.methodLink own x objectInit ∈ tb) (h2 : Cond.instanceMethod objectInit ∈ tb) (h3 : Cond.code objectInit ⟨#[0xb1]⟩ 1 none ∈ tb) (hf : 1 ≤ R.frames) (hlo : (rest.map fun v => v.category).sum + 12 ≤ R.locals)
    (kk : zJ p l e R s m args below meth c Q nL z D (pc + 3) loc rest M k n) : zJ p l e R s m args below meth c Q nL z D pc loc (.ref a :: rest) M k n := by
  intro H locs ls hv hz hS hl
  refine W.objInit C.1 C.2.1 C.2.2.2.1 (C.2.2.2.2.1 _ h1) (C.2.2.2.2.1 _ h2) (C.2.2.2.2.1 _ h3) rfl (by rw [C.2.2.1]; exact hl.1) rfl hd hf ?_ (W.eq (g2 := F0 m (pc + 3) ls rest) rfl (kk H locs ls hv hz hS hl))
  show 2 * 0 + _ + 12 ≤ _
  omega
/-- a class of the list: its words and fields -/
def zcl (ci : Nat) (r : vw_C) (ty : Nat → FieldType) : Prop := kc[ci]? = some r ∧ (∀ w ∈ u_ws r.1 r.2.1 r.2.2, w ∈ tb) ∧ (∀ j, j < r.2.2 → parseFieldDescriptor (r.2.1 j).2.2.1 = some (ty j)) ∧ Cond.instantiable r.1 r.2.2 ∈ tb ∧ Cond.initialized r.1 ∈ tb
theorem zJ_new {ci : Nat} {r : vw_C} {ty : Nat → FieldType} (fs : List Value) (C : zC p s m args meth c own cc nL z D dA ini) (hc : zcl ci r ty) (hd : decode cc pc = .ok (.new x, 3)) (hl0 : Cond.classLink own x r.1 ∈ tb) (hfs : ∀ j, j < r.2.2 → defaultValue (ty j) = vp_V fs j) (hcs : k + 1 ≤ R.cells ∧ n + r.2.2 ≤ R.slots)
    (kk : ∀ q : Nat, M q = none → z ≤ q → zJ p l e R s m args below meth c Q nL z D (pc + 3) loc (.ref q :: st) (zu M q (.inr (ci, fs))) (k + 1) (n + r.2.2)) : zJ p l e R s m args below meth c Q nL z D pc loc st M k n := by
  intro H locs ls hv hz hS hl
  obtain ⟨ws, hP, hD, hin, hset, hpush, hfr, -⟩ := zv_ws hv hz
  refine va_new (ci := ci) (fs := fs) (C := r.1) (T := r.2.1) (N := r.2.2) C.1 C.2.1 C.2.2.2.2.1 hc.2.1 ty hc.2.2.1 C.2.2.2.1 (C.2.2.2.2.1 _ hl0) (C.2.2.2.2.1 _ hc.2.2.2.1) (C.2.2.2.2.1 _ hc.2.2.2.2) C.2.2.2.2.2.2.1 hP hD hS (fun q h => Nat.le_trans C.2.2.2.2.2.2.2.1 h) hc.1 hfs hcs.1 hcs.2 hd (fun q H1 hP1 hD1 hS1 => ?_)
  obtain ⟨h1, h2⟩ := hfr q _ hD1
  exact kk q h1 h2 H1 locs ls (hpush q _ H1 hP1) (zhd_u hz h2) hS1 hl
/-- a new array of ints -/
theorem zJ_newI {i : Int32} {N : Nat} (C : zC p s m args meth c own cc nL z D dA ini) (hd : decode cc pc = .ok (.newarray .int, 2)) (hw : Cond.arrayClass .int ∈ tb) (hi : i = nI N) (hN : N < 1000000) (hcs : k + 1 ≤ R.cells ∧ n + N ≤ R.slots)
    (kk : ∀ q : Nat, M q = none → z ≤ q → zJ p l e R s m args below meth c Q nL z D (pc + 2) loc (.ref q :: rest) (zu M q (.inl (dA 0, N, .inl (fun _ => 0)))) (k + 1) (n + N)) : zJ p l e R s m args below meth c Q nL z D pc loc (.int i :: rest) M k n := by
  intro H locs ls hv hz hS hl
  subst hi
  obtain ⟨ws, hP, hD, hin, hset, hpush, hfr, -⟩ := zv_ws hv hz
  refine va_newa (atype := .int) (ty := .int) (a0 := (N, .inl (fun _ => 0))) (N' := N) C.1 C.2.1 (C.2.2.2.2.1 _ hw) rfl C.2.2.2.2.2.2.1 hP hD hS (fun q h => Nat.le_trans C.2.2.2.2.2.2.2.1 h) (fun cA => rfl) (nI_pos (by omega)) (nI_clamp (by omega)) (by show N * 4 ≤ _; omega) hcs.1 hcs.2 hd (fun q cA H1 hK1 hP1 hD1 hS1 => ?_)
  obtain ⟨h1, h2⟩ := hfr q _ hD1
  have e1 : cA = dA 0 := by
    have a1 : s.vm.findClass ("[" ++ FieldType.int.toString) = some cA := (hK1.2 (kt dA).length (cA, .int) (by rw [List.getElem?_append_right (Nat.le_refl _), Nat.sub_self]; rfl)).2
    have a2 : s.vm.findClass ("[" ++ FieldType.int.toString) = some (dA 0) := (C.2.2.2.2.2.2.1.2 0 (dA 0, .int) rfl).2
    exact Option.some.inj (a1.symm.trans a2)
  subst e1
  exact kk q h1 h2 H1 locs ls (hpush q _ H1 hP1) (zhd_u hz h2) hS1 hl
/-- a new array of longs -/
theorem zJ_newL {i : Int32} {N : Nat} (C : zC p s m args meth c own cc nL z D dA ini) (hd : decode cc pc = .ok (.newarray .long, 2)) (hw : Cond.arrayClass .long ∈ tb) (hi : i = nI N) (hN : N < 1000000) (hcs : k + 1 ≤ R.cells ∧ n + N ≤ R.slots)
    (kk : ∀ q : Nat, M q = none → z ≤ q → zJ p l e R s m args below meth c Q nL z D (pc + 2) loc (.ref q :: rest) (zu M q (.inl (dA 3, N, .inr (.inl (fun _ => 0))))) (k + 1) (n + N)) : zJ p l e R s m args below meth c Q nL z D pc loc (.int i :: rest) M k n := by
  intro H locs ls hv hz hS hl
  subst hi
  obtain ⟨ws, hP, hD, hin, hset, hpush, hfr, -⟩ := zv_ws hv hz
  refine va_newa (atype := .long) (ty := .long) (a0 := (N, .inr (.inl (fun _ => 0)))) (N' := N) C.1 C.2.1 (C.2.2.2.2.1 _ hw) rfl C.2.2.2.2.2.2.1 hP hD hS (fun q h => Nat.le_trans C.2.2.2.2.2.2.2.1 h) (fun cA => rfl) (nI_pos (by omega)) (nI_clamp (by omega)) (by show N * 8 ≤ _; omega) hcs.1 hcs.2 hd (fun q cA H1 hK1 hP1 hD1 hS1 => ?_)
  obtain ⟨h1, h2⟩ := hfr q _ hD1
  have e1 : cA = dA 3 := by
    have a1 : s.vm.findClass ("[" ++ FieldType.long.toString) = some cA := (hK1.2 (kt dA).length (cA, .long) (by rw [List.getElem?_append_right (Nat.le_refl _), Nat.sub_self]; rfl)).2
    have a2 : s.vm.findClass ("[" ++ FieldType.long.toString) = some (dA 3) := (C.2.2.2.2.2.2.1.2 3 (dA 3, .long) rfl).2
    exact Option.some.inj (a1.symm.trans a2)
  subst e1
  exact kk q h1 h2 H1 locs ls (hpush q _ H1 hP1) (zhd_u hz h2) hS1 hl
/-- a new array of booleans -/
theorem zJ_newZ {i : Int32} {N : Nat} (C : zC p s m args meth c own cc nL z D dA ini) (hd : decode cc pc = .ok (.newarray .boolean, 2)) (hw : Cond.arrayClass .boolean ∈ tb) (hi : i = nI N) (hN : N < 1000000) (hcs : k + 1 ≤ R.cells ∧ n + N ≤ R.slots)
    (kk : ∀ q : Nat, M q = none → z ≤ q → zJ p l e R s m args below meth c Q nL z D (pc + 2) loc (.ref q :: rest) (zu M q (.inl (dA 4, N, .inl (fun _ => 0)))) (k + 1) (n + N)) : zJ p l e R s m args below meth c Q nL z D pc loc (.int i :: rest) M k n := by
  intro H locs ls hv hz hS hl
  subst hi
  obtain ⟨ws, hP, hD, hin, hset, hpush, hfr, -⟩ := zv_ws hv hz
  refine va_newa (atype := .boolean) (ty := .boolean) (a0 := (N, .inl (fun _ => 0))) (N' := N) C.1 C.2.1 (C.2.2.2.2.1 _ hw) rfl C.2.2.2.2.2.2.1 hP hD hS (fun q h => Nat.le_trans C.2.2.2.2.2.2.2.1 h) (fun cA => rfl) (nI_pos (by omega)) (nI_clamp (by omega)) (by show N * 1 ≤ _; omega) hcs.1 hcs.2 hd (fun q cA H1 hK1 hP1 hD1 hS1 => ?_)
  obtain ⟨h1, h2⟩ := hfr q _ hD1
  have e1 : cA = dA 4 := by
    have a1 : s.vm.findClass ("[" ++ FieldType.boolean.toString) = some cA := (hK1.2 (kt dA).length (cA, .boolean) (by rw [List.getElem?_append_right (Nat.le_refl _), Nat.sub_self]; rfl)).2
    have a2 : s.vm.findClass ("[" ++ FieldType.boolean.toString) = some (dA 4) := (C.2.2.2.2.2.2.1.2 4 (dA 4, .boolean) rfl).2
    exact Option.some.inj (a1.symm.trans a2)
  subst e1
  exact kk q h1 h2 H1 locs ls (hpush q _ H1 hP1) (zhd_u hz h2) hS1 hl
/-- a new array of references -/
theorem zJ_newQ {i : Int32} {N t : Nat} {C0 : String} (C : zC p s m args meth c own cc nL z D dA ini) (hd : decode cc pc = .ok (.anewarray x, 3)) (hw : Cond.classLink own x C0 ∈ tb) (hw2 : va_AO C0 s) (ht : (kt dA)[t]? = some (dA t, .object C0)) (hi : i = nI N) (hN : N < 1000000) (hcs : k + 1 ≤ R.cells ∧ n + N ≤ R.slots)
    (kk : ∀ q : Nat, M q = none → z ≤ q → zJ p l e R s m args below meth c Q nL z D (pc + 3) loc (.ref q :: rest) (zu M q (.inl (dA t, N, .inr (.inr (.inr (.inr (fun _ => none))))))) (k + 1) (n + N)) : zJ p l e R s m args below meth c Q nL z D pc loc (.int i :: rest) M k n := by
  intro H locs ls hv hz hS hl
  subst hi
  obtain ⟨ws, hP, hD, hin, hset, hpush, hfr, -⟩ := zv_ws hv hz
  refine va_newq (C := C0) (N' := N) C.1 C.2.1 C.2.2.2.1 (C.2.2.2.2.1 _ hw) hw2 C.2.2.2.2.2.2.1 hP hD hS (fun q h => Nat.le_trans C.2.2.2.2.2.2.2.1 h) (nI_pos (by omega)) (nI_clamp (by omega)) (by omega) hcs.1 hcs.2 hd (fun q cA H1 hK1 hP1 hD1 hS1 => ?_)
  obtain ⟨h1, h2⟩ := hfr q _ hD1
  have e1 : cA = dA t := by
    obtain ⟨_, _, _, _, _, a1⟩ := (hK1.2 (kt dA).length (cA, .object C0) (by rw [List.getElem?_append_right (Nat.le_refl _), Nat.sub_self]; rfl)).2
    obtain ⟨_, _, _, _, _, a2⟩ := (C.2.2.2.2.2.2.1.2 t (dA t, .object C0) ht).2
    exact Option.some.inj (a1.symm.trans a2)
  subst e1
  exact kk q h1 h2 H1 locs ls (hpush q _ H1 hP1) (zhd_u hz h2) hS1 hl
/-- a cast of an object of the list's class -/
theorem zJ_cast {a ci : Nat} {fs : List Value} {r : vw_C} {nm : String} (C : zC p s m args meth c own cc nL z D dA ini) (hd : decode cc pc = .ok (.checkcast x, 3)) (hw : Cond.classLink own x nm ∈ tb) (hc : kc[ci]? = some r) (hn : r.1 = nm) (ha : M a = some (.inr (ci, fs)))
    (kk : zJ p l e R s m args below meth c Q nL z D (pc + 3) loc (.ref a :: rest) M k n) : zJ p l e R s m args below meth c Q nL z D pc loc (.ref a :: rest) M k n := by
  intro H locs ls hv hz hS hl
  obtain ⟨ws, hP, hD, hin, -⟩ := zv_ws hv hz
  obtain ⟨j, hj⟩ := hin a _ ha
  have hrec := va_recv C.2.2.2.2.2.2.1 hP hc hj
  subst hn
  exact va_castS C.1 C.2.1 C.2.2.2.1 (C.2.2.2.2.1 _ hw) (C.2.2.2.2.2.2.1.1 ci r hc).2 hrec hd (kk H locs ls hv hz hS hl)
/-- a store of an object into an array of its own class, or of Object -/
theorem zJ_aast {a v t nn ci : Nat} {i : Int32} {g : Nat → Option Nat} {cA : ClassId} {fs : List Value} {r : vw_C} {E : String} (C : zC p s m args meth c own cc nL z D dA ini) (hd : decode cc pc = .ok (.aastore, 1)) (ha : M a = some (.inl (cA, nn, .inr (.inr (.inr (.inr g)))))) (ht : (kt dA)[t]? = some (cA, .object E)) (hv0 : M v = some (.inr (ci, fs))) (hc : kc[ci]? = some r) (hE : r.1 = E ∨ Cond.castable r.1 E ∈ tx) (hi : vp_in i nn)
    (kk : zJ p l e R s m args below meth c Q nL z D (pc + 1) loc rest (zu M a (.inl (cA, nn, .inr (.inr (.inr (.inr (va_up g i.toNatClampNeg (some v)))))))) k n) : zJ p l e R s m args below meth c Q nL z D pc loc (.ref v :: .int i :: .ref a :: rest) M k n := by
  intro H locs ls hv hz hS hl
  obtain ⟨ws, hP, hD, hin, hset, -⟩ := zv_ws hv hz
  obtain ⟨j, hj⟩ := hin a _ ha
  obtain ⟨j2, hj2⟩ := hin v _ hv0
  rcases hE with hE | hE
  · subst hE
    exact va_astq C.1 C.2.1 C.2.2.2.2.2.2.1 hP hD hS j t j2 ci hj ht hj2 hc hi hd (fun H1 locs1 hP1 hD1 hS1 => kk H1 locs1 ls (hset j a _ _ H1 hj hP1) (zhd_u hz (hz a _ ha)) hS1 hl)
  · exact va_astqO C.1 C.2.1 C.2.2.2.2.2.2.1 hP hD hS j t j2 ci hj ht (C.2.2.2.2.2.2.2.2.2.2.2.2.1 _ hE) hj2 hc hi hd (fun H1 locs1 hP1 hD1 hS1 => kk H1 locs1 ls (hset j a _ _ H1 hj hP1) (zhd_u hz (hz a _ ha)) hS1 hl)
/-- fewer locals, in any order; another count of cells -/
theorem zJ_loc {loc' : List (Nat × Value)} (h : ∀ q ∈ loc', q ∈ loc) (kk : zJ p l e R s m args below meth c Q nL z D pc loc' st M k n) : zJ p l e R s m args below meth c Q nL z D pc loc st M k n :=
  fun H locs ls hv hz hS hl => kk H locs ls hv hz hS ⟨hl.1, hl.2.1, fun q hq => hl.2.2 q (h q hq)⟩
theorem zJ_wide {k' n' : Nat} (h1 : k ≤ k') (h2 : n ≤ n') (kk : zJ p l e R s m args below meth c Q nL z D pc loc st M k' n') : zJ p l e R s m args below meth c Q nL z D pc loc st M k n :=
  fun H locs ls hv hz hS hl => W.widen h1 h2 (kk H locs ls hv hz hS hl)
end ZCALL
end
