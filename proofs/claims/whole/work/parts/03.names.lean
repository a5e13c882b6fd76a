def RXT : String := "MeldTree"
def RXN : String := "MeldTree$Node"
def RXM : String := "MeldTreeModel"
def RXL : String := "MeldTreeLaw"
def RXA : String := "java/util/ArrayList"
def RXB : String := "java/util/AbstractList"
def RXC : String := "java/util/AbstractCollection"
def RXR : String := "java/util/Arrays"
def RXS : String := "jdk/internal/util/ArraysSupport"
def RXO : String := "java/util/Objects"
def RXP : String := "jdk/internal/util/Preconditions"
def TXT : u_T := fun k => match k with
  | 0 => ("MeldTree", "roots", "[LMeldTree$Node;", true)
  | 1 => ("MeldTree", "nodes", "Ljava/util/ArrayList;", true)
  | _ => ("MeldTree", "count", "I", false)
def tyXT : Nat → FieldType := fun k => match k with
  | 0 => .array (.object "MeldTree$Node")
  | 1 => .object "java/util/ArrayList"
  | _ => .int
theorem nmXT : ∀ a, a < 3 → ∀ b, b < 3 → a ≠ b → (TXT a).2.1 ≠ (TXT b).2.1 := by decide +kernel
theorem tyXT_ok : ∀ k, k < 3 → parseFieldDescriptor (TXT k).2.2.1 = some (tyXT k) := by decide +kernel
def TXN : u_T := fun k => match k with
  | 0 => ("MeldTree$Node", "height", "I", true)
  | 1 => ("MeldTree$Node", "first", "I", true)
  | 2 => ("MeldTree$Node", "low", "LMeldTree$Node;", true)
  | 3 => ("MeldTree$Node", "high", "LMeldTree$Node;", true)
  | 4 => ("MeldTree$Node", "value", "I", true)
  | 5 => ("MeldTree$Node", "size", "I", true)
  | _ => ("MeldTree$Node", "total", "J", true)
def tyXN : Nat → FieldType := fun k => match k with
  | 0 => .int
  | 1 => .int
  | 2 => .object "MeldTree$Node"
  | 3 => .object "MeldTree$Node"
  | 4 => .int
  | 5 => .int
  | _ => .long
theorem nmXN : ∀ a, a < 7 → ∀ b, b < 7 → a ≠ b → (TXN a).2.1 ≠ (TXN b).2.1 := by decide +kernel
theorem tyXN_ok : ∀ k, k < 7 → parseFieldDescriptor (TXN k).2.2.1 = some (tyXN k) := by decide +kernel
def TXM : u_T := fun k => match k with
  | 0 => ("MeldTreeModel", "value", "[I", true)
  | 1 => ("MeldTreeModel", "has", "[Z", true)
  | 2 => ("MeldTreeModel", "versions", "I", false)
  | _ => ("MeldTreeModel", "thrown", "I", false)
def tyXM : Nat → FieldType := fun k => match k with
  | 0 => .array .int
  | 1 => .array .boolean
  | 2 => .int
  | _ => .int
theorem nmXM : ∀ a, a < 4 → ∀ b, b < 4 → a ≠ b → (TXM a).2.1 ≠ (TXM b).2.1 := by decide +kernel
theorem tyXM_ok : ∀ k, k < 4 → parseFieldDescriptor (TXM k).2.2.1 = some (tyXM k) := by decide +kernel
def TXA : u_T := fun k => match k with
  | 0 => ("java/util/AbstractList", "modCount", "I", false)
  | 1 => ("java/util/ArrayList", "elementData", "[Ljava/lang/Object;", false)
  | _ => ("java/util/ArrayList", "size", "I", false)
def tyXA : Nat → FieldType := fun k => match k with
  | 0 => .int
  | 1 => .array (.object "java/lang/Object")
  | _ => .int
theorem nmXA : ∀ a, a < 3 → ∀ b, b < 3 → a ≠ b → (TXA a).2.1 ≠ (TXA b).2.1 := by decide +kernel
theorem tyXA_ok : ∀ k, k < 3 → parseFieldDescriptor (TXA k).2.2.1 = some (tyXA k) := by decide +kernel
abbrev cXT_init : ByteArray := prog_1_method_1_code
def yXT_init : MethodName := ⟨RXT, "<init>", "()V"⟩
abbrev cXA_init : ByteArray := prog_18_method_2_code
def yXA_init : MethodName := ⟨RXA, "<init>", "()V"⟩
abbrev cXB_init : ByteArray := prog_17_method_1_code
def yXB_init : MethodName := ⟨RXB, "<init>", "()V"⟩
abbrev cXC_init : ByteArray := prog_16_method_1_code
def yXC_init : MethodName := ⟨RXC, "<init>", "()V"⟩
abbrev cXT_versions : ByteArray := prog_1_method_11_code
def yXT_versions : MethodName := ⟨RXT, "versions", "()I"⟩
abbrev cXT_check : ByteArray := prog_1_method_12_code
def yXT_check : MethodName := ⟨RXT, "check", "()I"⟩
abbrev cXT_isAt : ByteArray := prog_1_method_25_code
def yXT_isAt : MethodName := ⟨RXT, "isAt", "(LMeldTree$Node;II)Z"⟩
abbrev cXA_size : ByteArray := prog_18_method_8_code
def yXA_size : MethodName := ⟨RXA, "size", "()I"⟩
abbrev cXA_get : ByteArray := prog_18_method_20_code
def yXA_get : MethodName := ⟨RXA, "get", "(I)Ljava/lang/Object;"⟩
abbrev cXO_checkIndex : ByteArray := prog_23_method_17_code
def yXO_checkIndex : MethodName := ⟨RXO, "checkIndex", "(II)I"⟩
abbrev cXP_checkIndex : ByteArray := prog_27_method_11_code
def yXP_checkIndex : MethodName := ⟨RXP, "checkIndex", "(IILjava/util/function/BiFunction;)I"⟩
abbrev cXA_elementData : ByteArray := prog_18_method_18_code
def yXA_elementData : MethodName := ⟨RXA, "elementData", "(I)Ljava/lang/Object;"⟩
abbrev cXT_faultsOf : ByteArray := prog_1_method_26_code
def yXT_faultsOf : MethodName := ⟨RXT, "faultsOf", "(LMeldTree$Node;)I"⟩
abbrev cXT_faultsOfLeaf : ByteArray := prog_1_method_27_code
def yXT_faultsOfLeaf : MethodName := ⟨RXT, "faultsOfLeaf", "(LMeldTree$Node;)I"⟩
abbrev cXT_faultsOfFork : ByteArray := prog_1_method_28_code
def yXT_faultsOfFork : MethodName := ⟨RXT, "faultsOfFork", "(LMeldTree$Node;)I"⟩
abbrev cXT_sizeOf : ByteArray := prog_1_method_31_code
def yXT_sizeOf : MethodName := ⟨RXT, "sizeOf", "(LMeldTree$Node;)I"⟩
abbrev cXT_totalOf : ByteArray := prog_1_method_32_code
def yXT_totalOf : MethodName := ⟨RXT, "totalOf", "(LMeldTree$Node;)J"⟩
abbrev cXL_put : ByteArray := method_3_code
def yXL_put : MethodName := ⟨RXL, "put", "(LMeldTree;III[J)I"⟩
abbrev cXT_put : ByteArray := prog_1_method_2_code
def yXT_put : MethodName := ⟨RXT, "put", "(III)I"⟩
abbrev cXT_needVersion : ByteArray := prog_1_method_13_code
def yXT_needVersion : MethodName := ⟨RXT, "needVersion", "(I)V"⟩
abbrev cXT_needKey : ByteArray := prog_1_method_14_code
def yXT_needKey : MethodName := ⟨RXT, "needKey", "(I)V"⟩
abbrev cXT_needRoom : ByteArray := prog_1_method_15_code
def yXT_needRoom : MethodName := ⟨RXT, "needRoom", "()V"⟩
abbrev cXN_init : ByteArray := prog_2_method_1_code
def yXN_init : MethodName := ⟨RXN, "<init>", "(II)V"⟩
abbrev cXA_add : ByteArray := prog_18_method_25_code
def yXA_add : MethodName := ⟨RXA, "add", "(Ljava/lang/Object;)Z"⟩
abbrev cXA_add_2 : ByteArray := prog_18_method_24_code
def yXA_add_2 : MethodName := ⟨RXA, "add", "(Ljava/lang/Object;[Ljava/lang/Object;I)V"⟩
abbrev cXA_grow : ByteArray := prog_18_method_7_code
def yXA_grow : MethodName := ⟨RXA, "grow", "()[Ljava/lang/Object;"⟩
abbrev cXA_grow_2 : ByteArray := prog_18_method_6_code
def yXA_grow_2 : MethodName := ⟨RXA, "grow", "(I)[Ljava/lang/Object;"⟩
abbrev cXS_newLength : ByteArray := prog_26_method_27_code
def yXS_newLength : MethodName := ⟨RXS, "newLength", "(III)I"⟩
abbrev cXS_hugeLength : ByteArray := prog_26_method_28_code
def yXS_hugeLength : MethodName := ⟨RXS, "hugeLength", "(II)I"⟩
abbrev cXR_copyOf : ByteArray := prog_19_method_119_code
def yXR_copyOf : MethodName := ⟨RXR, "copyOf", "([Ljava/lang/Object;I)[Ljava/lang/Object;"⟩
abbrev cXR_copyOf_2 : ByteArray := prog_19_method_120_code
def yXR_copyOf_2 : MethodName := ⟨RXR, "copyOf", "([Ljava/lang/Object;ILjava/lang/Class;)[Ljava/lang/Object;"⟩
abbrev cXT_meld : ByteArray := prog_1_method_17_code
def yXT_meld : MethodName := ⟨RXT, "meld", "(LMeldTree$Node;LMeldTree$Node;IILMeldTree$Node;Ljava/util/ArrayList;)LMeldTree$Node;"⟩
abbrev cXT_goesHigh : ByteArray := prog_1_method_18_code
def yXT_goesHigh : MethodName := ⟨RXT, "goesHigh", "(II)Z"⟩
abbrev cXT_lowOf : ByteArray := prog_1_method_29_code
def yXT_lowOf : MethodName := ⟨RXT, "lowOf", "(LMeldTree$Node;)LMeldTree$Node;"⟩
abbrev cXT_highOf : ByteArray := prog_1_method_30_code
def yXT_highOf : MethodName := ⟨RXT, "highOf", "(LMeldTree$Node;)LMeldTree$Node;"⟩
abbrev cXN_init_2 : ByteArray := prog_2_method_2_code
def yXN_init_2 : MethodName := ⟨RXN, "<init>", "(IILMeldTree$Node;LMeldTree$Node;)V"⟩
abbrev cXT_keep : ByteArray := prog_1_method_16_code
def yXT_keep : MethodName := ⟨RXT, "keep", "(LMeldTree$Node;)I"⟩
abbrev cXL_remove : ByteArray := method_4_code
def yXL_remove : MethodName := ⟨RXL, "remove", "(LMeldTree;II[J)I"⟩
abbrev cXT_remove : ByteArray := prog_1_method_3_code
def yXT_remove : MethodName := ⟨RXT, "remove", "(II)I"⟩
abbrev cXT_leafAt : ByteArray := prog_1_method_19_code
def yXT_leafAt : MethodName := ⟨RXT, "leafAt", "(LMeldTree$Node;I)LMeldTree$Node;"⟩
abbrev cXL_join : ByteArray := method_5_code
def yXL_join : MethodName := ⟨RXL, "join", "(LMeldTree;III[J)I"⟩
abbrev cXT_join : ByteArray := prog_1_method_4_code
def yXT_join : MethodName := ⟨RXT, "join", "(III)I"⟩
abbrev cXL_get : ByteArray := method_6_code
def yXL_get : MethodName := ⟨RXL, "get", "(LMeldTree;II[J)I"⟩
abbrev cXT_get : ByteArray := prog_1_method_5_code
def yXT_get : MethodName := ⟨RXT, "get", "(II)I"⟩
abbrev cXL_select : ByteArray := method_7_code
def yXL_select : MethodName := ⟨RXL, "select", "(LMeldTree;II[J)I"⟩
abbrev cXT_select : ByteArray := prog_1_method_6_code
def yXT_select : MethodName := ⟨RXT, "select", "(II)I"⟩
abbrev cXT_keyAt : ByteArray := prog_1_method_20_code
def yXT_keyAt : MethodName := ⟨RXT, "keyAt", "(LMeldTree$Node;I)I"⟩
abbrev cXL_many : ByteArray := method_8_code
def yXL_many : MethodName := ⟨RXL, "many", "(LMeldTree;III[J)I"⟩
abbrev cXT_many : ByteArray := prog_1_method_7_code
def yXT_many : MethodName := ⟨RXT, "many", "(III)I"⟩
abbrev cXT_sizeBelow : ByteArray := prog_1_method_21_code
def yXT_sizeBelow : MethodName := ⟨RXT, "sizeBelow", "(LMeldTree$Node;I)I"⟩
abbrev cXL_sum : ByteArray := method_9_code
def yXL_sum : MethodName := ⟨RXL, "sum", "(LMeldTree;III[J)I"⟩
abbrev cXT_sum : ByteArray := prog_1_method_8_code
def yXT_sum : MethodName := ⟨RXT, "sum", "(III)J"⟩
abbrev cXT_totalBelow : ByteArray := prog_1_method_22_code
def yXT_totalBelow : MethodName := ⟨RXT, "totalBelow", "(LMeldTree$Node;I)J"⟩
abbrev cXL_differ : ByteArray := method_10_code
def yXL_differ : MethodName := ⟨RXL, "differ", "(LMeldTree;II[J)I"⟩
abbrev cXT_differ : ByteArray := prog_1_method_9_code
def yXT_differ : MethodName := ⟨RXT, "differ", "(II)I"⟩
abbrev cXT_differences : ByteArray := prog_1_method_23_code
def yXT_differences : MethodName := ⟨RXT, "differences", "(LMeldTree$Node;LMeldTree$Node;I)I"⟩
abbrev cXL_digest : ByteArray := method_11_code
def yXL_digest : MethodName := ⟨RXL, "digest", "(LMeldTree;I[J)I"⟩
abbrev cXT_digest : ByteArray := prog_1_method_10_code
def yXT_digest : MethodName := ⟨RXT, "digest", "(I)J"⟩
abbrev cXT_digestOn : ByteArray := prog_1_method_24_code
def yXT_digestOn : MethodName := ⟨RXT, "digestOn", "(JLMeldTree$Node;I)J"⟩
abbrev cXM_init : ByteArray := prog_4_method_1_code
def yXM_init : MethodName := ⟨RXM, "<init>", "()V"⟩
abbrev cXM_thrown : ByteArray := prog_4_method_2_code
def yXM_thrown : MethodName := ⟨RXM, "thrown", "()I"⟩
abbrev cXM_put : ByteArray := prog_4_method_6_code
def yXM_put : MethodName := ⟨RXM, "put", "(III)I"⟩
abbrev cXM_isOne : ByteArray := prog_4_method_3_code
def yXM_isOne : MethodName := ⟨RXM, "isOne", "(I)Z"⟩
abbrev cXM_isKey : ByteArray := prog_4_method_4_code
def yXM_isKey : MethodName := ⟨RXM, "isKey", "(I)Z"⟩
abbrev cXM_made : ByteArray := prog_4_method_5_code
def yXM_made : MethodName := ⟨RXM, "made", "(III)I"⟩
abbrev cXM_remove : ByteArray := prog_4_method_7_code
def yXM_remove : MethodName := ⟨RXM, "remove", "(II)I"⟩
abbrev cXM_join : ByteArray := prog_4_method_8_code
def yXM_join : MethodName := ⟨RXM, "join", "(III)I"⟩
abbrev cXM_get : ByteArray := prog_4_method_9_code
def yXM_get : MethodName := ⟨RXM, "get", "(II)I"⟩
abbrev cXM_select : ByteArray := prog_4_method_10_code
def yXM_select : MethodName := ⟨RXM, "select", "(II)I"⟩
abbrev cXM_many : ByteArray := prog_4_method_11_code
def yXM_many : MethodName := ⟨RXM, "many", "(III)I"⟩
abbrev cXM_sum : ByteArray := prog_4_method_12_code
def yXM_sum : MethodName := ⟨RXM, "sum", "(III)J"⟩
abbrev cXM_differ : ByteArray := prog_4_method_13_code
def yXM_differ : MethodName := ⟨RXM, "differ", "(II)I"⟩
abbrev cXM_digest : ByteArray := prog_4_method_14_code
def yXM_digest : MethodName := ⟨RXM, "digest", "(I)J"⟩
abbrev cXM_versions : ByteArray := prog_4_method_15_code
def yXM_versions : MethodName := ⟨RXM, "versions", "()I"⟩
abbrev cXM_check : ByteArray := prog_4_method_16_code
def yXM_check : MethodName := ⟨RXM, "check", "()I"⟩
abbrev cXL_law : ByteArray := code
def yXL_law : MethodName := ⟨RXL, "law", "([I)Z"⟩
abbrev vwCl : List vw_C := [(RXN, TXN, 7), (RXT, TXT, 3), (RXM, TXM, 4), (RXA, TXA, 3)]
def mt_all_0 : List Cond := [(Jvm.Cond.initialized "MeldTreeLaw"),
  (Jvm.Cond.initialized "MeldTree"),
  (Jvm.Cond.initialized "java/util/AbstractCollection"),
  (Jvm.Cond.initialized "java/util/AbstractList"),
  (Jvm.Cond.initialized "java/util/ArrayList"),
  (Jvm.Cond.initialized "MeldTreeModel"),
  (Jvm.Cond.initialized "java/lang/Throwable"),
  (Jvm.Cond.initialized "java/lang/Exception"),
  (Jvm.Cond.initialized "java/lang/RuntimeException"),
  (Jvm.Cond.initialized "java/lang/IndexOutOfBoundsException"),
  (Jvm.Cond.initialized "java/lang/IllegalStateException"),
  (Jvm.Cond.initialized "MeldTree$Node"),
  (Jvm.Cond.initialized "jdk/internal/util/ArraysSupport"),
  (Jvm.Cond.initialized "java/lang/Math"),
  (Jvm.Cond.initialized "java/util/Arrays"),
  (Jvm.Cond.initialized "java/lang/System"),
  (Jvm.Cond.initialized "java/util/NoSuchElementException"),
  (Jvm.Cond.initialized "java/util/Objects"),
  (Jvm.Cond.initialized "jdk/internal/util/Preconditions"),
  (Jvm.Cond.classLink "MeldTreeLaw" (8 : Nat) "MeldTree"),
  (Jvm.Cond.instantiable "MeldTree" (3 : Nat)),
  (Jvm.Cond.methodLink "MeldTreeLaw" (46 : Nat) yXT_init),
  (Jvm.Cond.instanceMethod yXT_init),
  (Jvm.Cond.code yXT_init prog_1_method_1_code (1 : Nat) (Option.none : Option Jvm.ClassFile.FieldType)),
  (Jvm.Cond.methodLink "MeldTree" (1 : Nat) objectInit),
  (Jvm.Cond.instanceMethod objectInit),
  (Jvm.Cond.code objectInit object_method_1_code (1 : Nat) (Option.none : Option Jvm.ClassFile.FieldType)),
  (Jvm.Cond.classLink "MeldTree" (9 : Nat) "MeldTree$Node"),
  (Jvm.Cond.classLink "MeldTree" (15 : Nat) "java/util/ArrayList"),
  (Jvm.Cond.instantiable "java/util/ArrayList" (3 : Nat)),
  (Jvm.Cond.methodLink "MeldTree" (17 : Nat) yXA_init),
  (Jvm.Cond.instanceMethod yXA_init),
  (Jvm.Cond.code yXA_init prog_18_method_2_code (1 : Nat) (Option.none : Option Jvm.ClassFile.FieldType)),
  (Jvm.Cond.methodLink "java/util/ArrayList" (1 : Nat) yXB_init),
  (Jvm.Cond.instanceMethod yXB_init),
  (Jvm.Cond.code yXB_init prog_17_method_1_code (1 : Nat) (Option.none : Option Jvm.ClassFile.FieldType)),
  (Jvm.Cond.methodLink "java/util/AbstractList" (1 : Nat) yXC_init),
  (Jvm.Cond.instanceMethod yXC_init),
  (Jvm.Cond.code yXC_init prog_16_method_1_code (1 : Nat) (Option.none : Option Jvm.ClassFile.FieldType)),
  (Jvm.Cond.methodLink "java/util/AbstractCollection" (1 : Nat) objectInit),
  (Jvm.Cond.fieldLink "java/util/ArrayList" (39 : Nat) "java/util/ArrayList" "DEFAULTCAPACITY_EMPTY_ELEMENTDATA" "[Ljava/lang/Object;"),
  (Jvm.Cond.fieldLink "java/util/ArrayList" (9 : Nat) "java/util/ArrayList" "elementData" "[Ljava/lang/Object;"),
  (Jvm.Cond.fieldLink "java/util/ArrayList" (48 : Nat) "java/util/ArrayList" "size" "I"),
  (Jvm.Cond.fieldLink "java/util/AbstractList" (7 : Nat) "java/util/AbstractList" "modCount" "I"),
  (Jvm.Cond.fieldLink "java/util/ArrayList" (63 : Nat) "java/util/ArrayList" "modCount" "I"),
  (Jvm.Cond.sameField "java/util/ArrayList" "java/util/AbstractList" "modCount" "I"),
  (Jvm.Cond.lays "java/util/ArrayList" "java/util/ArrayList" "elementData" "[Ljava/lang/Object;"),
  (Jvm.Cond.soleField "java/util/ArrayList" "elementData"),
  (Jvm.Cond.lays "java/util/ArrayList" "java/util/ArrayList" "size" "I"),
  (Jvm.Cond.soleField "java/util/ArrayList" "size"),
  (Jvm.Cond.lays "java/util/ArrayList" "java/util/AbstractList" "modCount" "I"),
  (Jvm.Cond.soleField "java/util/AbstractList" "modCount"),
  (Jvm.Cond.superclass "java/util/ArrayList" "java/util/AbstractList"),
  (Jvm.Cond.fieldLink "MeldTree" (11 : Nat) "MeldTree" "roots" "[LMeldTree$Node;"),
  (Jvm.Cond.fieldLink "MeldTree" (18 : Nat) "MeldTree" "nodes" "Ljava/util/ArrayList;"),
  (Jvm.Cond.fieldLink "MeldTree" (22 : Nat) "MeldTree" "count" "I"),
  (Jvm.Cond.laysFinal "MeldTree" "MeldTree" "roots" "[LMeldTree$Node;"),
  (Jvm.Cond.soleField "MeldTree" "roots"),
  (Jvm.Cond.laysFinal "MeldTree" "MeldTree" "nodes" "Ljava/util/ArrayList;"),
  (Jvm.Cond.soleField "MeldTree" "nodes")]
def mt_all_1 : List Cond := [(Jvm.Cond.lays "MeldTree" "MeldTree" "count" "I"),
  (Jvm.Cond.soleField "MeldTree" "count"),
  (Jvm.Cond.superclass "MeldTree" "java/lang/Object"),
  (Jvm.Cond.methodLink "MeldTreeLaw" (86 : Nat) yXT_versions),
  (Jvm.Cond.instanceMethod yXT_versions),
  (Jvm.Cond.selects "MeldTree" yXT_versions yXT_versions),
  (Jvm.Cond.code yXT_versions prog_1_method_11_code (1 : Nat) (Option.some Jvm.ClassFile.FieldType.int)),
  (Jvm.Cond.methodLink "MeldTreeLaw" (90 : Nat) yXT_check),
  (Jvm.Cond.instanceMethod yXT_check),
  (Jvm.Cond.selects "MeldTree" yXT_check yXT_check),
  (Jvm.Cond.code yXT_check prog_1_method_12_code (3 : Nat) (Option.some Jvm.ClassFile.FieldType.int)),
  (Jvm.Cond.methodLink "MeldTree" (96 : Nat) yXT_isAt),
  (Jvm.Cond.static yXT_isAt),
  (Jvm.Cond.code yXT_isAt prog_1_method_25_code (3 : Nat) (Option.some Jvm.ClassFile.FieldType.boolean)),
  (Jvm.Cond.methodLink "MeldTree" (100 : Nat) yXA_size),
  (Jvm.Cond.instanceMethod yXA_size),
  (Jvm.Cond.selects "java/util/ArrayList" yXA_size yXA_size),
  (Jvm.Cond.code yXA_size prog_18_method_8_code (1 : Nat) (Option.some Jvm.ClassFile.FieldType.int)),
  (Jvm.Cond.methodLink "MeldTree" (104 : Nat) yXA_get),
  (Jvm.Cond.instanceMethod yXA_get),
  (Jvm.Cond.selects "java/util/ArrayList" yXA_get yXA_get),
  (Jvm.Cond.code yXA_get prog_18_method_20_code (2 : Nat) (Option.some (Jvm.ClassFile.FieldType.object "java/lang/Object"))),
  (Jvm.Cond.methodLink "java/util/ArrayList" (118 : Nat) yXO_checkIndex),
  (Jvm.Cond.static yXO_checkIndex),
  (Jvm.Cond.code yXO_checkIndex prog_23_method_17_code (2 : Nat) (Option.some Jvm.ClassFile.FieldType.int)),
  (Jvm.Cond.methodLink "java/util/Objects" (105 : Nat) yXP_checkIndex),
  (Jvm.Cond.static yXP_checkIndex),
  (Jvm.Cond.code yXP_checkIndex prog_27_method_11_code (3 : Nat) (Option.some Jvm.ClassFile.FieldType.int)),
  (Jvm.Cond.methodLink "java/util/ArrayList" (123 : Nat) yXA_elementData),
  (Jvm.Cond.instanceMethod yXA_elementData),
  (Jvm.Cond.selects "java/util/ArrayList" yXA_elementData yXA_elementData),
  (Jvm.Cond.code yXA_elementData prog_18_method_18_code (2 : Nat) (Option.some (Jvm.ClassFile.FieldType.object "java/lang/Object"))),
  (Jvm.Cond.methodLink "MeldTree" (108 : Nat) yXT_faultsOf),
  (Jvm.Cond.static yXT_faultsOf),
  (Jvm.Cond.code yXT_faultsOf prog_1_method_26_code (1 : Nat) (Option.some Jvm.ClassFile.FieldType.int)),
  (Jvm.Cond.methodLink "MeldTree" (153 : Nat) yXT_faultsOfLeaf),
  (Jvm.Cond.static yXT_faultsOfLeaf),
  (Jvm.Cond.code yXT_faultsOfLeaf prog_1_method_27_code (2 : Nat) (Option.some Jvm.ClassFile.FieldType.int)),
  (Jvm.Cond.methodLink "MeldTree" (156 : Nat) yXT_faultsOfFork),
  (Jvm.Cond.static yXT_faultsOfFork),
  (Jvm.Cond.code yXT_faultsOfFork prog_1_method_28_code (3 : Nat) (Option.some Jvm.ClassFile.FieldType.int)),
  (Jvm.Cond.methodLink "MeldTree" (70 : Nat) yXT_sizeOf),
  (Jvm.Cond.static yXT_sizeOf),
  (Jvm.Cond.code yXT_sizeOf prog_1_method_31_code (1 : Nat) (Option.some Jvm.ClassFile.FieldType.int)),
  (Jvm.Cond.methodLink "MeldTree" (134 : Nat) yXT_totalOf),
  (Jvm.Cond.static yXT_totalOf),
  (Jvm.Cond.code yXT_totalOf prog_1_method_32_code (1 : Nat) (Option.some Jvm.ClassFile.FieldType.long)),
  (Jvm.Cond.methodLink "MeldTreeLaw" (50 : Nat) yXL_put),
  (Jvm.Cond.static yXL_put),
  (Jvm.Cond.codeWith yXL_put method_3_code (6 : Nat) (Option.some Jvm.ClassFile.FieldType.int) [((0 : Nat), (12 : Nat), (15 : Nat), (13 : Nat)), ((0 : Nat), (12 : Nat), (19 : Nat), (15 : Nat))]),
  (Jvm.Cond.classLink "MeldTreeLaw" (13 : Nat) "java/lang/IndexOutOfBoundsException"),
  (Jvm.Cond.classLink "MeldTreeLaw" (15 : Nat) "java/lang/IllegalStateException"),
  (Jvm.Cond.methodLink "MeldTreeLaw" (7 : Nat) yXT_put),
  (Jvm.Cond.instanceMethod yXT_put),
  (Jvm.Cond.selects "MeldTree" yXT_put yXT_put),
  (Jvm.Cond.code yXT_put prog_1_method_2_code (5 : Nat) (Option.some Jvm.ClassFile.FieldType.int)),
  (Jvm.Cond.methodLink "MeldTree" (26 : Nat) yXT_needVersion),
  (Jvm.Cond.instanceMethod yXT_needVersion),
  (Jvm.Cond.code yXT_needVersion prog_1_method_13_code (2 : Nat) (Option.none : Option Jvm.ClassFile.FieldType)),
  (Jvm.Cond.classLink "MeldTree" (62 : Nat) "java/lang/IndexOutOfBoundsException")]
def mt_all_2 : List Cond := [(Jvm.Cond.instantiable "java/lang/IndexOutOfBoundsException" (6 : Nat)),
  (Jvm.Cond.selects "java/lang/IndexOutOfBoundsException" (⟨"java/lang/Throwable", "fillInStackTrace", "(I)Ljava/lang/Throwable;"⟩ : MethodName) (⟨"java/lang/Throwable", "fillInStackTrace", "(I)Ljava/lang/Throwable;"⟩ : MethodName)),
  (Jvm.Cond.selects "java/lang/IndexOutOfBoundsException" (⟨"java/lang/Throwable", "fillInStackTrace", "()Ljava/lang/Throwable;"⟩ : MethodName) (⟨"java/lang/Throwable", "fillInStackTrace", "()Ljava/lang/Throwable;"⟩ : MethodName)),
  (Jvm.Cond.lays "java/lang/IndexOutOfBoundsException" "java/lang/Throwable" "cause" "Ljava/lang/Throwable;"),
  (Jvm.Cond.lays "java/lang/Throwable" "java/lang/Throwable" "cause" "Ljava/lang/Throwable;"),
  (Jvm.Cond.lays "java/lang/IndexOutOfBoundsException" "java/lang/Throwable" "stackTrace" "[Ljava/lang/StackTraceElement;"),
  (Jvm.Cond.lays "java/lang/Throwable" "java/lang/Throwable" "stackTrace" "[Ljava/lang/StackTraceElement;"),
  (Jvm.Cond.lays "java/lang/IndexOutOfBoundsException" "java/lang/Throwable" "suppressedExceptions" "Ljava/util/List;"),
  (Jvm.Cond.lays "java/lang/Throwable" "java/lang/Throwable" "suppressedExceptions" "Ljava/util/List;"),
  (Jvm.Cond.lays "java/lang/IndexOutOfBoundsException" "java/lang/Throwable" "detailMessage" "Ljava/lang/String;"),
  (Jvm.Cond.lays "java/lang/Throwable" "java/lang/Throwable" "detailMessage" "Ljava/lang/String;"),
  (Jvm.Cond.lays "java/lang/IndexOutOfBoundsException" "java/lang/Throwable" "backtrace" "Ljava/lang/Object;"),
  (Jvm.Cond.lays "java/lang/Throwable" "java/lang/Throwable" "backtrace" "Ljava/lang/Object;"),
  (Jvm.Cond.fieldLink "java/lang/Throwable" (198 : Nat) "java/lang/Throwable" "backtrace" "Ljava/lang/Object;"),
  (Jvm.Cond.superclass "java/lang/Throwable" "java/lang/Object"),
  (Jvm.Cond.instanceMethod (⟨"java/lang/Throwable", "<init>", "()V"⟩ : MethodName)),
  (Jvm.Cond.code (⟨"java/lang/Throwable", "<init>", "()V"⟩ : MethodName) prog_15_method_1_code (1 : Nat) (Option.none : Option Jvm.ClassFile.FieldType)),
  (Jvm.Cond.methodLink "java/lang/Throwable" (1 : Nat) objectInit),
  (Jvm.Cond.fieldLink "java/lang/Throwable" (13 : Nat) "java/lang/Throwable" "UNASSIGNED_STACK" "[Ljava/lang/StackTraceElement;"),
  (Jvm.Cond.fieldLink "java/lang/Throwable" (20 : Nat) "java/lang/Throwable" "SUPPRESSED_SENTINEL" "Ljava/util/List;"),
  (Jvm.Cond.methodLink "java/lang/Throwable" (27 : Nat) (⟨"java/lang/Throwable", "fillInStackTrace", "()Ljava/lang/Throwable;"⟩ : MethodName)),
  (Jvm.Cond.instanceMethod (⟨"java/lang/Throwable", "fillInStackTrace", "()Ljava/lang/Throwable;"⟩ : MethodName)),
  (Jvm.Cond.sameMethod "java/lang/Throwable" "java/lang/Throwable" "fillInStackTrace" "()Ljava/lang/Throwable;"),
  (Jvm.Cond.selects "java/lang/IllegalStateException" (⟨"java/lang/Throwable", "fillInStackTrace", "()Ljava/lang/Throwable;"⟩ : MethodName) (⟨"java/lang/Throwable", "fillInStackTrace", "()Ljava/lang/Throwable;"⟩ : MethodName)),
  (Jvm.Cond.selects "java/util/NoSuchElementException" (⟨"java/lang/Throwable", "fillInStackTrace", "()Ljava/lang/Throwable;"⟩ : MethodName) (⟨"java/lang/Throwable", "fillInStackTrace", "()Ljava/lang/Throwable;"⟩ : MethodName)),
  (Jvm.Cond.codeSync (⟨"java/lang/Throwable", "fillInStackTrace", "()Ljava/lang/Throwable;"⟩ : MethodName) prog_15_method_18_code (1 : Nat) (Option.some (Jvm.ClassFile.FieldType.object "java/lang/Throwable"))),
  (Jvm.Cond.methodLink "java/lang/Throwable" (202 : Nat) (⟨"java/lang/Throwable", "fillInStackTrace", "(I)Ljava/lang/Throwable;"⟩ : MethodName)),
  (Jvm.Cond.instanceMethod (⟨"java/lang/Throwable", "fillInStackTrace", "(I)Ljava/lang/Throwable;"⟩ : MethodName)),
  (Jvm.Cond.instantiable "java/lang/Throwable" (6 : Nat)),
  (Jvm.Cond.native (⟨"java/lang/Throwable", "fillInStackTrace", "(I)Ljava/lang/Throwable;"⟩ : MethodName)),
  (Jvm.Cond.methodLink "MeldTree" (66 : Nat) (⟨"java/lang/IndexOutOfBoundsException", "<init>", "(Ljava/lang/String;)V"⟩ : MethodName)),
  (Jvm.Cond.instanceMethod (⟨"java/lang/IndexOutOfBoundsException", "<init>", "(Ljava/lang/String;)V"⟩ : MethodName)),
  (Jvm.Cond.code (⟨"java/lang/IndexOutOfBoundsException", "<init>", "(Ljava/lang/String;)V"⟩ : MethodName) prog_9_method_2_code (2 : Nat) (Option.none : Option Jvm.ClassFile.FieldType)),
  (Jvm.Cond.methodLink "java/lang/IndexOutOfBoundsException" (7 : Nat) (⟨"java/lang/RuntimeException", "<init>", "(Ljava/lang/String;)V"⟩ : MethodName)),
  (Jvm.Cond.instanceMethod (⟨"java/lang/RuntimeException", "<init>", "(Ljava/lang/String;)V"⟩ : MethodName)),
  (Jvm.Cond.code (⟨"java/lang/RuntimeException", "<init>", "(Ljava/lang/String;)V"⟩ : MethodName) prog_12_method_2_code (2 : Nat) (Option.none : Option Jvm.ClassFile.FieldType)),
  (Jvm.Cond.methodLink "java/lang/RuntimeException" (7 : Nat) (⟨"java/lang/Exception", "<init>", "(Ljava/lang/String;)V"⟩ : MethodName)),
  (Jvm.Cond.instanceMethod (⟨"java/lang/Exception", "<init>", "(Ljava/lang/String;)V"⟩ : MethodName)),
  (Jvm.Cond.code (⟨"java/lang/Exception", "<init>", "(Ljava/lang/String;)V"⟩ : MethodName) prog_7_method_2_code (2 : Nat) (Option.none : Option Jvm.ClassFile.FieldType)),
  (Jvm.Cond.methodLink "java/lang/Exception" (7 : Nat) (⟨"java/lang/Throwable", "<init>", "(Ljava/lang/String;)V"⟩ : MethodName)),
  (Jvm.Cond.instanceMethod (⟨"java/lang/Throwable", "<init>", "(Ljava/lang/String;)V"⟩ : MethodName)),
  (Jvm.Cond.code (⟨"java/lang/Throwable", "<init>", "(Ljava/lang/String;)V"⟩ : MethodName) prog_15_method_2_code (2 : Nat) (Option.none : Option Jvm.ClassFile.FieldType)),
  (Jvm.Cond.fieldLink "java/lang/Throwable" (31 : Nat) "java/lang/Throwable" "detailMessage" "Ljava/lang/String;"),
  (Jvm.Cond.fieldLink "java/lang/Throwable" (7 : Nat) "java/lang/Throwable" "cause" "Ljava/lang/Throwable;"),
  (Jvm.Cond.fieldLink "java/lang/Throwable" (17 : Nat) "java/lang/Throwable" "stackTrace" "[Ljava/lang/StackTraceElement;"),
  (Jvm.Cond.fieldLink "java/lang/Throwable" (24 : Nat) "java/lang/Throwable" "suppressedExceptions" "Ljava/util/List;"),
  (Jvm.Cond.soleField "java/lang/Throwable" "backtrace"),
  (Jvm.Cond.soleField "java/lang/Throwable" "detailMessage"),
  (Jvm.Cond.soleField "java/lang/Throwable" "cause"),
  (Jvm.Cond.soleField "java/lang/Throwable" "stackTrace"),
  (Jvm.Cond.lays "java/lang/IndexOutOfBoundsException" "java/lang/Throwable" "depth" "I"),
  (Jvm.Cond.soleField "java/lang/Throwable" "depth"),
  (Jvm.Cond.soleField "java/lang/Throwable" "suppressedExceptions"),
  (Jvm.Cond.superclass "java/lang/IndexOutOfBoundsException" "java/lang/RuntimeException"),
  (Jvm.Cond.arrayClass Jvm.ClassFile.FieldType.byte),
  (Jvm.Cond.methodLink "MeldTree" (30 : Nat) yXT_needKey),
  (Jvm.Cond.static yXT_needKey),
  (Jvm.Cond.code yXT_needKey prog_1_method_14_code (1 : Nat) (Option.none : Option Jvm.ClassFile.FieldType)),
  (Jvm.Cond.methodLink "MeldTree" (33 : Nat) yXT_needRoom),
  (Jvm.Cond.instanceMethod yXT_needRoom)]
def mt_all_3 : List Cond := [(Jvm.Cond.code yXT_needRoom prog_1_method_15_code (1 : Nat) (Option.none : Option Jvm.ClassFile.FieldType)),
  (Jvm.Cond.classLink "MeldTree" (115 : Nat) "java/lang/IllegalStateException"),
  (Jvm.Cond.instantiable "java/lang/IllegalStateException" (6 : Nat)),
  (Jvm.Cond.selects "java/lang/IllegalStateException" (⟨"java/lang/Throwable", "fillInStackTrace", "(I)Ljava/lang/Throwable;"⟩ : MethodName) (⟨"java/lang/Throwable", "fillInStackTrace", "(I)Ljava/lang/Throwable;"⟩ : MethodName)),
  (Jvm.Cond.lays "java/lang/IllegalStateException" "java/lang/Throwable" "cause" "Ljava/lang/Throwable;"),
  (Jvm.Cond.lays "java/lang/IllegalStateException" "java/lang/Throwable" "stackTrace" "[Ljava/lang/StackTraceElement;"),
  (Jvm.Cond.lays "java/lang/IllegalStateException" "java/lang/Throwable" "suppressedExceptions" "Ljava/util/List;"),
  (Jvm.Cond.lays "java/lang/IllegalStateException" "java/lang/Throwable" "detailMessage" "Ljava/lang/String;"),
  (Jvm.Cond.lays "java/lang/IllegalStateException" "java/lang/Throwable" "backtrace" "Ljava/lang/Object;"),
  (Jvm.Cond.methodLink "MeldTree" (119 : Nat) (⟨"java/lang/IllegalStateException", "<init>", "(Ljava/lang/String;)V"⟩ : MethodName)),
  (Jvm.Cond.instanceMethod (⟨"java/lang/IllegalStateException", "<init>", "(Ljava/lang/String;)V"⟩ : MethodName)),
  (Jvm.Cond.code (⟨"java/lang/IllegalStateException", "<init>", "(Ljava/lang/String;)V"⟩ : MethodName) prog_8_method_2_code (2 : Nat) (Option.none : Option Jvm.ClassFile.FieldType)),
  (Jvm.Cond.methodLink "java/lang/IllegalStateException" (7 : Nat) (⟨"java/lang/RuntimeException", "<init>", "(Ljava/lang/String;)V"⟩ : MethodName)),
  (Jvm.Cond.lays "java/lang/IllegalStateException" "java/lang/Throwable" "depth" "I"),
  (Jvm.Cond.superclass "java/lang/IllegalStateException" "java/lang/RuntimeException"),
  (Jvm.Cond.instantiable "MeldTree$Node" (7 : Nat)),
  (Jvm.Cond.instanceMethod yXN_init),
  (Jvm.Cond.code yXN_init prog_2_method_1_code (3 : Nat) (Option.none : Option Jvm.ClassFile.FieldType)),
  (Jvm.Cond.methodLink "MeldTree$Node" (1 : Nat) objectInit),
  (Jvm.Cond.fieldLink "MeldTree$Node" (7 : Nat) "MeldTree$Node" "height" "I"),
  (Jvm.Cond.fieldLink "MeldTree$Node" (13 : Nat) "MeldTree$Node" "first" "I"),
  (Jvm.Cond.fieldLink "MeldTree$Node" (16 : Nat) "MeldTree$Node" "low" "LMeldTree$Node;"),
  (Jvm.Cond.fieldLink "MeldTree$Node" (20 : Nat) "MeldTree$Node" "high" "LMeldTree$Node;"),
  (Jvm.Cond.fieldLink "MeldTree$Node" (23 : Nat) "MeldTree$Node" "value" "I"),
  (Jvm.Cond.fieldLink "MeldTree$Node" (26 : Nat) "MeldTree$Node" "size" "I"),
  (Jvm.Cond.fieldLink "MeldTree$Node" (29 : Nat) "MeldTree$Node" "total" "J"),
  (Jvm.Cond.laysFinal "MeldTree$Node" "MeldTree$Node" "height" "I"),
  (Jvm.Cond.soleField "MeldTree$Node" "height"),
  (Jvm.Cond.laysFinal "MeldTree$Node" "MeldTree$Node" "first" "I"),
  (Jvm.Cond.soleField "MeldTree$Node" "first"),
  (Jvm.Cond.laysFinal "MeldTree$Node" "MeldTree$Node" "low" "LMeldTree$Node;"),
  (Jvm.Cond.soleField "MeldTree$Node" "low"),
  (Jvm.Cond.laysFinal "MeldTree$Node" "MeldTree$Node" "high" "LMeldTree$Node;"),
  (Jvm.Cond.soleField "MeldTree$Node" "high"),
  (Jvm.Cond.laysFinal "MeldTree$Node" "MeldTree$Node" "value" "I"),
  (Jvm.Cond.soleField "MeldTree$Node" "value"),
  (Jvm.Cond.laysFinal "MeldTree$Node" "MeldTree$Node" "size" "I"),
  (Jvm.Cond.soleField "MeldTree$Node" "size"),
  (Jvm.Cond.laysFinal "MeldTree$Node" "MeldTree$Node" "total" "J"),
  (Jvm.Cond.soleField "MeldTree$Node" "total"),
  (Jvm.Cond.superclass "MeldTree$Node" "java/lang/Object"),
  (Jvm.Cond.methodLink "MeldTree" (39 : Nat) yXA_add),
  (Jvm.Cond.instanceMethod yXA_add),
  (Jvm.Cond.selects "java/util/ArrayList" yXA_add yXA_add),
  (Jvm.Cond.code yXA_add prog_18_method_25_code (2 : Nat) (Option.some Jvm.ClassFile.FieldType.boolean)),
  (Jvm.Cond.methodLink "java/util/ArrayList" (131 : Nat) yXA_add_2),
  (Jvm.Cond.instanceMethod yXA_add_2),
  (Jvm.Cond.code yXA_add_2 prog_18_method_24_code (4 : Nat) (Option.none : Option Jvm.ClassFile.FieldType)),
  (Jvm.Cond.methodLink "java/util/ArrayList" (129 : Nat) yXA_grow),
  (Jvm.Cond.instanceMethod yXA_grow),
  (Jvm.Cond.code yXA_grow prog_18_method_7_code (1 : Nat) (Option.some (Jvm.ClassFile.FieldType.array (Jvm.ClassFile.FieldType.object "java/lang/Object")))),
  (Jvm.Cond.methodLink "java/util/ArrayList" (69 : Nat) yXA_grow_2),
  (Jvm.Cond.instanceMethod yXA_grow_2),
  (Jvm.Cond.code yXA_grow_2 prog_18_method_6_code (4 : Nat) (Option.some (Jvm.ClassFile.FieldType.array (Jvm.ClassFile.FieldType.object "java/lang/Object")))),
  (Jvm.Cond.methodLink "java/util/ArrayList" (73 : Nat) yXS_newLength),
  (Jvm.Cond.static yXS_newLength),
  (Jvm.Cond.code yXS_newLength prog_26_method_27_code (4 : Nat) (Option.some Jvm.ClassFile.FieldType.int)),
  (Jvm.Cond.methodLink "jdk/internal/util/ArraysSupport" (194 : Nat) (⟨"java/lang/Math", "max", "(II)I"⟩ : MethodName)),
  (Jvm.Cond.static (⟨"java/lang/Math", "max", "(II)I"⟩ : MethodName)),
  (Jvm.Cond.code (⟨"java/lang/Math", "max", "(II)I"⟩ : MethodName) prog_11_method_65_code (2 : Nat) (Option.some Jvm.ClassFile.FieldType.int))]
def mt_all_4 : List Cond := [(Jvm.Cond.constant "jdk/internal/util/ArraysSupport" (200 : Nat) (2147483639 : Int32)),
  (Jvm.Cond.methodLink "jdk/internal/util/ArraysSupport" (201 : Nat) yXS_hugeLength),
  (Jvm.Cond.static yXS_hugeLength),
  (Jvm.Cond.code yXS_hugeLength prog_26_method_28_code (3 : Nat) (Option.some Jvm.ClassFile.FieldType.int)),
  (Jvm.Cond.methodLink "java/util/ArrayList" (66 : Nat) yXR_copyOf),
  (Jvm.Cond.static yXR_copyOf),
  (Jvm.Cond.code yXR_copyOf prog_19_method_119_code (2 : Nat) (Option.some (Jvm.ClassFile.FieldType.array (Jvm.ClassFile.FieldType.object "java/lang/Object")))),
  (Jvm.Cond.methodLink "java/util/Arrays" (86 : Nat) (⟨"java/lang/Object", "getClass", "()Ljava/lang/Class;"⟩ : MethodName)),
  (Jvm.Cond.instanceMethod (⟨"java/lang/Object", "getClass", "()Ljava/lang/Class;"⟩ : MethodName)),
  (Jvm.Cond.sameMethod "java/lang/Object" "java/lang/Object" "getClass" "()Ljava/lang/Class;"),
  (Jvm.Cond.selects "MeldTree" (⟨"java/lang/Object", "getClass", "()Ljava/lang/Class;"⟩ : MethodName) (⟨"java/lang/Object", "getClass", "()Ljava/lang/Class;"⟩ : MethodName)),
  (Jvm.Cond.selects "MeldTree$Node" (⟨"java/lang/Object", "getClass", "()Ljava/lang/Class;"⟩ : MethodName) (⟨"java/lang/Object", "getClass", "()Ljava/lang/Class;"⟩ : MethodName)),
  (Jvm.Cond.selects "MeldTreeModel" (⟨"java/lang/Object", "getClass", "()Ljava/lang/Class;"⟩ : MethodName) (⟨"java/lang/Object", "getClass", "()Ljava/lang/Class;"⟩ : MethodName)),
  (Jvm.Cond.selects "java/lang/IllegalStateException" (⟨"java/lang/Object", "getClass", "()Ljava/lang/Class;"⟩ : MethodName) (⟨"java/lang/Object", "getClass", "()Ljava/lang/Class;"⟩ : MethodName)),
  (Jvm.Cond.selects "java/lang/IndexOutOfBoundsException" (⟨"java/lang/Object", "getClass", "()Ljava/lang/Class;"⟩ : MethodName) (⟨"java/lang/Object", "getClass", "()Ljava/lang/Class;"⟩ : MethodName)),
  (Jvm.Cond.selects "java/util/ArrayList" (⟨"java/lang/Object", "getClass", "()Ljava/lang/Class;"⟩ : MethodName) (⟨"java/lang/Object", "getClass", "()Ljava/lang/Class;"⟩ : MethodName)),
  (Jvm.Cond.selects "java/util/NoSuchElementException" (⟨"java/lang/Object", "getClass", "()Ljava/lang/Class;"⟩ : MethodName) (⟨"java/lang/Object", "getClass", "()Ljava/lang/Class;"⟩ : MethodName)),
  (Jvm.Cond.native (⟨"java/lang/Object", "getClass", "()Ljava/lang/Class;"⟩ : MethodName)),
  (Jvm.Cond.methodLink "java/util/Arrays" (300 : Nat) yXR_copyOf_2),
  (Jvm.Cond.static yXR_copyOf_2),
  (Jvm.Cond.code yXR_copyOf_2 prog_19_method_120_code (4 : Nat) (Option.some (Jvm.ClassFile.FieldType.array (Jvm.ClassFile.FieldType.object "java/lang/Object")))),
  (Jvm.Cond.classLink "java/util/Arrays" (110 : Nat) "[Ljava/lang/Object;"),
  (Jvm.Cond.classLink "java/util/Arrays" (2 : Nat) "java/lang/Object"),
  (Jvm.Cond.methodLink "java/util/Arrays" (304 : Nat) (⟨"java/lang/Math", "min", "(II)I"⟩ : MethodName)),
  (Jvm.Cond.static (⟨"java/lang/Math", "min", "(II)I"⟩ : MethodName)),
  (Jvm.Cond.code (⟨"java/lang/Math", "min", "(II)I"⟩ : MethodName) prog_11_method_69_code (2 : Nat) (Option.some Jvm.ClassFile.FieldType.int)),
  (Jvm.Cond.methodLink "java/util/Arrays" (150 : Nat) (⟨"java/lang/System", "arraycopy", "(Ljava/lang/Object;ILjava/lang/Object;II)V"⟩ : MethodName)),
  (Jvm.Cond.static (⟨"java/lang/System", "arraycopy", "(Ljava/lang/Object;ILjava/lang/Object;II)V"⟩ : MethodName)),
  (Jvm.Cond.native (⟨"java/lang/System", "arraycopy", "(Ljava/lang/Object;ILjava/lang/Object;II)V"⟩ : MethodName)),
  (Jvm.Cond.methodLink "java/util/ArrayList" (79 : Nat) (⟨"java/lang/Math", "max", "(II)I"⟩ : MethodName)),
  (Jvm.Cond.classLink "java/util/ArrayList" (7 : Nat) "java/lang/Object"),
  (Jvm.Cond.methodLink "MeldTree" (43 : Nat) yXT_meld),
  (Jvm.Cond.static yXT_meld),
  (Jvm.Cond.code yXT_meld prog_1_method_17_code (9 : Nat) (Option.some (Jvm.ClassFile.FieldType.object "MeldTree$Node"))),
  (Jvm.Cond.methodLink "MeldTree" (120 : Nat) yXT_goesHigh),
  (Jvm.Cond.static yXT_goesHigh),
  (Jvm.Cond.code yXT_goesHigh prog_1_method_18_code (2 : Nat) (Option.some Jvm.ClassFile.FieldType.boolean)),
  (Jvm.Cond.methodLink "MeldTree" (124 : Nat) yXT_lowOf),
  (Jvm.Cond.static yXT_lowOf),
  (Jvm.Cond.code yXT_lowOf prog_1_method_29_code (1 : Nat) (Option.some (Jvm.ClassFile.FieldType.object "MeldTree$Node"))),
  (Jvm.Cond.methodLink "MeldTree" (128 : Nat) yXT_highOf),
  (Jvm.Cond.static yXT_highOf),
  (Jvm.Cond.code yXT_highOf prog_1_method_30_code (1 : Nat) (Option.some (Jvm.ClassFile.FieldType.object "MeldTree$Node"))),
  (Jvm.Cond.instanceMethod yXN_init_2),
  (Jvm.Cond.code yXN_init_2 prog_2_method_2_code (5 : Nat) (Option.none : Option Jvm.ClassFile.FieldType)),
  (Jvm.Cond.methodLink "MeldTree" (47 : Nat) yXT_keep),
  (Jvm.Cond.instanceMethod yXT_keep),
  (Jvm.Cond.code yXT_keep prog_1_method_16_code (3 : Nat) (Option.some Jvm.ClassFile.FieldType.int)),
  (Jvm.Cond.methodLink "MeldTreeLaw" (60 : Nat) yXL_remove),
  (Jvm.Cond.static yXL_remove),
  (Jvm.Cond.codeWith yXL_remove method_4_code (5 : Nat) (Option.some Jvm.ClassFile.FieldType.int) [((0 : Nat), (10 : Nat), (13 : Nat), (13 : Nat)), ((0 : Nat), (10 : Nat), (17 : Nat), (15 : Nat)), ((0 : Nat), (10 : Nat), (21 : Nat), (21 : Nat))]),
  (Jvm.Cond.classLink "MeldTreeLaw" (21 : Nat) "java/util/NoSuchElementException"),
  (Jvm.Cond.methodLink "MeldTreeLaw" (17 : Nat) yXT_remove),
  (Jvm.Cond.instanceMethod yXT_remove),
  (Jvm.Cond.selects "MeldTree" yXT_remove yXT_remove),
  (Jvm.Cond.code yXT_remove prog_1_method_3_code (3 : Nat) (Option.some Jvm.ClassFile.FieldType.int)),
  (Jvm.Cond.methodLink "MeldTree" (51 : Nat) yXT_leafAt),
  (Jvm.Cond.static yXT_leafAt),
  (Jvm.Cond.code yXT_leafAt prog_1_method_19_code (4 : Nat) (Option.some (Jvm.ClassFile.FieldType.object "MeldTree$Node"))),
  (Jvm.Cond.classLink "MeldTree" (55 : Nat) "java/util/NoSuchElementException")]
def mt_all_5 : List Cond := [(Jvm.Cond.instantiable "java/util/NoSuchElementException" (6 : Nat)),
  (Jvm.Cond.selects "java/util/NoSuchElementException" (⟨"java/lang/Throwable", "fillInStackTrace", "(I)Ljava/lang/Throwable;"⟩ : MethodName) (⟨"java/lang/Throwable", "fillInStackTrace", "(I)Ljava/lang/Throwable;"⟩ : MethodName)),
  (Jvm.Cond.lays "java/util/NoSuchElementException" "java/lang/Throwable" "cause" "Ljava/lang/Throwable;"),
  (Jvm.Cond.lays "java/util/NoSuchElementException" "java/lang/Throwable" "stackTrace" "[Ljava/lang/StackTraceElement;"),
  (Jvm.Cond.lays "java/util/NoSuchElementException" "java/lang/Throwable" "suppressedExceptions" "Ljava/util/List;"),
  (Jvm.Cond.lays "java/util/NoSuchElementException" "java/lang/Throwable" "detailMessage" "Ljava/lang/String;"),
  (Jvm.Cond.lays "java/util/NoSuchElementException" "java/lang/Throwable" "backtrace" "Ljava/lang/Object;"),
  (Jvm.Cond.methodLink "MeldTree" (59 : Nat) (⟨"java/util/NoSuchElementException", "<init>", "(Ljava/lang/String;)V"⟩ : MethodName)),
  (Jvm.Cond.instanceMethod (⟨"java/util/NoSuchElementException", "<init>", "(Ljava/lang/String;)V"⟩ : MethodName)),
  (Jvm.Cond.code (⟨"java/util/NoSuchElementException", "<init>", "(Ljava/lang/String;)V"⟩ : MethodName) prog_22_method_4_code (2 : Nat) (Option.none : Option Jvm.ClassFile.FieldType)),
  (Jvm.Cond.methodLink "java/util/NoSuchElementException" (13 : Nat) (⟨"java/lang/RuntimeException", "<init>", "(Ljava/lang/String;)V"⟩ : MethodName)),
  (Jvm.Cond.lays "java/util/NoSuchElementException" "java/lang/Throwable" "depth" "I"),
  (Jvm.Cond.superclass "java/util/NoSuchElementException" "java/lang/RuntimeException"),
  (Jvm.Cond.methodLink "MeldTreeLaw" (64 : Nat) yXL_join),
  (Jvm.Cond.static yXL_join),
  (Jvm.Cond.codeWith yXL_join method_5_code (6 : Nat) (Option.some Jvm.ClassFile.FieldType.int) [((0 : Nat), (12 : Nat), (15 : Nat), (13 : Nat)), ((0 : Nat), (12 : Nat), (19 : Nat), (15 : Nat))]),
  (Jvm.Cond.methodLink "MeldTreeLaw" (23 : Nat) yXT_join),
  (Jvm.Cond.instanceMethod yXT_join),
  (Jvm.Cond.selects "MeldTree" yXT_join yXT_join),
  (Jvm.Cond.code yXT_join prog_1_method_4_code (4 : Nat) (Option.some Jvm.ClassFile.FieldType.int)),
  (Jvm.Cond.methodLink "MeldTreeLaw" (67 : Nat) yXL_get),
  (Jvm.Cond.static yXL_get),
  (Jvm.Cond.codeWith yXL_get method_6_code (5 : Nat) (Option.some Jvm.ClassFile.FieldType.int) [((0 : Nat), (10 : Nat), (13 : Nat), (13 : Nat)), ((0 : Nat), (10 : Nat), (17 : Nat), (21 : Nat))]),
  (Jvm.Cond.methodLink "MeldTreeLaw" (26 : Nat) yXT_get),
  (Jvm.Cond.instanceMethod yXT_get),
  (Jvm.Cond.selects "MeldTree" yXT_get yXT_get),
  (Jvm.Cond.code yXT_get prog_1_method_5_code (4 : Nat) (Option.some Jvm.ClassFile.FieldType.int)),
  (Jvm.Cond.methodLink "MeldTreeLaw" (70 : Nat) yXL_select),
  (Jvm.Cond.static yXL_select),
  (Jvm.Cond.codeWith yXL_select method_7_code (5 : Nat) (Option.some Jvm.ClassFile.FieldType.int) [((0 : Nat), (10 : Nat), (13 : Nat), (13 : Nat))]),
  (Jvm.Cond.methodLink "MeldTreeLaw" (29 : Nat) yXT_select),
  (Jvm.Cond.instanceMethod yXT_select),
  (Jvm.Cond.selects "MeldTree" yXT_select yXT_select),
  (Jvm.Cond.code yXT_select prog_1_method_6_code (3 : Nat) (Option.some Jvm.ClassFile.FieldType.int)),
  (Jvm.Cond.methodLink "MeldTree" (75 : Nat) yXT_keyAt),
  (Jvm.Cond.static yXT_keyAt),
  (Jvm.Cond.code yXT_keyAt prog_1_method_20_code (7 : Nat) (Option.some Jvm.ClassFile.FieldType.int)),
  (Jvm.Cond.methodLink "MeldTreeLaw" (73 : Nat) yXL_many),
  (Jvm.Cond.static yXL_many),
  (Jvm.Cond.codeWith yXL_many method_8_code (6 : Nat) (Option.some Jvm.ClassFile.FieldType.int) [((0 : Nat), (12 : Nat), (15 : Nat), (13 : Nat))]),
  (Jvm.Cond.methodLink "MeldTreeLaw" (32 : Nat) yXT_many),
  (Jvm.Cond.instanceMethod yXT_many),
  (Jvm.Cond.selects "MeldTree" yXT_many yXT_many),
  (Jvm.Cond.code yXT_many prog_1_method_7_code (4 : Nat) (Option.some Jvm.ClassFile.FieldType.int)),
  (Jvm.Cond.methodLink "MeldTree" (79 : Nat) yXT_sizeBelow),
  (Jvm.Cond.static yXT_sizeBelow),
  (Jvm.Cond.code yXT_sizeBelow prog_1_method_21_code (5 : Nat) (Option.some Jvm.ClassFile.FieldType.int)),
  (Jvm.Cond.methodLink "MeldTreeLaw" (76 : Nat) yXL_sum),
  (Jvm.Cond.static yXL_sum),
  (Jvm.Cond.codeWith yXL_sum method_9_code (6 : Nat) (Option.some Jvm.ClassFile.FieldType.int) [((0 : Nat), (11 : Nat), (14 : Nat), (13 : Nat))]),
  (Jvm.Cond.methodLink "MeldTreeLaw" (35 : Nat) yXT_sum),
  (Jvm.Cond.instanceMethod yXT_sum),
  (Jvm.Cond.selects "MeldTree" yXT_sum yXT_sum),
  (Jvm.Cond.code yXT_sum prog_1_method_8_code (4 : Nat) (Option.some Jvm.ClassFile.FieldType.long)),
  (Jvm.Cond.methodLink "MeldTree" (82 : Nat) yXT_totalBelow),
  (Jvm.Cond.static yXT_totalBelow),
  (Jvm.Cond.code yXT_totalBelow prog_1_method_22_code (6 : Nat) (Option.some Jvm.ClassFile.FieldType.long)),
  (Jvm.Cond.methodLink "MeldTreeLaw" (79 : Nat) yXL_differ),
  (Jvm.Cond.static yXL_differ),
  (Jvm.Cond.codeWith yXL_differ method_10_code (5 : Nat) (Option.some Jvm.ClassFile.FieldType.int) [((0 : Nat), (10 : Nat), (13 : Nat), (13 : Nat))])]
def mt_all_6 : List Cond := [(Jvm.Cond.methodLink "MeldTreeLaw" (39 : Nat) yXT_differ),
  (Jvm.Cond.instanceMethod yXT_differ),
  (Jvm.Cond.selects "MeldTree" yXT_differ yXT_differ),
  (Jvm.Cond.code yXT_differ prog_1_method_9_code (3 : Nat) (Option.some Jvm.ClassFile.FieldType.int)),
  (Jvm.Cond.methodLink "MeldTree" (86 : Nat) yXT_differences),
  (Jvm.Cond.static yXT_differences),
  (Jvm.Cond.code yXT_differences prog_1_method_23_code (3 : Nat) (Option.some Jvm.ClassFile.FieldType.int)),
  (Jvm.Cond.methodLink "MeldTreeLaw" (82 : Nat) yXL_digest),
  (Jvm.Cond.static yXL_digest),
  (Jvm.Cond.codeWith yXL_digest method_11_code (4 : Nat) (Option.some Jvm.ClassFile.FieldType.int) [((0 : Nat), (8 : Nat), (11 : Nat), (13 : Nat))]),
  (Jvm.Cond.methodLink "MeldTreeLaw" (42 : Nat) yXT_digest),
  (Jvm.Cond.instanceMethod yXT_digest),
  (Jvm.Cond.selects "MeldTree" yXT_digest yXT_digest),
  (Jvm.Cond.code yXT_digest prog_1_method_10_code (2 : Nat) (Option.some Jvm.ClassFile.FieldType.long)),
  (Jvm.Cond.constantLong "MeldTree" (90 : Nat) (7 : Int64)),
  (Jvm.Cond.methodLink "MeldTree" (92 : Nat) yXT_digestOn),
  (Jvm.Cond.static yXT_digestOn),
  (Jvm.Cond.code yXT_digestOn prog_1_method_24_code (4 : Nat) (Option.some Jvm.ClassFile.FieldType.long)),
  (Jvm.Cond.constantLong "MeldTree" (145 : Nat) (31 : Int64)),
  (Jvm.Cond.classLink "MeldTreeLaw" (47 : Nat) "MeldTreeModel"),
  (Jvm.Cond.instantiable "MeldTreeModel" (4 : Nat)),
  (Jvm.Cond.methodLink "MeldTreeLaw" (49 : Nat) yXM_init),
  (Jvm.Cond.instanceMethod yXM_init),
  (Jvm.Cond.code yXM_init prog_4_method_1_code (1 : Nat) (Option.none : Option Jvm.ClassFile.FieldType)),
  (Jvm.Cond.methodLink "MeldTreeModel" (1 : Nat) objectInit),
  (Jvm.Cond.constant "MeldTreeModel" (9 : Nat) (153600 : Int32)),
  (Jvm.Cond.fieldLink "MeldTreeModel" (10 : Nat) "MeldTreeModel" "value" "[I"),
  (Jvm.Cond.fieldLink "MeldTreeModel" (14 : Nat) "MeldTreeModel" "has" "[Z"),
  (Jvm.Cond.fieldLink "MeldTreeModel" (18 : Nat) "MeldTreeModel" "versions" "I"),
  (Jvm.Cond.fieldLink "MeldTreeModel" (22 : Nat) "MeldTreeModel" "thrown" "I"),
  (Jvm.Cond.laysFinal "MeldTreeModel" "MeldTreeModel" "value" "[I"),
  (Jvm.Cond.soleField "MeldTreeModel" "value"),
  (Jvm.Cond.laysFinal "MeldTreeModel" "MeldTreeModel" "has" "[Z"),
  (Jvm.Cond.soleField "MeldTreeModel" "has"),
  (Jvm.Cond.lays "MeldTreeModel" "MeldTreeModel" "versions" "I"),
  (Jvm.Cond.soleField "MeldTreeModel" "versions"),
  (Jvm.Cond.lays "MeldTreeModel" "MeldTreeModel" "thrown" "I"),
  (Jvm.Cond.soleField "MeldTreeModel" "thrown"),
  (Jvm.Cond.superclass "MeldTreeModel" "java/lang/Object"),
  (Jvm.Cond.arrayClass Jvm.ClassFile.FieldType.int),
  (Jvm.Cond.arrayClass Jvm.ClassFile.FieldType.boolean),
  (Jvm.Cond.methodLink "MeldTreeLaw" (56 : Nat) yXM_thrown),
  (Jvm.Cond.instanceMethod yXM_thrown),
  (Jvm.Cond.selects "MeldTreeModel" yXM_thrown yXM_thrown),
  (Jvm.Cond.code yXM_thrown prog_4_method_2_code (1 : Nat) (Option.some Jvm.ClassFile.FieldType.int)),
  (Jvm.Cond.methodLink "MeldTreeLaw" (55 : Nat) yXM_put),
  (Jvm.Cond.instanceMethod yXM_put),
  (Jvm.Cond.selects "MeldTreeModel" yXM_put yXM_put),
  (Jvm.Cond.code yXM_put prog_4_method_6_code (5 : Nat) (Option.some Jvm.ClassFile.FieldType.int)),
  (Jvm.Cond.methodLink "MeldTreeModel" (25 : Nat) yXM_isOne),
  (Jvm.Cond.instanceMethod yXM_isOne),
  (Jvm.Cond.code yXM_isOne prog_4_method_3_code (2 : Nat) (Option.some Jvm.ClassFile.FieldType.boolean)),
  (Jvm.Cond.methodLink "MeldTreeModel" (29 : Nat) yXM_isKey),
  (Jvm.Cond.static yXM_isKey),
  (Jvm.Cond.code yXM_isKey prog_4_method_4_code (1 : Nat) (Option.some Jvm.ClassFile.FieldType.boolean)),
  (Jvm.Cond.methodLink "MeldTreeModel" (32 : Nat) yXM_made),
  (Jvm.Cond.instanceMethod yXM_made),
  (Jvm.Cond.code yXM_made prog_4_method_5_code (7 : Nat) (Option.some Jvm.ClassFile.FieldType.int)),
  (Jvm.Cond.methodLink "MeldTreeLaw" (63 : Nat) yXM_remove),
  (Jvm.Cond.instanceMethod yXM_remove)]
def mt_all_7 : List Cond := [(Jvm.Cond.selects "MeldTreeModel" yXM_remove yXM_remove),
  (Jvm.Cond.code yXM_remove prog_4_method_7_code (4 : Nat) (Option.some Jvm.ClassFile.FieldType.int)),
  (Jvm.Cond.methodLink "MeldTreeLaw" (66 : Nat) yXM_join),
  (Jvm.Cond.instanceMethod yXM_join),
  (Jvm.Cond.selects "MeldTreeModel" yXM_join yXM_join),
  (Jvm.Cond.code yXM_join prog_4_method_8_code (4 : Nat) (Option.some Jvm.ClassFile.FieldType.int)),
  (Jvm.Cond.methodLink "MeldTreeLaw" (69 : Nat) yXM_get),
  (Jvm.Cond.instanceMethod yXM_get),
  (Jvm.Cond.selects "MeldTreeModel" yXM_get yXM_get),
  (Jvm.Cond.code yXM_get prog_4_method_9_code (3 : Nat) (Option.some Jvm.ClassFile.FieldType.int)),
  (Jvm.Cond.methodLink "MeldTreeLaw" (72 : Nat) yXM_select),
  (Jvm.Cond.instanceMethod yXM_select),
  (Jvm.Cond.selects "MeldTreeModel" yXM_select yXM_select),
  (Jvm.Cond.code yXM_select prog_4_method_10_code (5 : Nat) (Option.some Jvm.ClassFile.FieldType.int)),
  (Jvm.Cond.methodLink "MeldTreeLaw" (75 : Nat) yXM_many),
  (Jvm.Cond.instanceMethod yXM_many),
  (Jvm.Cond.selects "MeldTreeModel" yXM_many yXM_many),
  (Jvm.Cond.code yXM_many prog_4_method_11_code (6 : Nat) (Option.some Jvm.ClassFile.FieldType.int)),
  (Jvm.Cond.methodLink "MeldTreeLaw" (78 : Nat) yXM_sum),
  (Jvm.Cond.instanceMethod yXM_sum),
  (Jvm.Cond.selects "MeldTreeModel" yXM_sum yXM_sum),
  (Jvm.Cond.code yXM_sum prog_4_method_12_code (7 : Nat) (Option.some Jvm.ClassFile.FieldType.long)),
  (Jvm.Cond.methodLink "MeldTreeLaw" (81 : Nat) yXM_differ),
  (Jvm.Cond.instanceMethod yXM_differ),
  (Jvm.Cond.selects "MeldTreeModel" yXM_differ yXM_differ),
  (Jvm.Cond.code yXM_differ prog_4_method_13_code (7 : Nat) (Option.some Jvm.ClassFile.FieldType.int)),
  (Jvm.Cond.methodLink "MeldTreeLaw" (85 : Nat) yXM_digest),
  (Jvm.Cond.instanceMethod yXM_digest),
  (Jvm.Cond.selects "MeldTreeModel" yXM_digest yXM_digest),
  (Jvm.Cond.code yXM_digest prog_4_method_14_code (5 : Nat) (Option.some Jvm.ClassFile.FieldType.long)),
  (Jvm.Cond.constantLong "MeldTreeModel" (36 : Nat) (7 : Int64)),
  (Jvm.Cond.constantLong "MeldTreeModel" (38 : Nat) (31 : Int64)),
  (Jvm.Cond.methodLink "MeldTreeLaw" (89 : Nat) yXM_versions),
  (Jvm.Cond.instanceMethod yXM_versions),
  (Jvm.Cond.selects "MeldTreeModel" yXM_versions yXM_versions),
  (Jvm.Cond.code yXM_versions prog_4_method_15_code (1 : Nat) (Option.some Jvm.ClassFile.FieldType.int)),
  (Jvm.Cond.methodLink "MeldTreeLaw" (93 : Nat) yXM_check),
  (Jvm.Cond.instanceMethod yXM_check),
  (Jvm.Cond.selects "MeldTreeModel" yXM_check yXM_check),
  (Jvm.Cond.code yXM_check prog_4_method_16_code (1 : Nat) (Option.some Jvm.ClassFile.FieldType.int)),
  (Jvm.Cond.arrayClass Jvm.ClassFile.FieldType.long),
  (Jvm.Cond.sameMethod "java/lang/Throwable" "java/lang/Throwable" "fillInStackTrace" "(I)Ljava/lang/Throwable;"),
  (Jvm.Cond.sameMethod "[Ljava/lang/Object;" "java/lang/Object" "getClass" "()Ljava/lang/Class;"),
  (Jvm.Cond.selects "[Ljava/lang/Object;" (⟨"java/lang/Object", "getClass", "()Ljava/lang/Class;"⟩ : MethodName) (⟨"java/lang/Object", "getClass", "()Ljava/lang/Class;"⟩ : MethodName)),
  (Jvm.Cond.selects "MeldTree" yXT_needVersion yXT_needVersion),
  (Jvm.Cond.selects "java/lang/Throwable" (⟨"java/lang/Throwable", "fillInStackTrace", "(I)Ljava/lang/Throwable;"⟩ : MethodName) (⟨"java/lang/Throwable", "fillInStackTrace", "(I)Ljava/lang/Throwable;"⟩ : MethodName)),
  (Jvm.Cond.selects "MeldTree" yXT_needRoom yXT_needRoom),
  (Jvm.Cond.selects "java/util/ArrayList" yXA_add_2 yXA_add_2),
  (Jvm.Cond.selects "java/util/ArrayList" yXA_grow yXA_grow),
  (Jvm.Cond.selects "java/util/ArrayList" yXA_grow_2 yXA_grow_2),
  (Jvm.Cond.selects "MeldTree" yXT_keep yXT_keep),
  (Jvm.Cond.selects "MeldTreeModel" yXM_isOne yXM_isOne),
  (Jvm.Cond.selects "MeldTreeModel" yXM_made yXM_made)]
def mt_all : List Cond := mt_all_0 ++ (mt_all_1 ++ (mt_all_2 ++ (mt_all_3 ++ (mt_all_4 ++ (mt_all_5 ++ (mt_all_6 ++ (mt_all_7)))))))
theorem mt_good_0 : mt_all_0.all goodWord = true := by decide +kernel
theorem mt_good_1 : mt_all_1.all goodWord = true := by decide +kernel
theorem mt_good_2 : mt_all_2.all goodWord = true := by decide +kernel
theorem mt_good_3 : mt_all_3.all goodWord = true := by decide +kernel
theorem mt_good_4 : mt_all_4.all goodWord = true := by decide +kernel
theorem mt_good_5 : mt_all_5.all goodWord = true := by decide +kernel
theorem mt_good_6 : mt_all_6.all goodWord = true := by decide +kernel
theorem mt_good_7 : mt_all_7.all goodWord = true := by decide +kernel
theorem mw_0 : (Jvm.Cond.initialized "MeldTreeLaw") ∈ mt_all := List.mem_append_left _ (List.mem_of_getElem? (i := 0) rfl)
theorem mw_1 : (Jvm.Cond.initialized "MeldTree") ∈ mt_all := List.mem_append_left _ (List.mem_of_getElem? (i := 1) rfl)
theorem mw_2 : (Jvm.Cond.initialized "java/util/AbstractCollection") ∈ mt_all := List.mem_append_left _ (List.mem_of_getElem? (i := 2) rfl)
theorem mw_3 : (Jvm.Cond.initialized "java/util/AbstractList") ∈ mt_all := List.mem_append_left _ (List.mem_of_getElem? (i := 3) rfl)
theorem mw_4 : (Jvm.Cond.initialized "java/util/ArrayList") ∈ mt_all := List.mem_append_left _ (List.mem_of_getElem? (i := 4) rfl)
theorem mw_5 : (Jvm.Cond.initialized "MeldTreeModel") ∈ mt_all := List.mem_append_left _ (List.mem_of_getElem? (i := 5) rfl)
theorem mw_6 : (Jvm.Cond.initialized "java/lang/Throwable") ∈ mt_all := List.mem_append_left _ (List.mem_of_getElem? (i := 6) rfl)
theorem mw_7 : (Jvm.Cond.initialized "java/lang/Exception") ∈ mt_all := List.mem_append_left _ (List.mem_of_getElem? (i := 7) rfl)
theorem mw_8 : (Jvm.Cond.initialized "java/lang/RuntimeException") ∈ mt_all := List.mem_append_left _ (List.mem_of_getElem? (i := 8) rfl)
theorem mw_9 : (Jvm.Cond.initialized "java/lang/IndexOutOfBoundsException") ∈ mt_all := List.mem_append_left _ (List.mem_of_getElem? (i := 9) rfl)
theorem mw_10 : (Jvm.Cond.initialized "java/lang/IllegalStateException") ∈ mt_all := List.mem_append_left _ (List.mem_of_getElem? (i := 10) rfl)
theorem mw_11 : (Jvm.Cond.initialized "MeldTree$Node") ∈ mt_all := List.mem_append_left _ (List.mem_of_getElem? (i := 11) rfl)
theorem mw_12 : (Jvm.Cond.initialized "jdk/internal/util/ArraysSupport") ∈ mt_all := List.mem_append_left _ (List.mem_of_getElem? (i := 12) rfl)
theorem mw_13 : (Jvm.Cond.initialized "java/lang/Math") ∈ mt_all := List.mem_append_left _ (List.mem_of_getElem? (i := 13) rfl)
theorem mw_14 : (Jvm.Cond.initialized "java/util/Arrays") ∈ mt_all := List.mem_append_left _ (List.mem_of_getElem? (i := 14) rfl)
theorem mw_15 : (Jvm.Cond.initialized "java/lang/System") ∈ mt_all := List.mem_append_left _ (List.mem_of_getElem? (i := 15) rfl)
theorem mw_16 : (Jvm.Cond.initialized "java/util/NoSuchElementException") ∈ mt_all := List.mem_append_left _ (List.mem_of_getElem? (i := 16) rfl)
theorem mw_17 : (Jvm.Cond.initialized "java/util/Objects") ∈ mt_all := List.mem_append_left _ (List.mem_of_getElem? (i := 17) rfl)
theorem mw_18 : (Jvm.Cond.initialized "jdk/internal/util/Preconditions") ∈ mt_all := List.mem_append_left _ (List.mem_of_getElem? (i := 18) rfl)
theorem mw_19 : (Jvm.Cond.classLink "MeldTreeLaw" (8 : Nat) "MeldTree") ∈ mt_all := List.mem_append_left _ (List.mem_of_getElem? (i := 19) rfl)
theorem mw_20 : (Jvm.Cond.instantiable "MeldTree" (3 : Nat)) ∈ mt_all := List.mem_append_left _ (List.mem_of_getElem? (i := 20) rfl)
theorem mw_21 : (Jvm.Cond.methodLink "MeldTreeLaw" (46 : Nat) yXT_init) ∈ mt_all := List.mem_append_left _ (List.mem_of_getElem? (i := 21) rfl)
theorem mw_22 : (Jvm.Cond.instanceMethod yXT_init) ∈ mt_all := List.mem_append_left _ (List.mem_of_getElem? (i := 22) rfl)
theorem mw_23 : (Jvm.Cond.code yXT_init prog_1_method_1_code (1 : Nat) (Option.none : Option Jvm.ClassFile.FieldType)) ∈ mt_all := List.mem_append_left _ (List.mem_of_getElem? (i := 23) rfl)
theorem mw_24 : (Jvm.Cond.methodLink "MeldTree" (1 : Nat) objectInit) ∈ mt_all := List.mem_append_left _ (List.mem_of_getElem? (i := 24) rfl)
theorem mw_25 : (Jvm.Cond.instanceMethod objectInit) ∈ mt_all := List.mem_append_left _ (List.mem_of_getElem? (i := 25) rfl)
theorem mw_26 : (Jvm.Cond.code objectInit object_method_1_code (1 : Nat) (Option.none : Option Jvm.ClassFile.FieldType)) ∈ mt_all := List.mem_append_left _ (List.mem_of_getElem? (i := 26) rfl)
theorem mw_27 : (Jvm.Cond.classLink "MeldTree" (9 : Nat) "MeldTree$Node") ∈ mt_all := List.mem_append_left _ (List.mem_of_getElem? (i := 27) rfl)
theorem mw_28 : (Jvm.Cond.classLink "MeldTree" (15 : Nat) "java/util/ArrayList") ∈ mt_all := List.mem_append_left _ (List.mem_of_getElem? (i := 28) rfl)
theorem mw_29 : (Jvm.Cond.instantiable "java/util/ArrayList" (3 : Nat)) ∈ mt_all := List.mem_append_left _ (List.mem_of_getElem? (i := 29) rfl)
theorem mw_30 : (Jvm.Cond.methodLink "MeldTree" (17 : Nat) yXA_init) ∈ mt_all := List.mem_append_left _ (List.mem_of_getElem? (i := 30) rfl)
theorem mw_31 : (Jvm.Cond.instanceMethod yXA_init) ∈ mt_all := List.mem_append_left _ (List.mem_of_getElem? (i := 31) rfl)
theorem mw_32 : (Jvm.Cond.code yXA_init prog_18_method_2_code (1 : Nat) (Option.none : Option Jvm.ClassFile.FieldType)) ∈ mt_all := List.mem_append_left _ (List.mem_of_getElem? (i := 32) rfl)
theorem mw_33 : (Jvm.Cond.methodLink "java/util/ArrayList" (1 : Nat) yXB_init) ∈ mt_all := List.mem_append_left _ (List.mem_of_getElem? (i := 33) rfl)
theorem mw_34 : (Jvm.Cond.instanceMethod yXB_init) ∈ mt_all := List.mem_append_left _ (List.mem_of_getElem? (i := 34) rfl)
theorem mw_35 : (Jvm.Cond.code yXB_init prog_17_method_1_code (1 : Nat) (Option.none : Option Jvm.ClassFile.FieldType)) ∈ mt_all := List.mem_append_left _ (List.mem_of_getElem? (i := 35) rfl)
theorem mw_36 : (Jvm.Cond.methodLink "java/util/AbstractList" (1 : Nat) yXC_init) ∈ mt_all := List.mem_append_left _ (List.mem_of_getElem? (i := 36) rfl)
theorem mw_37 : (Jvm.Cond.instanceMethod yXC_init) ∈ mt_all := List.mem_append_left _ (List.mem_of_getElem? (i := 37) rfl)
theorem mw_38 : (Jvm.Cond.code yXC_init prog_16_method_1_code (1 : Nat) (Option.none : Option Jvm.ClassFile.FieldType)) ∈ mt_all := List.mem_append_left _ (List.mem_of_getElem? (i := 38) rfl)
theorem mw_39 : (Jvm.Cond.methodLink "java/util/AbstractCollection" (1 : Nat) objectInit) ∈ mt_all := List.mem_append_left _ (List.mem_of_getElem? (i := 39) rfl)
theorem mw_40 : (Jvm.Cond.fieldLink "java/util/ArrayList" (39 : Nat) "java/util/ArrayList" "DEFAULTCAPACITY_EMPTY_ELEMENTDATA" "[Ljava/lang/Object;") ∈ mt_all := List.mem_append_left _ (List.mem_of_getElem? (i := 40) rfl)
theorem mw_41 : (Jvm.Cond.fieldLink "java/util/ArrayList" (9 : Nat) "java/util/ArrayList" "elementData" "[Ljava/lang/Object;") ∈ mt_all := List.mem_append_left _ (List.mem_of_getElem? (i := 41) rfl)
theorem mw_42 : (Jvm.Cond.fieldLink "java/util/ArrayList" (48 : Nat) "java/util/ArrayList" "size" "I") ∈ mt_all := List.mem_append_left _ (List.mem_of_getElem? (i := 42) rfl)
theorem mw_43 : (Jvm.Cond.fieldLink "java/util/AbstractList" (7 : Nat) "java/util/AbstractList" "modCount" "I") ∈ mt_all := List.mem_append_left _ (List.mem_of_getElem? (i := 43) rfl)
theorem mw_44 : (Jvm.Cond.fieldLink "java/util/ArrayList" (63 : Nat) "java/util/ArrayList" "modCount" "I") ∈ mt_all := List.mem_append_left _ (List.mem_of_getElem? (i := 44) rfl)
theorem mw_45 : (Jvm.Cond.sameField "java/util/ArrayList" "java/util/AbstractList" "modCount" "I") ∈ mt_all := List.mem_append_left _ (List.mem_of_getElem? (i := 45) rfl)
theorem mw_46 : (Jvm.Cond.lays "java/util/ArrayList" "java/util/ArrayList" "elementData" "[Ljava/lang/Object;") ∈ mt_all := List.mem_append_left _ (List.mem_of_getElem? (i := 46) rfl)
theorem mw_47 : (Jvm.Cond.soleField "java/util/ArrayList" "elementData") ∈ mt_all := List.mem_append_left _ (List.mem_of_getElem? (i := 47) rfl)
theorem mw_48 : (Jvm.Cond.lays "java/util/ArrayList" "java/util/ArrayList" "size" "I") ∈ mt_all := List.mem_append_left _ (List.mem_of_getElem? (i := 48) rfl)
theorem mw_49 : (Jvm.Cond.soleField "java/util/ArrayList" "size") ∈ mt_all := List.mem_append_left _ (List.mem_of_getElem? (i := 49) rfl)
theorem mw_50 : (Jvm.Cond.lays "java/util/ArrayList" "java/util/AbstractList" "modCount" "I") ∈ mt_all := List.mem_append_left _ (List.mem_of_getElem? (i := 50) rfl)
theorem mw_51 : (Jvm.Cond.soleField "java/util/AbstractList" "modCount") ∈ mt_all := List.mem_append_left _ (List.mem_of_getElem? (i := 51) rfl)
theorem mw_52 : (Jvm.Cond.superclass "java/util/ArrayList" "java/util/AbstractList") ∈ mt_all := List.mem_append_left _ (List.mem_of_getElem? (i := 52) rfl)
theorem mw_53 : (Jvm.Cond.fieldLink "MeldTree" (11 : Nat) "MeldTree" "roots" "[LMeldTree$Node;") ∈ mt_all := List.mem_append_left _ (List.mem_of_getElem? (i := 53) rfl)
theorem mw_54 : (Jvm.Cond.fieldLink "MeldTree" (18 : Nat) "MeldTree" "nodes" "Ljava/util/ArrayList;") ∈ mt_all := List.mem_append_left _ (List.mem_of_getElem? (i := 54) rfl)
theorem mw_55 : (Jvm.Cond.fieldLink "MeldTree" (22 : Nat) "MeldTree" "count" "I") ∈ mt_all := List.mem_append_left _ (List.mem_of_getElem? (i := 55) rfl)
theorem mw_56 : (Jvm.Cond.laysFinal "MeldTree" "MeldTree" "roots" "[LMeldTree$Node;") ∈ mt_all := List.mem_append_left _ (List.mem_of_getElem? (i := 56) rfl)
theorem mw_57 : (Jvm.Cond.soleField "MeldTree" "roots") ∈ mt_all := List.mem_append_left _ (List.mem_of_getElem? (i := 57) rfl)
theorem mw_58 : (Jvm.Cond.laysFinal "MeldTree" "MeldTree" "nodes" "Ljava/util/ArrayList;") ∈ mt_all := List.mem_append_left _ (List.mem_of_getElem? (i := 58) rfl)
theorem mw_59 : (Jvm.Cond.soleField "MeldTree" "nodes") ∈ mt_all := List.mem_append_left _ (List.mem_of_getElem? (i := 59) rfl)
theorem mw_60 : (Jvm.Cond.lays "MeldTree" "MeldTree" "count" "I") ∈ mt_all := List.mem_append_right _ (List.mem_append_left _ (List.mem_of_getElem? (i := 0) rfl))
theorem mw_61 : (Jvm.Cond.soleField "MeldTree" "count") ∈ mt_all := List.mem_append_right _ (List.mem_append_left _ (List.mem_of_getElem? (i := 1) rfl))
theorem mw_62 : (Jvm.Cond.superclass "MeldTree" "java/lang/Object") ∈ mt_all := List.mem_append_right _ (List.mem_append_left _ (List.mem_of_getElem? (i := 2) rfl))
theorem mw_63 : (Jvm.Cond.methodLink "MeldTreeLaw" (86 : Nat) yXT_versions) ∈ mt_all := List.mem_append_right _ (List.mem_append_left _ (List.mem_of_getElem? (i := 3) rfl))
theorem mw_64 : (Jvm.Cond.instanceMethod yXT_versions) ∈ mt_all := List.mem_append_right _ (List.mem_append_left _ (List.mem_of_getElem? (i := 4) rfl))
theorem mw_65 : (Jvm.Cond.selects "MeldTree" yXT_versions yXT_versions) ∈ mt_all := List.mem_append_right _ (List.mem_append_left _ (List.mem_of_getElem? (i := 5) rfl))
theorem mw_66 : (Jvm.Cond.code yXT_versions prog_1_method_11_code (1 : Nat) (Option.some Jvm.ClassFile.FieldType.int)) ∈ mt_all := List.mem_append_right _ (List.mem_append_left _ (List.mem_of_getElem? (i := 6) rfl))
theorem mw_67 : (Jvm.Cond.methodLink "MeldTreeLaw" (90 : Nat) yXT_check) ∈ mt_all := List.mem_append_right _ (List.mem_append_left _ (List.mem_of_getElem? (i := 7) rfl))
theorem mw_68 : (Jvm.Cond.instanceMethod yXT_check) ∈ mt_all := List.mem_append_right _ (List.mem_append_left _ (List.mem_of_getElem? (i := 8) rfl))
theorem mw_69 : (Jvm.Cond.selects "MeldTree" yXT_check yXT_check) ∈ mt_all := List.mem_append_right _ (List.mem_append_left _ (List.mem_of_getElem? (i := 9) rfl))
theorem mw_70 : (Jvm.Cond.code yXT_check prog_1_method_12_code (3 : Nat) (Option.some Jvm.ClassFile.FieldType.int)) ∈ mt_all := List.mem_append_right _ (List.mem_append_left _ (List.mem_of_getElem? (i := 10) rfl))
theorem mw_71 : (Jvm.Cond.methodLink "MeldTree" (96 : Nat) yXT_isAt) ∈ mt_all := List.mem_append_right _ (List.mem_append_left _ (List.mem_of_getElem? (i := 11) rfl))
theorem mw_72 : (Jvm.Cond.static yXT_isAt) ∈ mt_all := List.mem_append_right _ (List.mem_append_left _ (List.mem_of_getElem? (i := 12) rfl))
theorem mw_73 : (Jvm.Cond.code yXT_isAt prog_1_method_25_code (3 : Nat) (Option.some Jvm.ClassFile.FieldType.boolean)) ∈ mt_all := List.mem_append_right _ (List.mem_append_left _ (List.mem_of_getElem? (i := 13) rfl))
theorem mw_74 : (Jvm.Cond.methodLink "MeldTree" (100 : Nat) yXA_size) ∈ mt_all := List.mem_append_right _ (List.mem_append_left _ (List.mem_of_getElem? (i := 14) rfl))
theorem mw_75 : (Jvm.Cond.instanceMethod yXA_size) ∈ mt_all := List.mem_append_right _ (List.mem_append_left _ (List.mem_of_getElem? (i := 15) rfl))
theorem mw_76 : (Jvm.Cond.selects "java/util/ArrayList" yXA_size yXA_size) ∈ mt_all := List.mem_append_right _ (List.mem_append_left _ (List.mem_of_getElem? (i := 16) rfl))
theorem mw_77 : (Jvm.Cond.code yXA_size prog_18_method_8_code (1 : Nat) (Option.some Jvm.ClassFile.FieldType.int)) ∈ mt_all := List.mem_append_right _ (List.mem_append_left _ (List.mem_of_getElem? (i := 17) rfl))
theorem mw_78 : (Jvm.Cond.methodLink "MeldTree" (104 : Nat) yXA_get) ∈ mt_all := List.mem_append_right _ (List.mem_append_left _ (List.mem_of_getElem? (i := 18) rfl))
theorem mw_79 : (Jvm.Cond.instanceMethod yXA_get) ∈ mt_all := List.mem_append_right _ (List.mem_append_left _ (List.mem_of_getElem? (i := 19) rfl))
theorem mw_80 : (Jvm.Cond.selects "java/util/ArrayList" yXA_get yXA_get) ∈ mt_all := List.mem_append_right _ (List.mem_append_left _ (List.mem_of_getElem? (i := 20) rfl))
theorem mw_81 : (Jvm.Cond.code yXA_get prog_18_method_20_code (2 : Nat) (Option.some (Jvm.ClassFile.FieldType.object "java/lang/Object"))) ∈ mt_all := List.mem_append_right _ (List.mem_append_left _ (List.mem_of_getElem? (i := 21) rfl))
theorem mw_82 : (Jvm.Cond.methodLink "java/util/ArrayList" (118 : Nat) yXO_checkIndex) ∈ mt_all := List.mem_append_right _ (List.mem_append_left _ (List.mem_of_getElem? (i := 22) rfl))
theorem mw_83 : (Jvm.Cond.static yXO_checkIndex) ∈ mt_all := List.mem_append_right _ (List.mem_append_left _ (List.mem_of_getElem? (i := 23) rfl))
theorem mw_84 : (Jvm.Cond.code yXO_checkIndex prog_23_method_17_code (2 : Nat) (Option.some Jvm.ClassFile.FieldType.int)) ∈ mt_all := List.mem_append_right _ (List.mem_append_left _ (List.mem_of_getElem? (i := 24) rfl))
theorem mw_85 : (Jvm.Cond.methodLink "java/util/Objects" (105 : Nat) yXP_checkIndex) ∈ mt_all := List.mem_append_right _ (List.mem_append_left _ (List.mem_of_getElem? (i := 25) rfl))
theorem mw_86 : (Jvm.Cond.static yXP_checkIndex) ∈ mt_all := List.mem_append_right _ (List.mem_append_left _ (List.mem_of_getElem? (i := 26) rfl))
theorem mw_87 : (Jvm.Cond.code yXP_checkIndex prog_27_method_11_code (3 : Nat) (Option.some Jvm.ClassFile.FieldType.int)) ∈ mt_all := List.mem_append_right _ (List.mem_append_left _ (List.mem_of_getElem? (i := 27) rfl))
theorem mw_88 : (Jvm.Cond.methodLink "java/util/ArrayList" (123 : Nat) yXA_elementData) ∈ mt_all := List.mem_append_right _ (List.mem_append_left _ (List.mem_of_getElem? (i := 28) rfl))
theorem mw_89 : (Jvm.Cond.instanceMethod yXA_elementData) ∈ mt_all := List.mem_append_right _ (List.mem_append_left _ (List.mem_of_getElem? (i := 29) rfl))
theorem mw_90 : (Jvm.Cond.selects "java/util/ArrayList" yXA_elementData yXA_elementData) ∈ mt_all := List.mem_append_right _ (List.mem_append_left _ (List.mem_of_getElem? (i := 30) rfl))
theorem mw_91 : (Jvm.Cond.code yXA_elementData prog_18_method_18_code (2 : Nat) (Option.some (Jvm.ClassFile.FieldType.object "java/lang/Object"))) ∈ mt_all := List.mem_append_right _ (List.mem_append_left _ (List.mem_of_getElem? (i := 31) rfl))
theorem mw_92 : (Jvm.Cond.methodLink "MeldTree" (108 : Nat) yXT_faultsOf) ∈ mt_all := List.mem_append_right _ (List.mem_append_left _ (List.mem_of_getElem? (i := 32) rfl))
theorem mw_93 : (Jvm.Cond.static yXT_faultsOf) ∈ mt_all := List.mem_append_right _ (List.mem_append_left _ (List.mem_of_getElem? (i := 33) rfl))
theorem mw_94 : (Jvm.Cond.code yXT_faultsOf prog_1_method_26_code (1 : Nat) (Option.some Jvm.ClassFile.FieldType.int)) ∈ mt_all := List.mem_append_right _ (List.mem_append_left _ (List.mem_of_getElem? (i := 34) rfl))
theorem mw_95 : (Jvm.Cond.methodLink "MeldTree" (153 : Nat) yXT_faultsOfLeaf) ∈ mt_all := List.mem_append_right _ (List.mem_append_left _ (List.mem_of_getElem? (i := 35) rfl))
theorem mw_96 : (Jvm.Cond.static yXT_faultsOfLeaf) ∈ mt_all := List.mem_append_right _ (List.mem_append_left _ (List.mem_of_getElem? (i := 36) rfl))
theorem mw_97 : (Jvm.Cond.code yXT_faultsOfLeaf prog_1_method_27_code (2 : Nat) (Option.some Jvm.ClassFile.FieldType.int)) ∈ mt_all := List.mem_append_right _ (List.mem_append_left _ (List.mem_of_getElem? (i := 37) rfl))
theorem mw_98 : (Jvm.Cond.methodLink "MeldTree" (156 : Nat) yXT_faultsOfFork) ∈ mt_all := List.mem_append_right _ (List.mem_append_left _ (List.mem_of_getElem? (i := 38) rfl))
theorem mw_99 : (Jvm.Cond.static yXT_faultsOfFork) ∈ mt_all := List.mem_append_right _ (List.mem_append_left _ (List.mem_of_getElem? (i := 39) rfl))
theorem mw_100 : (Jvm.Cond.code yXT_faultsOfFork prog_1_method_28_code (3 : Nat) (Option.some Jvm.ClassFile.FieldType.int)) ∈ mt_all := List.mem_append_right _ (List.mem_append_left _ (List.mem_of_getElem? (i := 40) rfl))
theorem mw_101 : (Jvm.Cond.methodLink "MeldTree" (70 : Nat) yXT_sizeOf) ∈ mt_all := List.mem_append_right _ (List.mem_append_left _ (List.mem_of_getElem? (i := 41) rfl))
theorem mw_102 : (Jvm.Cond.static yXT_sizeOf) ∈ mt_all := List.mem_append_right _ (List.mem_append_left _ (List.mem_of_getElem? (i := 42) rfl))
theorem mw_103 : (Jvm.Cond.code yXT_sizeOf prog_1_method_31_code (1 : Nat) (Option.some Jvm.ClassFile.FieldType.int)) ∈ mt_all := List.mem_append_right _ (List.mem_append_left _ (List.mem_of_getElem? (i := 43) rfl))
theorem mw_104 : (Jvm.Cond.methodLink "MeldTree" (134 : Nat) yXT_totalOf) ∈ mt_all := List.mem_append_right _ (List.mem_append_left _ (List.mem_of_getElem? (i := 44) rfl))
theorem mw_105 : (Jvm.Cond.static yXT_totalOf) ∈ mt_all := List.mem_append_right _ (List.mem_append_left _ (List.mem_of_getElem? (i := 45) rfl))
theorem mw_106 : (Jvm.Cond.code yXT_totalOf prog_1_method_32_code (1 : Nat) (Option.some Jvm.ClassFile.FieldType.long)) ∈ mt_all := List.mem_append_right _ (List.mem_append_left _ (List.mem_of_getElem? (i := 46) rfl))
theorem mw_107 : (Jvm.Cond.methodLink "MeldTreeLaw" (50 : Nat) yXL_put) ∈ mt_all := List.mem_append_right _ (List.mem_append_left _ (List.mem_of_getElem? (i := 47) rfl))
theorem mw_108 : (Jvm.Cond.static yXL_put) ∈ mt_all := List.mem_append_right _ (List.mem_append_left _ (List.mem_of_getElem? (i := 48) rfl))
theorem mw_109 : (Jvm.Cond.codeWith yXL_put method_3_code (6 : Nat) (Option.some Jvm.ClassFile.FieldType.int) [((0 : Nat), (12 : Nat), (15 : Nat), (13 : Nat)), ((0 : Nat), (12 : Nat), (19 : Nat), (15 : Nat))]) ∈ mt_all := List.mem_append_right _ (List.mem_append_left _ (List.mem_of_getElem? (i := 49) rfl))
theorem mw_110 : (Jvm.Cond.classLink "MeldTreeLaw" (13 : Nat) "java/lang/IndexOutOfBoundsException") ∈ mt_all := List.mem_append_right _ (List.mem_append_left _ (List.mem_of_getElem? (i := 50) rfl))
theorem mw_111 : (Jvm.Cond.classLink "MeldTreeLaw" (15 : Nat) "java/lang/IllegalStateException") ∈ mt_all := List.mem_append_right _ (List.mem_append_left _ (List.mem_of_getElem? (i := 51) rfl))
theorem mw_112 : (Jvm.Cond.methodLink "MeldTreeLaw" (7 : Nat) yXT_put) ∈ mt_all := List.mem_append_right _ (List.mem_append_left _ (List.mem_of_getElem? (i := 52) rfl))
theorem mw_113 : (Jvm.Cond.instanceMethod yXT_put) ∈ mt_all := List.mem_append_right _ (List.mem_append_left _ (List.mem_of_getElem? (i := 53) rfl))
theorem mw_114 : (Jvm.Cond.selects "MeldTree" yXT_put yXT_put) ∈ mt_all := List.mem_append_right _ (List.mem_append_left _ (List.mem_of_getElem? (i := 54) rfl))
theorem mw_115 : (Jvm.Cond.code yXT_put prog_1_method_2_code (5 : Nat) (Option.some Jvm.ClassFile.FieldType.int)) ∈ mt_all := List.mem_append_right _ (List.mem_append_left _ (List.mem_of_getElem? (i := 55) rfl))
theorem mw_116 : (Jvm.Cond.methodLink "MeldTree" (26 : Nat) yXT_needVersion) ∈ mt_all := List.mem_append_right _ (List.mem_append_left _ (List.mem_of_getElem? (i := 56) rfl))
theorem mw_117 : (Jvm.Cond.instanceMethod yXT_needVersion) ∈ mt_all := List.mem_append_right _ (List.mem_append_left _ (List.mem_of_getElem? (i := 57) rfl))
theorem mw_118 : (Jvm.Cond.code yXT_needVersion prog_1_method_13_code (2 : Nat) (Option.none : Option Jvm.ClassFile.FieldType)) ∈ mt_all := List.mem_append_right _ (List.mem_append_left _ (List.mem_of_getElem? (i := 58) rfl))
theorem mw_119 : (Jvm.Cond.classLink "MeldTree" (62 : Nat) "java/lang/IndexOutOfBoundsException") ∈ mt_all := List.mem_append_right _ (List.mem_append_left _ (List.mem_of_getElem? (i := 59) rfl))
theorem mw_120 : (Jvm.Cond.instantiable "java/lang/IndexOutOfBoundsException" (6 : Nat)) ∈ mt_all := List.mem_append_right _ (List.mem_append_right _ (List.mem_append_left _ (List.mem_of_getElem? (i := 0) rfl)))
theorem mw_121 : (Jvm.Cond.selects "java/lang/IndexOutOfBoundsException" (⟨"java/lang/Throwable", "fillInStackTrace", "(I)Ljava/lang/Throwable;"⟩ : MethodName) (⟨"java/lang/Throwable", "fillInStackTrace", "(I)Ljava/lang/Throwable;"⟩ : MethodName)) ∈ mt_all := List.mem_append_right _ (List.mem_append_right _ (List.mem_append_left _ (List.mem_of_getElem? (i := 1) rfl)))
theorem mw_122 : (Jvm.Cond.selects "java/lang/IndexOutOfBoundsException" (⟨"java/lang/Throwable", "fillInStackTrace", "()Ljava/lang/Throwable;"⟩ : MethodName) (⟨"java/lang/Throwable", "fillInStackTrace", "()Ljava/lang/Throwable;"⟩ : MethodName)) ∈ mt_all := List.mem_append_right _ (List.mem_append_right _ (List.mem_append_left _ (List.mem_of_getElem? (i := 2) rfl)))
theorem mw_123 : (Jvm.Cond.lays "java/lang/IndexOutOfBoundsException" "java/lang/Throwable" "cause" "Ljava/lang/Throwable;") ∈ mt_all := List.mem_append_right _ (List.mem_append_right _ (List.mem_append_left _ (List.mem_of_getElem? (i := 3) rfl)))
theorem mw_124 : (Jvm.Cond.lays "java/lang/Throwable" "java/lang/Throwable" "cause" "Ljava/lang/Throwable;") ∈ mt_all := List.mem_append_right _ (List.mem_append_right _ (List.mem_append_left _ (List.mem_of_getElem? (i := 4) rfl)))
theorem mw_125 : (Jvm.Cond.lays "java/lang/IndexOutOfBoundsException" "java/lang/Throwable" "stackTrace" "[Ljava/lang/StackTraceElement;") ∈ mt_all := List.mem_append_right _ (List.mem_append_right _ (List.mem_append_left _ (List.mem_of_getElem? (i := 5) rfl)))
theorem mw_126 : (Jvm.Cond.lays "java/lang/Throwable" "java/lang/Throwable" "stackTrace" "[Ljava/lang/StackTraceElement;") ∈ mt_all := List.mem_append_right _ (List.mem_append_right _ (List.mem_append_left _ (List.mem_of_getElem? (i := 6) rfl)))
theorem mw_127 : (Jvm.Cond.lays "java/lang/IndexOutOfBoundsException" "java/lang/Throwable" "suppressedExceptions" "Ljava/util/List;") ∈ mt_all := List.mem_append_right _ (List.mem_append_right _ (List.mem_append_left _ (List.mem_of_getElem? (i := 7) rfl)))
theorem mw_128 : (Jvm.Cond.lays "java/lang/Throwable" "java/lang/Throwable" "suppressedExceptions" "Ljava/util/List;") ∈ mt_all := List.mem_append_right _ (List.mem_append_right _ (List.mem_append_left _ (List.mem_of_getElem? (i := 8) rfl)))
theorem mw_129 : (Jvm.Cond.lays "java/lang/IndexOutOfBoundsException" "java/lang/Throwable" "detailMessage" "Ljava/lang/String;") ∈ mt_all := List.mem_append_right _ (List.mem_append_right _ (List.mem_append_left _ (List.mem_of_getElem? (i := 9) rfl)))
theorem mw_130 : (Jvm.Cond.lays "java/lang/Throwable" "java/lang/Throwable" "detailMessage" "Ljava/lang/String;") ∈ mt_all := List.mem_append_right _ (List.mem_append_right _ (List.mem_append_left _ (List.mem_of_getElem? (i := 10) rfl)))
theorem mw_131 : (Jvm.Cond.lays "java/lang/IndexOutOfBoundsException" "java/lang/Throwable" "backtrace" "Ljava/lang/Object;") ∈ mt_all := List.mem_append_right _ (List.mem_append_right _ (List.mem_append_left _ (List.mem_of_getElem? (i := 11) rfl)))
theorem mw_132 : (Jvm.Cond.lays "java/lang/Throwable" "java/lang/Throwable" "backtrace" "Ljava/lang/Object;") ∈ mt_all := List.mem_append_right _ (List.mem_append_right _ (List.mem_append_left _ (List.mem_of_getElem? (i := 12) rfl)))
theorem mw_133 : (Jvm.Cond.fieldLink "java/lang/Throwable" (198 : Nat) "java/lang/Throwable" "backtrace" "Ljava/lang/Object;") ∈ mt_all := List.mem_append_right _ (List.mem_append_right _ (List.mem_append_left _ (List.mem_of_getElem? (i := 13) rfl)))
theorem mw_134 : (Jvm.Cond.superclass "java/lang/Throwable" "java/lang/Object") ∈ mt_all := List.mem_append_right _ (List.mem_append_right _ (List.mem_append_left _ (List.mem_of_getElem? (i := 14) rfl)))
theorem mw_135 : (Jvm.Cond.instanceMethod (⟨"java/lang/Throwable", "<init>", "()V"⟩ : MethodName)) ∈ mt_all := List.mem_append_right _ (List.mem_append_right _ (List.mem_append_left _ (List.mem_of_getElem? (i := 15) rfl)))
theorem mw_136 : (Jvm.Cond.code (⟨"java/lang/Throwable", "<init>", "()V"⟩ : MethodName) prog_15_method_1_code (1 : Nat) (Option.none : Option Jvm.ClassFile.FieldType)) ∈ mt_all := List.mem_append_right _ (List.mem_append_right _ (List.mem_append_left _ (List.mem_of_getElem? (i := 16) rfl)))
theorem mw_137 : (Jvm.Cond.methodLink "java/lang/Throwable" (1 : Nat) objectInit) ∈ mt_all := List.mem_append_right _ (List.mem_append_right _ (List.mem_append_left _ (List.mem_of_getElem? (i := 17) rfl)))
theorem mw_138 : (Jvm.Cond.fieldLink "java/lang/Throwable" (13 : Nat) "java/lang/Throwable" "UNASSIGNED_STACK" "[Ljava/lang/StackTraceElement;") ∈ mt_all := List.mem_append_right _ (List.mem_append_right _ (List.mem_append_left _ (List.mem_of_getElem? (i := 18) rfl)))
theorem mw_139 : (Jvm.Cond.fieldLink "java/lang/Throwable" (20 : Nat) "java/lang/Throwable" "SUPPRESSED_SENTINEL" "Ljava/util/List;") ∈ mt_all := List.mem_append_right _ (List.mem_append_right _ (List.mem_append_left _ (List.mem_of_getElem? (i := 19) rfl)))
theorem mw_140 : (Jvm.Cond.methodLink "java/lang/Throwable" (27 : Nat) (⟨"java/lang/Throwable", "fillInStackTrace", "()Ljava/lang/Throwable;"⟩ : MethodName)) ∈ mt_all := List.mem_append_right _ (List.mem_append_right _ (List.mem_append_left _ (List.mem_of_getElem? (i := 20) rfl)))
theorem mw_141 : (Jvm.Cond.instanceMethod (⟨"java/lang/Throwable", "fillInStackTrace", "()Ljava/lang/Throwable;"⟩ : MethodName)) ∈ mt_all := List.mem_append_right _ (List.mem_append_right _ (List.mem_append_left _ (List.mem_of_getElem? (i := 21) rfl)))
theorem mw_142 : (Jvm.Cond.sameMethod "java/lang/Throwable" "java/lang/Throwable" "fillInStackTrace" "()Ljava/lang/Throwable;") ∈ mt_all := List.mem_append_right _ (List.mem_append_right _ (List.mem_append_left _ (List.mem_of_getElem? (i := 22) rfl)))
theorem mw_143 : (Jvm.Cond.selects "java/lang/IllegalStateException" (⟨"java/lang/Throwable", "fillInStackTrace", "()Ljava/lang/Throwable;"⟩ : MethodName) (⟨"java/lang/Throwable", "fillInStackTrace", "()Ljava/lang/Throwable;"⟩ : MethodName)) ∈ mt_all := List.mem_append_right _ (List.mem_append_right _ (List.mem_append_left _ (List.mem_of_getElem? (i := 23) rfl)))
theorem mw_144 : (Jvm.Cond.selects "java/util/NoSuchElementException" (⟨"java/lang/Throwable", "fillInStackTrace", "()Ljava/lang/Throwable;"⟩ : MethodName) (⟨"java/lang/Throwable", "fillInStackTrace", "()Ljava/lang/Throwable;"⟩ : MethodName)) ∈ mt_all := List.mem_append_right _ (List.mem_append_right _ (List.mem_append_left _ (List.mem_of_getElem? (i := 24) rfl)))
theorem mw_145 : (Jvm.Cond.codeSync (⟨"java/lang/Throwable", "fillInStackTrace", "()Ljava/lang/Throwable;"⟩ : MethodName) prog_15_method_18_code (1 : Nat) (Option.some (Jvm.ClassFile.FieldType.object "java/lang/Throwable"))) ∈ mt_all := List.mem_append_right _ (List.mem_append_right _ (List.mem_append_left _ (List.mem_of_getElem? (i := 25) rfl)))
theorem mw_146 : (Jvm.Cond.methodLink "java/lang/Throwable" (202 : Nat) (⟨"java/lang/Throwable", "fillInStackTrace", "(I)Ljava/lang/Throwable;"⟩ : MethodName)) ∈ mt_all := List.mem_append_right _ (List.mem_append_right _ (List.mem_append_left _ (List.mem_of_getElem? (i := 26) rfl)))
theorem mw_147 : (Jvm.Cond.instanceMethod (⟨"java/lang/Throwable", "fillInStackTrace", "(I)Ljava/lang/Throwable;"⟩ : MethodName)) ∈ mt_all := List.mem_append_right _ (List.mem_append_right _ (List.mem_append_left _ (List.mem_of_getElem? (i := 27) rfl)))
theorem mw_148 : (Jvm.Cond.instantiable "java/lang/Throwable" (6 : Nat)) ∈ mt_all := List.mem_append_right _ (List.mem_append_right _ (List.mem_append_left _ (List.mem_of_getElem? (i := 28) rfl)))
theorem mw_149 : (Jvm.Cond.native (⟨"java/lang/Throwable", "fillInStackTrace", "(I)Ljava/lang/Throwable;"⟩ : MethodName)) ∈ mt_all := List.mem_append_right _ (List.mem_append_right _ (List.mem_append_left _ (List.mem_of_getElem? (i := 29) rfl)))
theorem mw_150 : (Jvm.Cond.methodLink "MeldTree" (66 : Nat) (⟨"java/lang/IndexOutOfBoundsException", "<init>", "(Ljava/lang/String;)V"⟩ : MethodName)) ∈ mt_all := List.mem_append_right _ (List.mem_append_right _ (List.mem_append_left _ (List.mem_of_getElem? (i := 30) rfl)))
theorem mw_151 : (Jvm.Cond.instanceMethod (⟨"java/lang/IndexOutOfBoundsException", "<init>", "(Ljava/lang/String;)V"⟩ : MethodName)) ∈ mt_all := List.mem_append_right _ (List.mem_append_right _ (List.mem_append_left _ (List.mem_of_getElem? (i := 31) rfl)))
theorem mw_152 : (Jvm.Cond.code (⟨"java/lang/IndexOutOfBoundsException", "<init>", "(Ljava/lang/String;)V"⟩ : MethodName) prog_9_method_2_code (2 : Nat) (Option.none : Option Jvm.ClassFile.FieldType)) ∈ mt_all := List.mem_append_right _ (List.mem_append_right _ (List.mem_append_left _ (List.mem_of_getElem? (i := 32) rfl)))
theorem mw_153 : (Jvm.Cond.methodLink "java/lang/IndexOutOfBoundsException" (7 : Nat) (⟨"java/lang/RuntimeException", "<init>", "(Ljava/lang/String;)V"⟩ : MethodName)) ∈ mt_all := List.mem_append_right _ (List.mem_append_right _ (List.mem_append_left _ (List.mem_of_getElem? (i := 33) rfl)))
theorem mw_154 : (Jvm.Cond.instanceMethod (⟨"java/lang/RuntimeException", "<init>", "(Ljava/lang/String;)V"⟩ : MethodName)) ∈ mt_all := List.mem_append_right _ (List.mem_append_right _ (List.mem_append_left _ (List.mem_of_getElem? (i := 34) rfl)))
theorem mw_155 : (Jvm.Cond.code (⟨"java/lang/RuntimeException", "<init>", "(Ljava/lang/String;)V"⟩ : MethodName) prog_12_method_2_code (2 : Nat) (Option.none : Option Jvm.ClassFile.FieldType)) ∈ mt_all := List.mem_append_right _ (List.mem_append_right _ (List.mem_append_left _ (List.mem_of_getElem? (i := 35) rfl)))
theorem mw_156 : (Jvm.Cond.methodLink "java/lang/RuntimeException" (7 : Nat) (⟨"java/lang/Exception", "<init>", "(Ljava/lang/String;)V"⟩ : MethodName)) ∈ mt_all := List.mem_append_right _ (List.mem_append_right _ (List.mem_append_left _ (List.mem_of_getElem? (i := 36) rfl)))
theorem mw_157 : (Jvm.Cond.instanceMethod (⟨"java/lang/Exception", "<init>", "(Ljava/lang/String;)V"⟩ : MethodName)) ∈ mt_all := List.mem_append_right _ (List.mem_append_right _ (List.mem_append_left _ (List.mem_of_getElem? (i := 37) rfl)))
theorem mw_158 : (Jvm.Cond.code (⟨"java/lang/Exception", "<init>", "(Ljava/lang/String;)V"⟩ : MethodName) prog_7_method_2_code (2 : Nat) (Option.none : Option Jvm.ClassFile.FieldType)) ∈ mt_all := List.mem_append_right _ (List.mem_append_right _ (List.mem_append_left _ (List.mem_of_getElem? (i := 38) rfl)))
theorem mw_159 : (Jvm.Cond.methodLink "java/lang/Exception" (7 : Nat) (⟨"java/lang/Throwable", "<init>", "(Ljava/lang/String;)V"⟩ : MethodName)) ∈ mt_all := List.mem_append_right _ (List.mem_append_right _ (List.mem_append_left _ (List.mem_of_getElem? (i := 39) rfl)))
theorem mw_160 : (Jvm.Cond.instanceMethod (⟨"java/lang/Throwable", "<init>", "(Ljava/lang/String;)V"⟩ : MethodName)) ∈ mt_all := List.mem_append_right _ (List.mem_append_right _ (List.mem_append_left _ (List.mem_of_getElem? (i := 40) rfl)))
theorem mw_161 : (Jvm.Cond.code (⟨"java/lang/Throwable", "<init>", "(Ljava/lang/String;)V"⟩ : MethodName) prog_15_method_2_code (2 : Nat) (Option.none : Option Jvm.ClassFile.FieldType)) ∈ mt_all := List.mem_append_right _ (List.mem_append_right _ (List.mem_append_left _ (List.mem_of_getElem? (i := 41) rfl)))
theorem mw_162 : (Jvm.Cond.fieldLink "java/lang/Throwable" (31 : Nat) "java/lang/Throwable" "detailMessage" "Ljava/lang/String;") ∈ mt_all := List.mem_append_right _ (List.mem_append_right _ (List.mem_append_left _ (List.mem_of_getElem? (i := 42) rfl)))
theorem mw_163 : (Jvm.Cond.fieldLink "java/lang/Throwable" (7 : Nat) "java/lang/Throwable" "cause" "Ljava/lang/Throwable;") ∈ mt_all := List.mem_append_right _ (List.mem_append_right _ (List.mem_append_left _ (List.mem_of_getElem? (i := 43) rfl)))
theorem mw_164 : (Jvm.Cond.fieldLink "java/lang/Throwable" (17 : Nat) "java/lang/Throwable" "stackTrace" "[Ljava/lang/StackTraceElement;") ∈ mt_all := List.mem_append_right _ (List.mem_append_right _ (List.mem_append_left _ (List.mem_of_getElem? (i := 44) rfl)))
theorem mw_165 : (Jvm.Cond.fieldLink "java/lang/Throwable" (24 : Nat) "java/lang/Throwable" "suppressedExceptions" "Ljava/util/List;") ∈ mt_all := List.mem_append_right _ (List.mem_append_right _ (List.mem_append_left _ (List.mem_of_getElem? (i := 45) rfl)))
theorem mw_166 : (Jvm.Cond.soleField "java/lang/Throwable" "backtrace") ∈ mt_all := List.mem_append_right _ (List.mem_append_right _ (List.mem_append_left _ (List.mem_of_getElem? (i := 46) rfl)))
theorem mw_167 : (Jvm.Cond.soleField "java/lang/Throwable" "detailMessage") ∈ mt_all := List.mem_append_right _ (List.mem_append_right _ (List.mem_append_left _ (List.mem_of_getElem? (i := 47) rfl)))
theorem mw_168 : (Jvm.Cond.soleField "java/lang/Throwable" "cause") ∈ mt_all := List.mem_append_right _ (List.mem_append_right _ (List.mem_append_left _ (List.mem_of_getElem? (i := 48) rfl)))
theorem mw_169 : (Jvm.Cond.soleField "java/lang/Throwable" "stackTrace") ∈ mt_all := List.mem_append_right _ (List.mem_append_right _ (List.mem_append_left _ (List.mem_of_getElem? (i := 49) rfl)))
theorem mw_170 : (Jvm.Cond.lays "java/lang/IndexOutOfBoundsException" "java/lang/Throwable" "depth" "I") ∈ mt_all := List.mem_append_right _ (List.mem_append_right _ (List.mem_append_left _ (List.mem_of_getElem? (i := 50) rfl)))
theorem mw_171 : (Jvm.Cond.soleField "java/lang/Throwable" "depth") ∈ mt_all := List.mem_append_right _ (List.mem_append_right _ (List.mem_append_left _ (List.mem_of_getElem? (i := 51) rfl)))
theorem mw_172 : (Jvm.Cond.soleField "java/lang/Throwable" "suppressedExceptions") ∈ mt_all := List.mem_append_right _ (List.mem_append_right _ (List.mem_append_left _ (List.mem_of_getElem? (i := 52) rfl)))
theorem mw_173 : (Jvm.Cond.superclass "java/lang/IndexOutOfBoundsException" "java/lang/RuntimeException") ∈ mt_all := List.mem_append_right _ (List.mem_append_right _ (List.mem_append_left _ (List.mem_of_getElem? (i := 53) rfl)))
theorem mw_174 : (Jvm.Cond.arrayClass Jvm.ClassFile.FieldType.byte) ∈ mt_all := List.mem_append_right _ (List.mem_append_right _ (List.mem_append_left _ (List.mem_of_getElem? (i := 54) rfl)))
theorem mw_175 : (Jvm.Cond.methodLink "MeldTree" (30 : Nat) yXT_needKey) ∈ mt_all := List.mem_append_right _ (List.mem_append_right _ (List.mem_append_left _ (List.mem_of_getElem? (i := 55) rfl)))
theorem mw_176 : (Jvm.Cond.static yXT_needKey) ∈ mt_all := List.mem_append_right _ (List.mem_append_right _ (List.mem_append_left _ (List.mem_of_getElem? (i := 56) rfl)))
theorem mw_177 : (Jvm.Cond.code yXT_needKey prog_1_method_14_code (1 : Nat) (Option.none : Option Jvm.ClassFile.FieldType)) ∈ mt_all := List.mem_append_right _ (List.mem_append_right _ (List.mem_append_left _ (List.mem_of_getElem? (i := 57) rfl)))
theorem mw_178 : (Jvm.Cond.methodLink "MeldTree" (33 : Nat) yXT_needRoom) ∈ mt_all := List.mem_append_right _ (List.mem_append_right _ (List.mem_append_left _ (List.mem_of_getElem? (i := 58) rfl)))
theorem mw_179 : (Jvm.Cond.instanceMethod yXT_needRoom) ∈ mt_all := List.mem_append_right _ (List.mem_append_right _ (List.mem_append_left _ (List.mem_of_getElem? (i := 59) rfl)))
theorem mw_180 : (Jvm.Cond.code yXT_needRoom prog_1_method_15_code (1 : Nat) (Option.none : Option Jvm.ClassFile.FieldType)) ∈ mt_all := List.mem_append_right _ (List.mem_append_right _ (List.mem_append_right _ (List.mem_append_left _ (List.mem_of_getElem? (i := 0) rfl))))
theorem mw_181 : (Jvm.Cond.classLink "MeldTree" (115 : Nat) "java/lang/IllegalStateException") ∈ mt_all := List.mem_append_right _ (List.mem_append_right _ (List.mem_append_right _ (List.mem_append_left _ (List.mem_of_getElem? (i := 1) rfl))))
theorem mw_182 : (Jvm.Cond.instantiable "java/lang/IllegalStateException" (6 : Nat)) ∈ mt_all := List.mem_append_right _ (List.mem_append_right _ (List.mem_append_right _ (List.mem_append_left _ (List.mem_of_getElem? (i := 2) rfl))))
theorem mw_183 : (Jvm.Cond.selects "java/lang/IllegalStateException" (⟨"java/lang/Throwable", "fillInStackTrace", "(I)Ljava/lang/Throwable;"⟩ : MethodName) (⟨"java/lang/Throwable", "fillInStackTrace", "(I)Ljava/lang/Throwable;"⟩ : MethodName)) ∈ mt_all := List.mem_append_right _ (List.mem_append_right _ (List.mem_append_right _ (List.mem_append_left _ (List.mem_of_getElem? (i := 3) rfl))))
theorem mw_184 : (Jvm.Cond.lays "java/lang/IllegalStateException" "java/lang/Throwable" "cause" "Ljava/lang/Throwable;") ∈ mt_all := List.mem_append_right _ (List.mem_append_right _ (List.mem_append_right _ (List.mem_append_left _ (List.mem_of_getElem? (i := 4) rfl))))
theorem mw_185 : (Jvm.Cond.lays "java/lang/IllegalStateException" "java/lang/Throwable" "stackTrace" "[Ljava/lang/StackTraceElement;") ∈ mt_all := List.mem_append_right _ (List.mem_append_right _ (List.mem_append_right _ (List.mem_append_left _ (List.mem_of_getElem? (i := 5) rfl))))
theorem mw_186 : (Jvm.Cond.lays "java/lang/IllegalStateException" "java/lang/Throwable" "suppressedExceptions" "Ljava/util/List;") ∈ mt_all := List.mem_append_right _ (List.mem_append_right _ (List.mem_append_right _ (List.mem_append_left _ (List.mem_of_getElem? (i := 6) rfl))))
theorem mw_187 : (Jvm.Cond.lays "java/lang/IllegalStateException" "java/lang/Throwable" "detailMessage" "Ljava/lang/String;") ∈ mt_all := List.mem_append_right _ (List.mem_append_right _ (List.mem_append_right _ (List.mem_append_left _ (List.mem_of_getElem? (i := 7) rfl))))
theorem mw_188 : (Jvm.Cond.lays "java/lang/IllegalStateException" "java/lang/Throwable" "backtrace" "Ljava/lang/Object;") ∈ mt_all := List.mem_append_right _ (List.mem_append_right _ (List.mem_append_right _ (List.mem_append_left _ (List.mem_of_getElem? (i := 8) rfl))))
theorem mw_189 : (Jvm.Cond.methodLink "MeldTree" (119 : Nat) (⟨"java/lang/IllegalStateException", "<init>", "(Ljava/lang/String;)V"⟩ : MethodName)) ∈ mt_all := List.mem_append_right _ (List.mem_append_right _ (List.mem_append_right _ (List.mem_append_left _ (List.mem_of_getElem? (i := 9) rfl))))
theorem mw_190 : (Jvm.Cond.instanceMethod (⟨"java/lang/IllegalStateException", "<init>", "(Ljava/lang/String;)V"⟩ : MethodName)) ∈ mt_all := List.mem_append_right _ (List.mem_append_right _ (List.mem_append_right _ (List.mem_append_left _ (List.mem_of_getElem? (i := 10) rfl))))
theorem mw_191 : (Jvm.Cond.code (⟨"java/lang/IllegalStateException", "<init>", "(Ljava/lang/String;)V"⟩ : MethodName) prog_8_method_2_code (2 : Nat) (Option.none : Option Jvm.ClassFile.FieldType)) ∈ mt_all := List.mem_append_right _ (List.mem_append_right _ (List.mem_append_right _ (List.mem_append_left _ (List.mem_of_getElem? (i := 11) rfl))))
theorem mw_192 : (Jvm.Cond.methodLink "java/lang/IllegalStateException" (7 : Nat) (⟨"java/lang/RuntimeException", "<init>", "(Ljava/lang/String;)V"⟩ : MethodName)) ∈ mt_all := List.mem_append_right _ (List.mem_append_right _ (List.mem_append_right _ (List.mem_append_left _ (List.mem_of_getElem? (i := 12) rfl))))
theorem mw_193 : (Jvm.Cond.lays "java/lang/IllegalStateException" "java/lang/Throwable" "depth" "I") ∈ mt_all := List.mem_append_right _ (List.mem_append_right _ (List.mem_append_right _ (List.mem_append_left _ (List.mem_of_getElem? (i := 13) rfl))))
theorem mw_194 : (Jvm.Cond.superclass "java/lang/IllegalStateException" "java/lang/RuntimeException") ∈ mt_all := List.mem_append_right _ (List.mem_append_right _ (List.mem_append_right _ (List.mem_append_left _ (List.mem_of_getElem? (i := 14) rfl))))
theorem mw_195 : (Jvm.Cond.instantiable "MeldTree$Node" (7 : Nat)) ∈ mt_all := List.mem_append_right _ (List.mem_append_right _ (List.mem_append_right _ (List.mem_append_left _ (List.mem_of_getElem? (i := 15) rfl))))
theorem mw_196 : (Jvm.Cond.instanceMethod yXN_init) ∈ mt_all := List.mem_append_right _ (List.mem_append_right _ (List.mem_append_right _ (List.mem_append_left _ (List.mem_of_getElem? (i := 16) rfl))))
theorem mw_197 : (Jvm.Cond.code yXN_init prog_2_method_1_code (3 : Nat) (Option.none : Option Jvm.ClassFile.FieldType)) ∈ mt_all := List.mem_append_right _ (List.mem_append_right _ (List.mem_append_right _ (List.mem_append_left _ (List.mem_of_getElem? (i := 17) rfl))))
theorem mw_198 : (Jvm.Cond.methodLink "MeldTree$Node" (1 : Nat) objectInit) ∈ mt_all := List.mem_append_right _ (List.mem_append_right _ (List.mem_append_right _ (List.mem_append_left _ (List.mem_of_getElem? (i := 18) rfl))))
theorem mw_199 : (Jvm.Cond.fieldLink "MeldTree$Node" (7 : Nat) "MeldTree$Node" "height" "I") ∈ mt_all := List.mem_append_right _ (List.mem_append_right _ (List.mem_append_right _ (List.mem_append_left _ (List.mem_of_getElem? (i := 19) rfl))))
theorem mw_200 : (Jvm.Cond.fieldLink "MeldTree$Node" (13 : Nat) "MeldTree$Node" "first" "I") ∈ mt_all := List.mem_append_right _ (List.mem_append_right _ (List.mem_append_right _ (List.mem_append_left _ (List.mem_of_getElem? (i := 20) rfl))))
theorem mw_201 : (Jvm.Cond.fieldLink "MeldTree$Node" (16 : Nat) "MeldTree$Node" "low" "LMeldTree$Node;") ∈ mt_all := List.mem_append_right _ (List.mem_append_right _ (List.mem_append_right _ (List.mem_append_left _ (List.mem_of_getElem? (i := 21) rfl))))
theorem mw_202 : (Jvm.Cond.fieldLink "MeldTree$Node" (20 : Nat) "MeldTree$Node" "high" "LMeldTree$Node;") ∈ mt_all := List.mem_append_right _ (List.mem_append_right _ (List.mem_append_right _ (List.mem_append_left _ (List.mem_of_getElem? (i := 22) rfl))))
theorem mw_203 : (Jvm.Cond.fieldLink "MeldTree$Node" (23 : Nat) "MeldTree$Node" "value" "I") ∈ mt_all := List.mem_append_right _ (List.mem_append_right _ (List.mem_append_right _ (List.mem_append_left _ (List.mem_of_getElem? (i := 23) rfl))))
theorem mw_204 : (Jvm.Cond.fieldLink "MeldTree$Node" (26 : Nat) "MeldTree$Node" "size" "I") ∈ mt_all := List.mem_append_right _ (List.mem_append_right _ (List.mem_append_right _ (List.mem_append_left _ (List.mem_of_getElem? (i := 24) rfl))))
theorem mw_205 : (Jvm.Cond.fieldLink "MeldTree$Node" (29 : Nat) "MeldTree$Node" "total" "J") ∈ mt_all := List.mem_append_right _ (List.mem_append_right _ (List.mem_append_right _ (List.mem_append_left _ (List.mem_of_getElem? (i := 25) rfl))))
theorem mw_206 : (Jvm.Cond.laysFinal "MeldTree$Node" "MeldTree$Node" "height" "I") ∈ mt_all := List.mem_append_right _ (List.mem_append_right _ (List.mem_append_right _ (List.mem_append_left _ (List.mem_of_getElem? (i := 26) rfl))))
theorem mw_207 : (Jvm.Cond.soleField "MeldTree$Node" "height") ∈ mt_all := List.mem_append_right _ (List.mem_append_right _ (List.mem_append_right _ (List.mem_append_left _ (List.mem_of_getElem? (i := 27) rfl))))
theorem mw_208 : (Jvm.Cond.laysFinal "MeldTree$Node" "MeldTree$Node" "first" "I") ∈ mt_all := List.mem_append_right _ (List.mem_append_right _ (List.mem_append_right _ (List.mem_append_left _ (List.mem_of_getElem? (i := 28) rfl))))
theorem mw_209 : (Jvm.Cond.soleField "MeldTree$Node" "first") ∈ mt_all := List.mem_append_right _ (List.mem_append_right _ (List.mem_append_right _ (List.mem_append_left _ (List.mem_of_getElem? (i := 29) rfl))))
theorem mw_210 : (Jvm.Cond.laysFinal "MeldTree$Node" "MeldTree$Node" "low" "LMeldTree$Node;") ∈ mt_all := List.mem_append_right _ (List.mem_append_right _ (List.mem_append_right _ (List.mem_append_left _ (List.mem_of_getElem? (i := 30) rfl))))
theorem mw_211 : (Jvm.Cond.soleField "MeldTree$Node" "low") ∈ mt_all := List.mem_append_right _ (List.mem_append_right _ (List.mem_append_right _ (List.mem_append_left _ (List.mem_of_getElem? (i := 31) rfl))))
theorem mw_212 : (Jvm.Cond.laysFinal "MeldTree$Node" "MeldTree$Node" "high" "LMeldTree$Node;") ∈ mt_all := List.mem_append_right _ (List.mem_append_right _ (List.mem_append_right _ (List.mem_append_left _ (List.mem_of_getElem? (i := 32) rfl))))
theorem mw_213 : (Jvm.Cond.soleField "MeldTree$Node" "high") ∈ mt_all := List.mem_append_right _ (List.mem_append_right _ (List.mem_append_right _ (List.mem_append_left _ (List.mem_of_getElem? (i := 33) rfl))))
theorem mw_214 : (Jvm.Cond.laysFinal "MeldTree$Node" "MeldTree$Node" "value" "I") ∈ mt_all := List.mem_append_right _ (List.mem_append_right _ (List.mem_append_right _ (List.mem_append_left _ (List.mem_of_getElem? (i := 34) rfl))))
theorem mw_215 : (Jvm.Cond.soleField "MeldTree$Node" "value") ∈ mt_all := List.mem_append_right _ (List.mem_append_right _ (List.mem_append_right _ (List.mem_append_left _ (List.mem_of_getElem? (i := 35) rfl))))
theorem mw_216 : (Jvm.Cond.laysFinal "MeldTree$Node" "MeldTree$Node" "size" "I") ∈ mt_all := List.mem_append_right _ (List.mem_append_right _ (List.mem_append_right _ (List.mem_append_left _ (List.mem_of_getElem? (i := 36) rfl))))
theorem mw_217 : (Jvm.Cond.soleField "MeldTree$Node" "size") ∈ mt_all := List.mem_append_right _ (List.mem_append_right _ (List.mem_append_right _ (List.mem_append_left _ (List.mem_of_getElem? (i := 37) rfl))))
theorem mw_218 : (Jvm.Cond.laysFinal "MeldTree$Node" "MeldTree$Node" "total" "J") ∈ mt_all := List.mem_append_right _ (List.mem_append_right _ (List.mem_append_right _ (List.mem_append_left _ (List.mem_of_getElem? (i := 38) rfl))))
theorem mw_219 : (Jvm.Cond.soleField "MeldTree$Node" "total") ∈ mt_all := List.mem_append_right _ (List.mem_append_right _ (List.mem_append_right _ (List.mem_append_left _ (List.mem_of_getElem? (i := 39) rfl))))
theorem mw_220 : (Jvm.Cond.superclass "MeldTree$Node" "java/lang/Object") ∈ mt_all := List.mem_append_right _ (List.mem_append_right _ (List.mem_append_right _ (List.mem_append_left _ (List.mem_of_getElem? (i := 40) rfl))))
theorem mw_221 : (Jvm.Cond.methodLink "MeldTree" (39 : Nat) yXA_add) ∈ mt_all := List.mem_append_right _ (List.mem_append_right _ (List.mem_append_right _ (List.mem_append_left _ (List.mem_of_getElem? (i := 41) rfl))))
theorem mw_222 : (Jvm.Cond.instanceMethod yXA_add) ∈ mt_all := List.mem_append_right _ (List.mem_append_right _ (List.mem_append_right _ (List.mem_append_left _ (List.mem_of_getElem? (i := 42) rfl))))
theorem mw_223 : (Jvm.Cond.selects "java/util/ArrayList" yXA_add yXA_add) ∈ mt_all := List.mem_append_right _ (List.mem_append_right _ (List.mem_append_right _ (List.mem_append_left _ (List.mem_of_getElem? (i := 43) rfl))))
theorem mw_224 : (Jvm.Cond.code yXA_add prog_18_method_25_code (2 : Nat) (Option.some Jvm.ClassFile.FieldType.boolean)) ∈ mt_all := List.mem_append_right _ (List.mem_append_right _ (List.mem_append_right _ (List.mem_append_left _ (List.mem_of_getElem? (i := 44) rfl))))
theorem mw_225 : (Jvm.Cond.methodLink "java/util/ArrayList" (131 : Nat) yXA_add_2) ∈ mt_all := List.mem_append_right _ (List.mem_append_right _ (List.mem_append_right _ (List.mem_append_left _ (List.mem_of_getElem? (i := 45) rfl))))
theorem mw_226 : (Jvm.Cond.instanceMethod yXA_add_2) ∈ mt_all := List.mem_append_right _ (List.mem_append_right _ (List.mem_append_right _ (List.mem_append_left _ (List.mem_of_getElem? (i := 46) rfl))))
theorem mw_227 : (Jvm.Cond.code yXA_add_2 prog_18_method_24_code (4 : Nat) (Option.none : Option Jvm.ClassFile.FieldType)) ∈ mt_all := List.mem_append_right _ (List.mem_append_right _ (List.mem_append_right _ (List.mem_append_left _ (List.mem_of_getElem? (i := 47) rfl))))
theorem mw_228 : (Jvm.Cond.methodLink "java/util/ArrayList" (129 : Nat) yXA_grow) ∈ mt_all := List.mem_append_right _ (List.mem_append_right _ (List.mem_append_right _ (List.mem_append_left _ (List.mem_of_getElem? (i := 48) rfl))))
theorem mw_229 : (Jvm.Cond.instanceMethod yXA_grow) ∈ mt_all := List.mem_append_right _ (List.mem_append_right _ (List.mem_append_right _ (List.mem_append_left _ (List.mem_of_getElem? (i := 49) rfl))))
theorem mw_230 : (Jvm.Cond.code yXA_grow prog_18_method_7_code (1 : Nat) (Option.some (Jvm.ClassFile.FieldType.array (Jvm.ClassFile.FieldType.object "java/lang/Object")))) ∈ mt_all := List.mem_append_right _ (List.mem_append_right _ (List.mem_append_right _ (List.mem_append_left _ (List.mem_of_getElem? (i := 50) rfl))))
theorem mw_231 : (Jvm.Cond.methodLink "java/util/ArrayList" (69 : Nat) yXA_grow_2) ∈ mt_all := List.mem_append_right _ (List.mem_append_right _ (List.mem_append_right _ (List.mem_append_left _ (List.mem_of_getElem? (i := 51) rfl))))
theorem mw_232 : (Jvm.Cond.instanceMethod yXA_grow_2) ∈ mt_all := List.mem_append_right _ (List.mem_append_right _ (List.mem_append_right _ (List.mem_append_left _ (List.mem_of_getElem? (i := 52) rfl))))
theorem mw_233 : (Jvm.Cond.code yXA_grow_2 prog_18_method_6_code (4 : Nat) (Option.some (Jvm.ClassFile.FieldType.array (Jvm.ClassFile.FieldType.object "java/lang/Object")))) ∈ mt_all := List.mem_append_right _ (List.mem_append_right _ (List.mem_append_right _ (List.mem_append_left _ (List.mem_of_getElem? (i := 53) rfl))))
theorem mw_234 : (Jvm.Cond.methodLink "java/util/ArrayList" (73 : Nat) yXS_newLength) ∈ mt_all := List.mem_append_right _ (List.mem_append_right _ (List.mem_append_right _ (List.mem_append_left _ (List.mem_of_getElem? (i := 54) rfl))))
theorem mw_235 : (Jvm.Cond.static yXS_newLength) ∈ mt_all := List.mem_append_right _ (List.mem_append_right _ (List.mem_append_right _ (List.mem_append_left _ (List.mem_of_getElem? (i := 55) rfl))))
theorem mw_236 : (Jvm.Cond.code yXS_newLength prog_26_method_27_code (4 : Nat) (Option.some Jvm.ClassFile.FieldType.int)) ∈ mt_all := List.mem_append_right _ (List.mem_append_right _ (List.mem_append_right _ (List.mem_append_left _ (List.mem_of_getElem? (i := 56) rfl))))
theorem mw_237 : (Jvm.Cond.methodLink "jdk/internal/util/ArraysSupport" (194 : Nat) (⟨"java/lang/Math", "max", "(II)I"⟩ : MethodName)) ∈ mt_all := List.mem_append_right _ (List.mem_append_right _ (List.mem_append_right _ (List.mem_append_left _ (List.mem_of_getElem? (i := 57) rfl))))
theorem mw_238 : (Jvm.Cond.static (⟨"java/lang/Math", "max", "(II)I"⟩ : MethodName)) ∈ mt_all := List.mem_append_right _ (List.mem_append_right _ (List.mem_append_right _ (List.mem_append_left _ (List.mem_of_getElem? (i := 58) rfl))))
theorem mw_239 : (Jvm.Cond.code (⟨"java/lang/Math", "max", "(II)I"⟩ : MethodName) prog_11_method_65_code (2 : Nat) (Option.some Jvm.ClassFile.FieldType.int)) ∈ mt_all := List.mem_append_right _ (List.mem_append_right _ (List.mem_append_right _ (List.mem_append_left _ (List.mem_of_getElem? (i := 59) rfl))))
theorem mw_240 : (Jvm.Cond.constant "jdk/internal/util/ArraysSupport" (200 : Nat) (2147483639 : Int32)) ∈ mt_all := List.mem_append_right _ (List.mem_append_right _ (List.mem_append_right _ (List.mem_append_right _ (List.mem_append_left _ (List.mem_of_getElem? (i := 0) rfl)))))
theorem mw_241 : (Jvm.Cond.methodLink "jdk/internal/util/ArraysSupport" (201 : Nat) yXS_hugeLength) ∈ mt_all := List.mem_append_right _ (List.mem_append_right _ (List.mem_append_right _ (List.mem_append_right _ (List.mem_append_left _ (List.mem_of_getElem? (i := 1) rfl)))))
theorem mw_242 : (Jvm.Cond.static yXS_hugeLength) ∈ mt_all := List.mem_append_right _ (List.mem_append_right _ (List.mem_append_right _ (List.mem_append_right _ (List.mem_append_left _ (List.mem_of_getElem? (i := 2) rfl)))))
theorem mw_243 : (Jvm.Cond.code yXS_hugeLength prog_26_method_28_code (3 : Nat) (Option.some Jvm.ClassFile.FieldType.int)) ∈ mt_all := List.mem_append_right _ (List.mem_append_right _ (List.mem_append_right _ (List.mem_append_right _ (List.mem_append_left _ (List.mem_of_getElem? (i := 3) rfl)))))
theorem mw_244 : (Jvm.Cond.methodLink "java/util/ArrayList" (66 : Nat) yXR_copyOf) ∈ mt_all := List.mem_append_right _ (List.mem_append_right _ (List.mem_append_right _ (List.mem_append_right _ (List.mem_append_left _ (List.mem_of_getElem? (i := 4) rfl)))))
theorem mw_245 : (Jvm.Cond.static yXR_copyOf) ∈ mt_all := List.mem_append_right _ (List.mem_append_right _ (List.mem_append_right _ (List.mem_append_right _ (List.mem_append_left _ (List.mem_of_getElem? (i := 5) rfl)))))
theorem mw_246 : (Jvm.Cond.code yXR_copyOf prog_19_method_119_code (2 : Nat) (Option.some (Jvm.ClassFile.FieldType.array (Jvm.ClassFile.FieldType.object "java/lang/Object")))) ∈ mt_all := List.mem_append_right _ (List.mem_append_right _ (List.mem_append_right _ (List.mem_append_right _ (List.mem_append_left _ (List.mem_of_getElem? (i := 6) rfl)))))
theorem mw_247 : (Jvm.Cond.methodLink "java/util/Arrays" (86 : Nat) (⟨"java/lang/Object", "getClass", "()Ljava/lang/Class;"⟩ : MethodName)) ∈ mt_all := List.mem_append_right _ (List.mem_append_right _ (List.mem_append_right _ (List.mem_append_right _ (List.mem_append_left _ (List.mem_of_getElem? (i := 7) rfl)))))
theorem mw_248 : (Jvm.Cond.instanceMethod (⟨"java/lang/Object", "getClass", "()Ljava/lang/Class;"⟩ : MethodName)) ∈ mt_all := List.mem_append_right _ (List.mem_append_right _ (List.mem_append_right _ (List.mem_append_right _ (List.mem_append_left _ (List.mem_of_getElem? (i := 8) rfl)))))
theorem mw_249 : (Jvm.Cond.sameMethod "java/lang/Object" "java/lang/Object" "getClass" "()Ljava/lang/Class;") ∈ mt_all := List.mem_append_right _ (List.mem_append_right _ (List.mem_append_right _ (List.mem_append_right _ (List.mem_append_left _ (List.mem_of_getElem? (i := 9) rfl)))))
theorem mw_250 : (Jvm.Cond.selects "MeldTree" (⟨"java/lang/Object", "getClass", "()Ljava/lang/Class;"⟩ : MethodName) (⟨"java/lang/Object", "getClass", "()Ljava/lang/Class;"⟩ : MethodName)) ∈ mt_all := List.mem_append_right _ (List.mem_append_right _ (List.mem_append_right _ (List.mem_append_right _ (List.mem_append_left _ (List.mem_of_getElem? (i := 10) rfl)))))
theorem mw_251 : (Jvm.Cond.selects "MeldTree$Node" (⟨"java/lang/Object", "getClass", "()Ljava/lang/Class;"⟩ : MethodName) (⟨"java/lang/Object", "getClass", "()Ljava/lang/Class;"⟩ : MethodName)) ∈ mt_all := List.mem_append_right _ (List.mem_append_right _ (List.mem_append_right _ (List.mem_append_right _ (List.mem_append_left _ (List.mem_of_getElem? (i := 11) rfl)))))
theorem mw_252 : (Jvm.Cond.selects "MeldTreeModel" (⟨"java/lang/Object", "getClass", "()Ljava/lang/Class;"⟩ : MethodName) (⟨"java/lang/Object", "getClass", "()Ljava/lang/Class;"⟩ : MethodName)) ∈ mt_all := List.mem_append_right _ (List.mem_append_right _ (List.mem_append_right _ (List.mem_append_right _ (List.mem_append_left _ (List.mem_of_getElem? (i := 12) rfl)))))
theorem mw_253 : (Jvm.Cond.selects "java/lang/IllegalStateException" (⟨"java/lang/Object", "getClass", "()Ljava/lang/Class;"⟩ : MethodName) (⟨"java/lang/Object", "getClass", "()Ljava/lang/Class;"⟩ : MethodName)) ∈ mt_all := List.mem_append_right _ (List.mem_append_right _ (List.mem_append_right _ (List.mem_append_right _ (List.mem_append_left _ (List.mem_of_getElem? (i := 13) rfl)))))
theorem mw_254 : (Jvm.Cond.selects "java/lang/IndexOutOfBoundsException" (⟨"java/lang/Object", "getClass", "()Ljava/lang/Class;"⟩ : MethodName) (⟨"java/lang/Object", "getClass", "()Ljava/lang/Class;"⟩ : MethodName)) ∈ mt_all := List.mem_append_right _ (List.mem_append_right _ (List.mem_append_right _ (List.mem_append_right _ (List.mem_append_left _ (List.mem_of_getElem? (i := 14) rfl)))))
theorem mw_255 : (Jvm.Cond.selects "java/util/ArrayList" (⟨"java/lang/Object", "getClass", "()Ljava/lang/Class;"⟩ : MethodName) (⟨"java/lang/Object", "getClass", "()Ljava/lang/Class;"⟩ : MethodName)) ∈ mt_all := List.mem_append_right _ (List.mem_append_right _ (List.mem_append_right _ (List.mem_append_right _ (List.mem_append_left _ (List.mem_of_getElem? (i := 15) rfl)))))
theorem mw_256 : (Jvm.Cond.selects "java/util/NoSuchElementException" (⟨"java/lang/Object", "getClass", "()Ljava/lang/Class;"⟩ : MethodName) (⟨"java/lang/Object", "getClass", "()Ljava/lang/Class;"⟩ : MethodName)) ∈ mt_all := List.mem_append_right _ (List.mem_append_right _ (List.mem_append_right _ (List.mem_append_right _ (List.mem_append_left _ (List.mem_of_getElem? (i := 16) rfl)))))
theorem mw_257 : (Jvm.Cond.native (⟨"java/lang/Object", "getClass", "()Ljava/lang/Class;"⟩ : MethodName)) ∈ mt_all := List.mem_append_right _ (List.mem_append_right _ (List.mem_append_right _ (List.mem_append_right _ (List.mem_append_left _ (List.mem_of_getElem? (i := 17) rfl)))))
theorem mw_258 : (Jvm.Cond.methodLink "java/util/Arrays" (300 : Nat) yXR_copyOf_2) ∈ mt_all := List.mem_append_right _ (List.mem_append_right _ (List.mem_append_right _ (List.mem_append_right _ (List.mem_append_left _ (List.mem_of_getElem? (i := 18) rfl)))))
theorem mw_259 : (Jvm.Cond.static yXR_copyOf_2) ∈ mt_all := List.mem_append_right _ (List.mem_append_right _ (List.mem_append_right _ (List.mem_append_right _ (List.mem_append_left _ (List.mem_of_getElem? (i := 19) rfl)))))
theorem mw_260 : (Jvm.Cond.code yXR_copyOf_2 prog_19_method_120_code (4 : Nat) (Option.some (Jvm.ClassFile.FieldType.array (Jvm.ClassFile.FieldType.object "java/lang/Object")))) ∈ mt_all := List.mem_append_right _ (List.mem_append_right _ (List.mem_append_right _ (List.mem_append_right _ (List.mem_append_left _ (List.mem_of_getElem? (i := 20) rfl)))))
theorem mw_261 : (Jvm.Cond.classLink "java/util/Arrays" (110 : Nat) "[Ljava/lang/Object;") ∈ mt_all := List.mem_append_right _ (List.mem_append_right _ (List.mem_append_right _ (List.mem_append_right _ (List.mem_append_left _ (List.mem_of_getElem? (i := 21) rfl)))))
theorem mw_262 : (Jvm.Cond.classLink "java/util/Arrays" (2 : Nat) "java/lang/Object") ∈ mt_all := List.mem_append_right _ (List.mem_append_right _ (List.mem_append_right _ (List.mem_append_right _ (List.mem_append_left _ (List.mem_of_getElem? (i := 22) rfl)))))
theorem mw_263 : (Jvm.Cond.methodLink "java/util/Arrays" (304 : Nat) (⟨"java/lang/Math", "min", "(II)I"⟩ : MethodName)) ∈ mt_all := List.mem_append_right _ (List.mem_append_right _ (List.mem_append_right _ (List.mem_append_right _ (List.mem_append_left _ (List.mem_of_getElem? (i := 23) rfl)))))
theorem mw_264 : (Jvm.Cond.static (⟨"java/lang/Math", "min", "(II)I"⟩ : MethodName)) ∈ mt_all := List.mem_append_right _ (List.mem_append_right _ (List.mem_append_right _ (List.mem_append_right _ (List.mem_append_left _ (List.mem_of_getElem? (i := 24) rfl)))))
theorem mw_265 : (Jvm.Cond.code (⟨"java/lang/Math", "min", "(II)I"⟩ : MethodName) prog_11_method_69_code (2 : Nat) (Option.some Jvm.ClassFile.FieldType.int)) ∈ mt_all := List.mem_append_right _ (List.mem_append_right _ (List.mem_append_right _ (List.mem_append_right _ (List.mem_append_left _ (List.mem_of_getElem? (i := 25) rfl)))))
theorem mw_266 : (Jvm.Cond.methodLink "java/util/Arrays" (150 : Nat) (⟨"java/lang/System", "arraycopy", "(Ljava/lang/Object;ILjava/lang/Object;II)V"⟩ : MethodName)) ∈ mt_all := List.mem_append_right _ (List.mem_append_right _ (List.mem_append_right _ (List.mem_append_right _ (List.mem_append_left _ (List.mem_of_getElem? (i := 26) rfl)))))
theorem mw_267 : (Jvm.Cond.static (⟨"java/lang/System", "arraycopy", "(Ljava/lang/Object;ILjava/lang/Object;II)V"⟩ : MethodName)) ∈ mt_all := List.mem_append_right _ (List.mem_append_right _ (List.mem_append_right _ (List.mem_append_right _ (List.mem_append_left _ (List.mem_of_getElem? (i := 27) rfl)))))
theorem mw_268 : (Jvm.Cond.native (⟨"java/lang/System", "arraycopy", "(Ljava/lang/Object;ILjava/lang/Object;II)V"⟩ : MethodName)) ∈ mt_all := List.mem_append_right _ (List.mem_append_right _ (List.mem_append_right _ (List.mem_append_right _ (List.mem_append_left _ (List.mem_of_getElem? (i := 28) rfl)))))
theorem mw_269 : (Jvm.Cond.methodLink "java/util/ArrayList" (79 : Nat) (⟨"java/lang/Math", "max", "(II)I"⟩ : MethodName)) ∈ mt_all := List.mem_append_right _ (List.mem_append_right _ (List.mem_append_right _ (List.mem_append_right _ (List.mem_append_left _ (List.mem_of_getElem? (i := 29) rfl)))))
theorem mw_270 : (Jvm.Cond.classLink "java/util/ArrayList" (7 : Nat) "java/lang/Object") ∈ mt_all := List.mem_append_right _ (List.mem_append_right _ (List.mem_append_right _ (List.mem_append_right _ (List.mem_append_left _ (List.mem_of_getElem? (i := 30) rfl)))))
theorem mw_271 : (Jvm.Cond.methodLink "MeldTree" (43 : Nat) yXT_meld) ∈ mt_all := List.mem_append_right _ (List.mem_append_right _ (List.mem_append_right _ (List.mem_append_right _ (List.mem_append_left _ (List.mem_of_getElem? (i := 31) rfl)))))
theorem mw_272 : (Jvm.Cond.static yXT_meld) ∈ mt_all := List.mem_append_right _ (List.mem_append_right _ (List.mem_append_right _ (List.mem_append_right _ (List.mem_append_left _ (List.mem_of_getElem? (i := 32) rfl)))))
theorem mw_273 : (Jvm.Cond.code yXT_meld prog_1_method_17_code (9 : Nat) (Option.some (Jvm.ClassFile.FieldType.object "MeldTree$Node"))) ∈ mt_all := List.mem_append_right _ (List.mem_append_right _ (List.mem_append_right _ (List.mem_append_right _ (List.mem_append_left _ (List.mem_of_getElem? (i := 33) rfl)))))
theorem mw_274 : (Jvm.Cond.methodLink "MeldTree" (120 : Nat) yXT_goesHigh) ∈ mt_all := List.mem_append_right _ (List.mem_append_right _ (List.mem_append_right _ (List.mem_append_right _ (List.mem_append_left _ (List.mem_of_getElem? (i := 34) rfl)))))
theorem mw_275 : (Jvm.Cond.static yXT_goesHigh) ∈ mt_all := List.mem_append_right _ (List.mem_append_right _ (List.mem_append_right _ (List.mem_append_right _ (List.mem_append_left _ (List.mem_of_getElem? (i := 35) rfl)))))
theorem mw_276 : (Jvm.Cond.code yXT_goesHigh prog_1_method_18_code (2 : Nat) (Option.some Jvm.ClassFile.FieldType.boolean)) ∈ mt_all := List.mem_append_right _ (List.mem_append_right _ (List.mem_append_right _ (List.mem_append_right _ (List.mem_append_left _ (List.mem_of_getElem? (i := 36) rfl)))))
theorem mw_277 : (Jvm.Cond.methodLink "MeldTree" (124 : Nat) yXT_lowOf) ∈ mt_all := List.mem_append_right _ (List.mem_append_right _ (List.mem_append_right _ (List.mem_append_right _ (List.mem_append_left _ (List.mem_of_getElem? (i := 37) rfl)))))
theorem mw_278 : (Jvm.Cond.static yXT_lowOf) ∈ mt_all := List.mem_append_right _ (List.mem_append_right _ (List.mem_append_right _ (List.mem_append_right _ (List.mem_append_left _ (List.mem_of_getElem? (i := 38) rfl)))))
theorem mw_279 : (Jvm.Cond.code yXT_lowOf prog_1_method_29_code (1 : Nat) (Option.some (Jvm.ClassFile.FieldType.object "MeldTree$Node"))) ∈ mt_all := List.mem_append_right _ (List.mem_append_right _ (List.mem_append_right _ (List.mem_append_right _ (List.mem_append_left _ (List.mem_of_getElem? (i := 39) rfl)))))
theorem mw_280 : (Jvm.Cond.methodLink "MeldTree" (128 : Nat) yXT_highOf) ∈ mt_all := List.mem_append_right _ (List.mem_append_right _ (List.mem_append_right _ (List.mem_append_right _ (List.mem_append_left _ (List.mem_of_getElem? (i := 40) rfl)))))
theorem mw_281 : (Jvm.Cond.static yXT_highOf) ∈ mt_all := List.mem_append_right _ (List.mem_append_right _ (List.mem_append_right _ (List.mem_append_right _ (List.mem_append_left _ (List.mem_of_getElem? (i := 41) rfl)))))
theorem mw_282 : (Jvm.Cond.code yXT_highOf prog_1_method_30_code (1 : Nat) (Option.some (Jvm.ClassFile.FieldType.object "MeldTree$Node"))) ∈ mt_all := List.mem_append_right _ (List.mem_append_right _ (List.mem_append_right _ (List.mem_append_right _ (List.mem_append_left _ (List.mem_of_getElem? (i := 42) rfl)))))
theorem mw_283 : (Jvm.Cond.instanceMethod yXN_init_2) ∈ mt_all := List.mem_append_right _ (List.mem_append_right _ (List.mem_append_right _ (List.mem_append_right _ (List.mem_append_left _ (List.mem_of_getElem? (i := 43) rfl)))))
theorem mw_284 : (Jvm.Cond.code yXN_init_2 prog_2_method_2_code (5 : Nat) (Option.none : Option Jvm.ClassFile.FieldType)) ∈ mt_all := List.mem_append_right _ (List.mem_append_right _ (List.mem_append_right _ (List.mem_append_right _ (List.mem_append_left _ (List.mem_of_getElem? (i := 44) rfl)))))
theorem mw_285 : (Jvm.Cond.methodLink "MeldTree" (47 : Nat) yXT_keep) ∈ mt_all := List.mem_append_right _ (List.mem_append_right _ (List.mem_append_right _ (List.mem_append_right _ (List.mem_append_left _ (List.mem_of_getElem? (i := 45) rfl)))))
theorem mw_286 : (Jvm.Cond.instanceMethod yXT_keep) ∈ mt_all := List.mem_append_right _ (List.mem_append_right _ (List.mem_append_right _ (List.mem_append_right _ (List.mem_append_left _ (List.mem_of_getElem? (i := 46) rfl)))))
theorem mw_287 : (Jvm.Cond.code yXT_keep prog_1_method_16_code (3 : Nat) (Option.some Jvm.ClassFile.FieldType.int)) ∈ mt_all := List.mem_append_right _ (List.mem_append_right _ (List.mem_append_right _ (List.mem_append_right _ (List.mem_append_left _ (List.mem_of_getElem? (i := 47) rfl)))))
theorem mw_288 : (Jvm.Cond.methodLink "MeldTreeLaw" (60 : Nat) yXL_remove) ∈ mt_all := List.mem_append_right _ (List.mem_append_right _ (List.mem_append_right _ (List.mem_append_right _ (List.mem_append_left _ (List.mem_of_getElem? (i := 48) rfl)))))
theorem mw_289 : (Jvm.Cond.static yXL_remove) ∈ mt_all := List.mem_append_right _ (List.mem_append_right _ (List.mem_append_right _ (List.mem_append_right _ (List.mem_append_left _ (List.mem_of_getElem? (i := 49) rfl)))))
theorem mw_290 : (Jvm.Cond.codeWith yXL_remove method_4_code (5 : Nat) (Option.some Jvm.ClassFile.FieldType.int) [((0 : Nat), (10 : Nat), (13 : Nat), (13 : Nat)), ((0 : Nat), (10 : Nat), (17 : Nat), (15 : Nat)), ((0 : Nat), (10 : Nat), (21 : Nat), (21 : Nat))]) ∈ mt_all := List.mem_append_right _ (List.mem_append_right _ (List.mem_append_right _ (List.mem_append_right _ (List.mem_append_left _ (List.mem_of_getElem? (i := 50) rfl)))))
theorem mw_291 : (Jvm.Cond.classLink "MeldTreeLaw" (21 : Nat) "java/util/NoSuchElementException") ∈ mt_all := List.mem_append_right _ (List.mem_append_right _ (List.mem_append_right _ (List.mem_append_right _ (List.mem_append_left _ (List.mem_of_getElem? (i := 51) rfl)))))
theorem mw_292 : (Jvm.Cond.methodLink "MeldTreeLaw" (17 : Nat) yXT_remove) ∈ mt_all := List.mem_append_right _ (List.mem_append_right _ (List.mem_append_right _ (List.mem_append_right _ (List.mem_append_left _ (List.mem_of_getElem? (i := 52) rfl)))))
theorem mw_293 : (Jvm.Cond.instanceMethod yXT_remove) ∈ mt_all := List.mem_append_right _ (List.mem_append_right _ (List.mem_append_right _ (List.mem_append_right _ (List.mem_append_left _ (List.mem_of_getElem? (i := 53) rfl)))))
theorem mw_294 : (Jvm.Cond.selects "MeldTree" yXT_remove yXT_remove) ∈ mt_all := List.mem_append_right _ (List.mem_append_right _ (List.mem_append_right _ (List.mem_append_right _ (List.mem_append_left _ (List.mem_of_getElem? (i := 54) rfl)))))
theorem mw_295 : (Jvm.Cond.code yXT_remove prog_1_method_3_code (3 : Nat) (Option.some Jvm.ClassFile.FieldType.int)) ∈ mt_all := List.mem_append_right _ (List.mem_append_right _ (List.mem_append_right _ (List.mem_append_right _ (List.mem_append_left _ (List.mem_of_getElem? (i := 55) rfl)))))
theorem mw_296 : (Jvm.Cond.methodLink "MeldTree" (51 : Nat) yXT_leafAt) ∈ mt_all := List.mem_append_right _ (List.mem_append_right _ (List.mem_append_right _ (List.mem_append_right _ (List.mem_append_left _ (List.mem_of_getElem? (i := 56) rfl)))))
theorem mw_297 : (Jvm.Cond.static yXT_leafAt) ∈ mt_all := List.mem_append_right _ (List.mem_append_right _ (List.mem_append_right _ (List.mem_append_right _ (List.mem_append_left _ (List.mem_of_getElem? (i := 57) rfl)))))
theorem mw_298 : (Jvm.Cond.code yXT_leafAt prog_1_method_19_code (4 : Nat) (Option.some (Jvm.ClassFile.FieldType.object "MeldTree$Node"))) ∈ mt_all := List.mem_append_right _ (List.mem_append_right _ (List.mem_append_right _ (List.mem_append_right _ (List.mem_append_left _ (List.mem_of_getElem? (i := 58) rfl)))))
theorem mw_299 : (Jvm.Cond.classLink "MeldTree" (55 : Nat) "java/util/NoSuchElementException") ∈ mt_all := List.mem_append_right _ (List.mem_append_right _ (List.mem_append_right _ (List.mem_append_right _ (List.mem_append_left _ (List.mem_of_getElem? (i := 59) rfl)))))
theorem mw_300 : (Jvm.Cond.instantiable "java/util/NoSuchElementException" (6 : Nat)) ∈ mt_all := List.mem_append_right _ (List.mem_append_right _ (List.mem_append_right _ (List.mem_append_right _ (List.mem_append_right _ (List.mem_append_left _ (List.mem_of_getElem? (i := 0) rfl))))))
theorem mw_301 : (Jvm.Cond.selects "java/util/NoSuchElementException" (⟨"java/lang/Throwable", "fillInStackTrace", "(I)Ljava/lang/Throwable;"⟩ : MethodName) (⟨"java/lang/Throwable", "fillInStackTrace", "(I)Ljava/lang/Throwable;"⟩ : MethodName)) ∈ mt_all := List.mem_append_right _ (List.mem_append_right _ (List.mem_append_right _ (List.mem_append_right _ (List.mem_append_right _ (List.mem_append_left _ (List.mem_of_getElem? (i := 1) rfl))))))
theorem mw_302 : (Jvm.Cond.lays "java/util/NoSuchElementException" "java/lang/Throwable" "cause" "Ljava/lang/Throwable;") ∈ mt_all := List.mem_append_right _ (List.mem_append_right _ (List.mem_append_right _ (List.mem_append_right _ (List.mem_append_right _ (List.mem_append_left _ (List.mem_of_getElem? (i := 2) rfl))))))
theorem mw_303 : (Jvm.Cond.lays "java/util/NoSuchElementException" "java/lang/Throwable" "stackTrace" "[Ljava/lang/StackTraceElement;") ∈ mt_all := List.mem_append_right _ (List.mem_append_right _ (List.mem_append_right _ (List.mem_append_right _ (List.mem_append_right _ (List.mem_append_left _ (List.mem_of_getElem? (i := 3) rfl))))))
theorem mw_304 : (Jvm.Cond.lays "java/util/NoSuchElementException" "java/lang/Throwable" "suppressedExceptions" "Ljava/util/List;") ∈ mt_all := List.mem_append_right _ (List.mem_append_right _ (List.mem_append_right _ (List.mem_append_right _ (List.mem_append_right _ (List.mem_append_left _ (List.mem_of_getElem? (i := 4) rfl))))))
theorem mw_305 : (Jvm.Cond.lays "java/util/NoSuchElementException" "java/lang/Throwable" "detailMessage" "Ljava/lang/String;") ∈ mt_all := List.mem_append_right _ (List.mem_append_right _ (List.mem_append_right _ (List.mem_append_right _ (List.mem_append_right _ (List.mem_append_left _ (List.mem_of_getElem? (i := 5) rfl))))))
theorem mw_306 : (Jvm.Cond.lays "java/util/NoSuchElementException" "java/lang/Throwable" "backtrace" "Ljava/lang/Object;") ∈ mt_all := List.mem_append_right _ (List.mem_append_right _ (List.mem_append_right _ (List.mem_append_right _ (List.mem_append_right _ (List.mem_append_left _ (List.mem_of_getElem? (i := 6) rfl))))))
theorem mw_307 : (Jvm.Cond.methodLink "MeldTree" (59 : Nat) (⟨"java/util/NoSuchElementException", "<init>", "(Ljava/lang/String;)V"⟩ : MethodName)) ∈ mt_all := List.mem_append_right _ (List.mem_append_right _ (List.mem_append_right _ (List.mem_append_right _ (List.mem_append_right _ (List.mem_append_left _ (List.mem_of_getElem? (i := 7) rfl))))))
theorem mw_308 : (Jvm.Cond.instanceMethod (⟨"java/util/NoSuchElementException", "<init>", "(Ljava/lang/String;)V"⟩ : MethodName)) ∈ mt_all := List.mem_append_right _ (List.mem_append_right _ (List.mem_append_right _ (List.mem_append_right _ (List.mem_append_right _ (List.mem_append_left _ (List.mem_of_getElem? (i := 8) rfl))))))
theorem mw_309 : (Jvm.Cond.code (⟨"java/util/NoSuchElementException", "<init>", "(Ljava/lang/String;)V"⟩ : MethodName) prog_22_method_4_code (2 : Nat) (Option.none : Option Jvm.ClassFile.FieldType)) ∈ mt_all := List.mem_append_right _ (List.mem_append_right _ (List.mem_append_right _ (List.mem_append_right _ (List.mem_append_right _ (List.mem_append_left _ (List.mem_of_getElem? (i := 9) rfl))))))
theorem mw_310 : (Jvm.Cond.methodLink "java/util/NoSuchElementException" (13 : Nat) (⟨"java/lang/RuntimeException", "<init>", "(Ljava/lang/String;)V"⟩ : MethodName)) ∈ mt_all := List.mem_append_right _ (List.mem_append_right _ (List.mem_append_right _ (List.mem_append_right _ (List.mem_append_right _ (List.mem_append_left _ (List.mem_of_getElem? (i := 10) rfl))))))
theorem mw_311 : (Jvm.Cond.lays "java/util/NoSuchElementException" "java/lang/Throwable" "depth" "I") ∈ mt_all := List.mem_append_right _ (List.mem_append_right _ (List.mem_append_right _ (List.mem_append_right _ (List.mem_append_right _ (List.mem_append_left _ (List.mem_of_getElem? (i := 11) rfl))))))
theorem mw_312 : (Jvm.Cond.superclass "java/util/NoSuchElementException" "java/lang/RuntimeException") ∈ mt_all := List.mem_append_right _ (List.mem_append_right _ (List.mem_append_right _ (List.mem_append_right _ (List.mem_append_right _ (List.mem_append_left _ (List.mem_of_getElem? (i := 12) rfl))))))
theorem mw_313 : (Jvm.Cond.methodLink "MeldTreeLaw" (64 : Nat) yXL_join) ∈ mt_all := List.mem_append_right _ (List.mem_append_right _ (List.mem_append_right _ (List.mem_append_right _ (List.mem_append_right _ (List.mem_append_left _ (List.mem_of_getElem? (i := 13) rfl))))))
theorem mw_314 : (Jvm.Cond.static yXL_join) ∈ mt_all := List.mem_append_right _ (List.mem_append_right _ (List.mem_append_right _ (List.mem_append_right _ (List.mem_append_right _ (List.mem_append_left _ (List.mem_of_getElem? (i := 14) rfl))))))
theorem mw_315 : (Jvm.Cond.codeWith yXL_join method_5_code (6 : Nat) (Option.some Jvm.ClassFile.FieldType.int) [((0 : Nat), (12 : Nat), (15 : Nat), (13 : Nat)), ((0 : Nat), (12 : Nat), (19 : Nat), (15 : Nat))]) ∈ mt_all := List.mem_append_right _ (List.mem_append_right _ (List.mem_append_right _ (List.mem_append_right _ (List.mem_append_right _ (List.mem_append_left _ (List.mem_of_getElem? (i := 15) rfl))))))
theorem mw_316 : (Jvm.Cond.methodLink "MeldTreeLaw" (23 : Nat) yXT_join) ∈ mt_all := List.mem_append_right _ (List.mem_append_right _ (List.mem_append_right _ (List.mem_append_right _ (List.mem_append_right _ (List.mem_append_left _ (List.mem_of_getElem? (i := 16) rfl))))))
theorem mw_317 : (Jvm.Cond.instanceMethod yXT_join) ∈ mt_all := List.mem_append_right _ (List.mem_append_right _ (List.mem_append_right _ (List.mem_append_right _ (List.mem_append_right _ (List.mem_append_left _ (List.mem_of_getElem? (i := 17) rfl))))))
theorem mw_318 : (Jvm.Cond.selects "MeldTree" yXT_join yXT_join) ∈ mt_all := List.mem_append_right _ (List.mem_append_right _ (List.mem_append_right _ (List.mem_append_right _ (List.mem_append_right _ (List.mem_append_left _ (List.mem_of_getElem? (i := 18) rfl))))))
theorem mw_319 : (Jvm.Cond.code yXT_join prog_1_method_4_code (4 : Nat) (Option.some Jvm.ClassFile.FieldType.int)) ∈ mt_all := List.mem_append_right _ (List.mem_append_right _ (List.mem_append_right _ (List.mem_append_right _ (List.mem_append_right _ (List.mem_append_left _ (List.mem_of_getElem? (i := 19) rfl))))))
theorem mw_320 : (Jvm.Cond.methodLink "MeldTreeLaw" (67 : Nat) yXL_get) ∈ mt_all := List.mem_append_right _ (List.mem_append_right _ (List.mem_append_right _ (List.mem_append_right _ (List.mem_append_right _ (List.mem_append_left _ (List.mem_of_getElem? (i := 20) rfl))))))
theorem mw_321 : (Jvm.Cond.static yXL_get) ∈ mt_all := List.mem_append_right _ (List.mem_append_right _ (List.mem_append_right _ (List.mem_append_right _ (List.mem_append_right _ (List.mem_append_left _ (List.mem_of_getElem? (i := 21) rfl))))))
theorem mw_322 : (Jvm.Cond.codeWith yXL_get method_6_code (5 : Nat) (Option.some Jvm.ClassFile.FieldType.int) [((0 : Nat), (10 : Nat), (13 : Nat), (13 : Nat)), ((0 : Nat), (10 : Nat), (17 : Nat), (21 : Nat))]) ∈ mt_all := List.mem_append_right _ (List.mem_append_right _ (List.mem_append_right _ (List.mem_append_right _ (List.mem_append_right _ (List.mem_append_left _ (List.mem_of_getElem? (i := 22) rfl))))))
theorem mw_323 : (Jvm.Cond.methodLink "MeldTreeLaw" (26 : Nat) yXT_get) ∈ mt_all := List.mem_append_right _ (List.mem_append_right _ (List.mem_append_right _ (List.mem_append_right _ (List.mem_append_right _ (List.mem_append_left _ (List.mem_of_getElem? (i := 23) rfl))))))
theorem mw_324 : (Jvm.Cond.instanceMethod yXT_get) ∈ mt_all := List.mem_append_right _ (List.mem_append_right _ (List.mem_append_right _ (List.mem_append_right _ (List.mem_append_right _ (List.mem_append_left _ (List.mem_of_getElem? (i := 24) rfl))))))
theorem mw_325 : (Jvm.Cond.selects "MeldTree" yXT_get yXT_get) ∈ mt_all := List.mem_append_right _ (List.mem_append_right _ (List.mem_append_right _ (List.mem_append_right _ (List.mem_append_right _ (List.mem_append_left _ (List.mem_of_getElem? (i := 25) rfl))))))
theorem mw_326 : (Jvm.Cond.code yXT_get prog_1_method_5_code (4 : Nat) (Option.some Jvm.ClassFile.FieldType.int)) ∈ mt_all := List.mem_append_right _ (List.mem_append_right _ (List.mem_append_right _ (List.mem_append_right _ (List.mem_append_right _ (List.mem_append_left _ (List.mem_of_getElem? (i := 26) rfl))))))
theorem mw_327 : (Jvm.Cond.methodLink "MeldTreeLaw" (70 : Nat) yXL_select) ∈ mt_all := List.mem_append_right _ (List.mem_append_right _ (List.mem_append_right _ (List.mem_append_right _ (List.mem_append_right _ (List.mem_append_left _ (List.mem_of_getElem? (i := 27) rfl))))))
theorem mw_328 : (Jvm.Cond.static yXL_select) ∈ mt_all := List.mem_append_right _ (List.mem_append_right _ (List.mem_append_right _ (List.mem_append_right _ (List.mem_append_right _ (List.mem_append_left _ (List.mem_of_getElem? (i := 28) rfl))))))
theorem mw_329 : (Jvm.Cond.codeWith yXL_select method_7_code (5 : Nat) (Option.some Jvm.ClassFile.FieldType.int) [((0 : Nat), (10 : Nat), (13 : Nat), (13 : Nat))]) ∈ mt_all := List.mem_append_right _ (List.mem_append_right _ (List.mem_append_right _ (List.mem_append_right _ (List.mem_append_right _ (List.mem_append_left _ (List.mem_of_getElem? (i := 29) rfl))))))
theorem mw_330 : (Jvm.Cond.methodLink "MeldTreeLaw" (29 : Nat) yXT_select) ∈ mt_all := List.mem_append_right _ (List.mem_append_right _ (List.mem_append_right _ (List.mem_append_right _ (List.mem_append_right _ (List.mem_append_left _ (List.mem_of_getElem? (i := 30) rfl))))))
theorem mw_331 : (Jvm.Cond.instanceMethod yXT_select) ∈ mt_all := List.mem_append_right _ (List.mem_append_right _ (List.mem_append_right _ (List.mem_append_right _ (List.mem_append_right _ (List.mem_append_left _ (List.mem_of_getElem? (i := 31) rfl))))))
theorem mw_332 : (Jvm.Cond.selects "MeldTree" yXT_select yXT_select) ∈ mt_all := List.mem_append_right _ (List.mem_append_right _ (List.mem_append_right _ (List.mem_append_right _ (List.mem_append_right _ (List.mem_append_left _ (List.mem_of_getElem? (i := 32) rfl))))))
theorem mw_333 : (Jvm.Cond.code yXT_select prog_1_method_6_code (3 : Nat) (Option.some Jvm.ClassFile.FieldType.int)) ∈ mt_all := List.mem_append_right _ (List.mem_append_right _ (List.mem_append_right _ (List.mem_append_right _ (List.mem_append_right _ (List.mem_append_left _ (List.mem_of_getElem? (i := 33) rfl))))))
theorem mw_334 : (Jvm.Cond.methodLink "MeldTree" (75 : Nat) yXT_keyAt) ∈ mt_all := List.mem_append_right _ (List.mem_append_right _ (List.mem_append_right _ (List.mem_append_right _ (List.mem_append_right _ (List.mem_append_left _ (List.mem_of_getElem? (i := 34) rfl))))))
theorem mw_335 : (Jvm.Cond.static yXT_keyAt) ∈ mt_all := List.mem_append_right _ (List.mem_append_right _ (List.mem_append_right _ (List.mem_append_right _ (List.mem_append_right _ (List.mem_append_left _ (List.mem_of_getElem? (i := 35) rfl))))))
theorem mw_336 : (Jvm.Cond.code yXT_keyAt prog_1_method_20_code (7 : Nat) (Option.some Jvm.ClassFile.FieldType.int)) ∈ mt_all := List.mem_append_right _ (List.mem_append_right _ (List.mem_append_right _ (List.mem_append_right _ (List.mem_append_right _ (List.mem_append_left _ (List.mem_of_getElem? (i := 36) rfl))))))
theorem mw_337 : (Jvm.Cond.methodLink "MeldTreeLaw" (73 : Nat) yXL_many) ∈ mt_all := List.mem_append_right _ (List.mem_append_right _ (List.mem_append_right _ (List.mem_append_right _ (List.mem_append_right _ (List.mem_append_left _ (List.mem_of_getElem? (i := 37) rfl))))))
theorem mw_338 : (Jvm.Cond.static yXL_many) ∈ mt_all := List.mem_append_right _ (List.mem_append_right _ (List.mem_append_right _ (List.mem_append_right _ (List.mem_append_right _ (List.mem_append_left _ (List.mem_of_getElem? (i := 38) rfl))))))
theorem mw_339 : (Jvm.Cond.codeWith yXL_many method_8_code (6 : Nat) (Option.some Jvm.ClassFile.FieldType.int) [((0 : Nat), (12 : Nat), (15 : Nat), (13 : Nat))]) ∈ mt_all := List.mem_append_right _ (List.mem_append_right _ (List.mem_append_right _ (List.mem_append_right _ (List.mem_append_right _ (List.mem_append_left _ (List.mem_of_getElem? (i := 39) rfl))))))
theorem mw_340 : (Jvm.Cond.methodLink "MeldTreeLaw" (32 : Nat) yXT_many) ∈ mt_all := List.mem_append_right _ (List.mem_append_right _ (List.mem_append_right _ (List.mem_append_right _ (List.mem_append_right _ (List.mem_append_left _ (List.mem_of_getElem? (i := 40) rfl))))))
theorem mw_341 : (Jvm.Cond.instanceMethod yXT_many) ∈ mt_all := List.mem_append_right _ (List.mem_append_right _ (List.mem_append_right _ (List.mem_append_right _ (List.mem_append_right _ (List.mem_append_left _ (List.mem_of_getElem? (i := 41) rfl))))))
theorem mw_342 : (Jvm.Cond.selects "MeldTree" yXT_many yXT_many) ∈ mt_all := List.mem_append_right _ (List.mem_append_right _ (List.mem_append_right _ (List.mem_append_right _ (List.mem_append_right _ (List.mem_append_left _ (List.mem_of_getElem? (i := 42) rfl))))))
theorem mw_343 : (Jvm.Cond.code yXT_many prog_1_method_7_code (4 : Nat) (Option.some Jvm.ClassFile.FieldType.int)) ∈ mt_all := List.mem_append_right _ (List.mem_append_right _ (List.mem_append_right _ (List.mem_append_right _ (List.mem_append_right _ (List.mem_append_left _ (List.mem_of_getElem? (i := 43) rfl))))))
theorem mw_344 : (Jvm.Cond.methodLink "MeldTree" (79 : Nat) yXT_sizeBelow) ∈ mt_all := List.mem_append_right _ (List.mem_append_right _ (List.mem_append_right _ (List.mem_append_right _ (List.mem_append_right _ (List.mem_append_left _ (List.mem_of_getElem? (i := 44) rfl))))))
theorem mw_345 : (Jvm.Cond.static yXT_sizeBelow) ∈ mt_all := List.mem_append_right _ (List.mem_append_right _ (List.mem_append_right _ (List.mem_append_right _ (List.mem_append_right _ (List.mem_append_left _ (List.mem_of_getElem? (i := 45) rfl))))))
theorem mw_346 : (Jvm.Cond.code yXT_sizeBelow prog_1_method_21_code (5 : Nat) (Option.some Jvm.ClassFile.FieldType.int)) ∈ mt_all := List.mem_append_right _ (List.mem_append_right _ (List.mem_append_right _ (List.mem_append_right _ (List.mem_append_right _ (List.mem_append_left _ (List.mem_of_getElem? (i := 46) rfl))))))
theorem mw_347 : (Jvm.Cond.methodLink "MeldTreeLaw" (76 : Nat) yXL_sum) ∈ mt_all := List.mem_append_right _ (List.mem_append_right _ (List.mem_append_right _ (List.mem_append_right _ (List.mem_append_right _ (List.mem_append_left _ (List.mem_of_getElem? (i := 47) rfl))))))
theorem mw_348 : (Jvm.Cond.static yXL_sum) ∈ mt_all := List.mem_append_right _ (List.mem_append_right _ (List.mem_append_right _ (List.mem_append_right _ (List.mem_append_right _ (List.mem_append_left _ (List.mem_of_getElem? (i := 48) rfl))))))
theorem mw_349 : (Jvm.Cond.codeWith yXL_sum method_9_code (6 : Nat) (Option.some Jvm.ClassFile.FieldType.int) [((0 : Nat), (11 : Nat), (14 : Nat), (13 : Nat))]) ∈ mt_all := List.mem_append_right _ (List.mem_append_right _ (List.mem_append_right _ (List.mem_append_right _ (List.mem_append_right _ (List.mem_append_left _ (List.mem_of_getElem? (i := 49) rfl))))))
theorem mw_350 : (Jvm.Cond.methodLink "MeldTreeLaw" (35 : Nat) yXT_sum) ∈ mt_all := List.mem_append_right _ (List.mem_append_right _ (List.mem_append_right _ (List.mem_append_right _ (List.mem_append_right _ (List.mem_append_left _ (List.mem_of_getElem? (i := 50) rfl))))))
theorem mw_351 : (Jvm.Cond.instanceMethod yXT_sum) ∈ mt_all := List.mem_append_right _ (List.mem_append_right _ (List.mem_append_right _ (List.mem_append_right _ (List.mem_append_right _ (List.mem_append_left _ (List.mem_of_getElem? (i := 51) rfl))))))
theorem mw_352 : (Jvm.Cond.selects "MeldTree" yXT_sum yXT_sum) ∈ mt_all := List.mem_append_right _ (List.mem_append_right _ (List.mem_append_right _ (List.mem_append_right _ (List.mem_append_right _ (List.mem_append_left _ (List.mem_of_getElem? (i := 52) rfl))))))
theorem mw_353 : (Jvm.Cond.code yXT_sum prog_1_method_8_code (4 : Nat) (Option.some Jvm.ClassFile.FieldType.long)) ∈ mt_all := List.mem_append_right _ (List.mem_append_right _ (List.mem_append_right _ (List.mem_append_right _ (List.mem_append_right _ (List.mem_append_left _ (List.mem_of_getElem? (i := 53) rfl))))))
theorem mw_354 : (Jvm.Cond.methodLink "MeldTree" (82 : Nat) yXT_totalBelow) ∈ mt_all := List.mem_append_right _ (List.mem_append_right _ (List.mem_append_right _ (List.mem_append_right _ (List.mem_append_right _ (List.mem_append_left _ (List.mem_of_getElem? (i := 54) rfl))))))
theorem mw_355 : (Jvm.Cond.static yXT_totalBelow) ∈ mt_all := List.mem_append_right _ (List.mem_append_right _ (List.mem_append_right _ (List.mem_append_right _ (List.mem_append_right _ (List.mem_append_left _ (List.mem_of_getElem? (i := 55) rfl))))))
theorem mw_356 : (Jvm.Cond.code yXT_totalBelow prog_1_method_22_code (6 : Nat) (Option.some Jvm.ClassFile.FieldType.long)) ∈ mt_all := List.mem_append_right _ (List.mem_append_right _ (List.mem_append_right _ (List.mem_append_right _ (List.mem_append_right _ (List.mem_append_left _ (List.mem_of_getElem? (i := 56) rfl))))))
theorem mw_357 : (Jvm.Cond.methodLink "MeldTreeLaw" (79 : Nat) yXL_differ) ∈ mt_all := List.mem_append_right _ (List.mem_append_right _ (List.mem_append_right _ (List.mem_append_right _ (List.mem_append_right _ (List.mem_append_left _ (List.mem_of_getElem? (i := 57) rfl))))))
theorem mw_358 : (Jvm.Cond.static yXL_differ) ∈ mt_all := List.mem_append_right _ (List.mem_append_right _ (List.mem_append_right _ (List.mem_append_right _ (List.mem_append_right _ (List.mem_append_left _ (List.mem_of_getElem? (i := 58) rfl))))))
theorem mw_359 : (Jvm.Cond.codeWith yXL_differ method_10_code (5 : Nat) (Option.some Jvm.ClassFile.FieldType.int) [((0 : Nat), (10 : Nat), (13 : Nat), (13 : Nat))]) ∈ mt_all := List.mem_append_right _ (List.mem_append_right _ (List.mem_append_right _ (List.mem_append_right _ (List.mem_append_right _ (List.mem_append_left _ (List.mem_of_getElem? (i := 59) rfl))))))
theorem mw_360 : (Jvm.Cond.methodLink "MeldTreeLaw" (39 : Nat) yXT_differ) ∈ mt_all := List.mem_append_right _ (List.mem_append_right _ (List.mem_append_right _ (List.mem_append_right _ (List.mem_append_right _ (List.mem_append_right _ (List.mem_append_left _ (List.mem_of_getElem? (i := 0) rfl)))))))
theorem mw_361 : (Jvm.Cond.instanceMethod yXT_differ) ∈ mt_all := List.mem_append_right _ (List.mem_append_right _ (List.mem_append_right _ (List.mem_append_right _ (List.mem_append_right _ (List.mem_append_right _ (List.mem_append_left _ (List.mem_of_getElem? (i := 1) rfl)))))))
theorem mw_362 : (Jvm.Cond.selects "MeldTree" yXT_differ yXT_differ) ∈ mt_all := List.mem_append_right _ (List.mem_append_right _ (List.mem_append_right _ (List.mem_append_right _ (List.mem_append_right _ (List.mem_append_right _ (List.mem_append_left _ (List.mem_of_getElem? (i := 2) rfl)))))))
theorem mw_363 : (Jvm.Cond.code yXT_differ prog_1_method_9_code (3 : Nat) (Option.some Jvm.ClassFile.FieldType.int)) ∈ mt_all := List.mem_append_right _ (List.mem_append_right _ (List.mem_append_right _ (List.mem_append_right _ (List.mem_append_right _ (List.mem_append_right _ (List.mem_append_left _ (List.mem_of_getElem? (i := 3) rfl)))))))
theorem mw_364 : (Jvm.Cond.methodLink "MeldTree" (86 : Nat) yXT_differences) ∈ mt_all := List.mem_append_right _ (List.mem_append_right _ (List.mem_append_right _ (List.mem_append_right _ (List.mem_append_right _ (List.mem_append_right _ (List.mem_append_left _ (List.mem_of_getElem? (i := 4) rfl)))))))
theorem mw_365 : (Jvm.Cond.static yXT_differences) ∈ mt_all := List.mem_append_right _ (List.mem_append_right _ (List.mem_append_right _ (List.mem_append_right _ (List.mem_append_right _ (List.mem_append_right _ (List.mem_append_left _ (List.mem_of_getElem? (i := 5) rfl)))))))
theorem mw_366 : (Jvm.Cond.code yXT_differences prog_1_method_23_code (3 : Nat) (Option.some Jvm.ClassFile.FieldType.int)) ∈ mt_all := List.mem_append_right _ (List.mem_append_right _ (List.mem_append_right _ (List.mem_append_right _ (List.mem_append_right _ (List.mem_append_right _ (List.mem_append_left _ (List.mem_of_getElem? (i := 6) rfl)))))))
theorem mw_367 : (Jvm.Cond.methodLink "MeldTreeLaw" (82 : Nat) yXL_digest) ∈ mt_all := List.mem_append_right _ (List.mem_append_right _ (List.mem_append_right _ (List.mem_append_right _ (List.mem_append_right _ (List.mem_append_right _ (List.mem_append_left _ (List.mem_of_getElem? (i := 7) rfl)))))))
theorem mw_368 : (Jvm.Cond.static yXL_digest) ∈ mt_all := List.mem_append_right _ (List.mem_append_right _ (List.mem_append_right _ (List.mem_append_right _ (List.mem_append_right _ (List.mem_append_right _ (List.mem_append_left _ (List.mem_of_getElem? (i := 8) rfl)))))))
theorem mw_369 : (Jvm.Cond.codeWith yXL_digest method_11_code (4 : Nat) (Option.some Jvm.ClassFile.FieldType.int) [((0 : Nat), (8 : Nat), (11 : Nat), (13 : Nat))]) ∈ mt_all := List.mem_append_right _ (List.mem_append_right _ (List.mem_append_right _ (List.mem_append_right _ (List.mem_append_right _ (List.mem_append_right _ (List.mem_append_left _ (List.mem_of_getElem? (i := 9) rfl)))))))
theorem mw_370 : (Jvm.Cond.methodLink "MeldTreeLaw" (42 : Nat) yXT_digest) ∈ mt_all := List.mem_append_right _ (List.mem_append_right _ (List.mem_append_right _ (List.mem_append_right _ (List.mem_append_right _ (List.mem_append_right _ (List.mem_append_left _ (List.mem_of_getElem? (i := 10) rfl)))))))
theorem mw_371 : (Jvm.Cond.instanceMethod yXT_digest) ∈ mt_all := List.mem_append_right _ (List.mem_append_right _ (List.mem_append_right _ (List.mem_append_right _ (List.mem_append_right _ (List.mem_append_right _ (List.mem_append_left _ (List.mem_of_getElem? (i := 11) rfl)))))))
theorem mw_372 : (Jvm.Cond.selects "MeldTree" yXT_digest yXT_digest) ∈ mt_all := List.mem_append_right _ (List.mem_append_right _ (List.mem_append_right _ (List.mem_append_right _ (List.mem_append_right _ (List.mem_append_right _ (List.mem_append_left _ (List.mem_of_getElem? (i := 12) rfl)))))))
theorem mw_373 : (Jvm.Cond.code yXT_digest prog_1_method_10_code (2 : Nat) (Option.some Jvm.ClassFile.FieldType.long)) ∈ mt_all := List.mem_append_right _ (List.mem_append_right _ (List.mem_append_right _ (List.mem_append_right _ (List.mem_append_right _ (List.mem_append_right _ (List.mem_append_left _ (List.mem_of_getElem? (i := 13) rfl)))))))
theorem mw_374 : (Jvm.Cond.constantLong "MeldTree" (90 : Nat) (7 : Int64)) ∈ mt_all := List.mem_append_right _ (List.mem_append_right _ (List.mem_append_right _ (List.mem_append_right _ (List.mem_append_right _ (List.mem_append_right _ (List.mem_append_left _ (List.mem_of_getElem? (i := 14) rfl)))))))
theorem mw_375 : (Jvm.Cond.methodLink "MeldTree" (92 : Nat) yXT_digestOn) ∈ mt_all := List.mem_append_right _ (List.mem_append_right _ (List.mem_append_right _ (List.mem_append_right _ (List.mem_append_right _ (List.mem_append_right _ (List.mem_append_left _ (List.mem_of_getElem? (i := 15) rfl)))))))
theorem mw_376 : (Jvm.Cond.static yXT_digestOn) ∈ mt_all := List.mem_append_right _ (List.mem_append_right _ (List.mem_append_right _ (List.mem_append_right _ (List.mem_append_right _ (List.mem_append_right _ (List.mem_append_left _ (List.mem_of_getElem? (i := 16) rfl)))))))
theorem mw_377 : (Jvm.Cond.code yXT_digestOn prog_1_method_24_code (4 : Nat) (Option.some Jvm.ClassFile.FieldType.long)) ∈ mt_all := List.mem_append_right _ (List.mem_append_right _ (List.mem_append_right _ (List.mem_append_right _ (List.mem_append_right _ (List.mem_append_right _ (List.mem_append_left _ (List.mem_of_getElem? (i := 17) rfl)))))))
theorem mw_378 : (Jvm.Cond.constantLong "MeldTree" (145 : Nat) (31 : Int64)) ∈ mt_all := List.mem_append_right _ (List.mem_append_right _ (List.mem_append_right _ (List.mem_append_right _ (List.mem_append_right _ (List.mem_append_right _ (List.mem_append_left _ (List.mem_of_getElem? (i := 18) rfl)))))))
theorem mw_379 : (Jvm.Cond.classLink "MeldTreeLaw" (47 : Nat) "MeldTreeModel") ∈ mt_all := List.mem_append_right _ (List.mem_append_right _ (List.mem_append_right _ (List.mem_append_right _ (List.mem_append_right _ (List.mem_append_right _ (List.mem_append_left _ (List.mem_of_getElem? (i := 19) rfl)))))))
theorem mw_380 : (Jvm.Cond.instantiable "MeldTreeModel" (4 : Nat)) ∈ mt_all := List.mem_append_right _ (List.mem_append_right _ (List.mem_append_right _ (List.mem_append_right _ (List.mem_append_right _ (List.mem_append_right _ (List.mem_append_left _ (List.mem_of_getElem? (i := 20) rfl)))))))
theorem mw_381 : (Jvm.Cond.methodLink "MeldTreeLaw" (49 : Nat) yXM_init) ∈ mt_all := List.mem_append_right _ (List.mem_append_right _ (List.mem_append_right _ (List.mem_append_right _ (List.mem_append_right _ (List.mem_append_right _ (List.mem_append_left _ (List.mem_of_getElem? (i := 21) rfl)))))))
theorem mw_382 : (Jvm.Cond.instanceMethod yXM_init) ∈ mt_all := List.mem_append_right _ (List.mem_append_right _ (List.mem_append_right _ (List.mem_append_right _ (List.mem_append_right _ (List.mem_append_right _ (List.mem_append_left _ (List.mem_of_getElem? (i := 22) rfl)))))))
theorem mw_383 : (Jvm.Cond.code yXM_init prog_4_method_1_code (1 : Nat) (Option.none : Option Jvm.ClassFile.FieldType)) ∈ mt_all := List.mem_append_right _ (List.mem_append_right _ (List.mem_append_right _ (List.mem_append_right _ (List.mem_append_right _ (List.mem_append_right _ (List.mem_append_left _ (List.mem_of_getElem? (i := 23) rfl)))))))
theorem mw_384 : (Jvm.Cond.methodLink "MeldTreeModel" (1 : Nat) objectInit) ∈ mt_all := List.mem_append_right _ (List.mem_append_right _ (List.mem_append_right _ (List.mem_append_right _ (List.mem_append_right _ (List.mem_append_right _ (List.mem_append_left _ (List.mem_of_getElem? (i := 24) rfl)))))))
theorem mw_385 : (Jvm.Cond.constant "MeldTreeModel" (9 : Nat) (153600 : Int32)) ∈ mt_all := List.mem_append_right _ (List.mem_append_right _ (List.mem_append_right _ (List.mem_append_right _ (List.mem_append_right _ (List.mem_append_right _ (List.mem_append_left _ (List.mem_of_getElem? (i := 25) rfl)))))))
theorem mw_386 : (Jvm.Cond.fieldLink "MeldTreeModel" (10 : Nat) "MeldTreeModel" "value" "[I") ∈ mt_all := List.mem_append_right _ (List.mem_append_right _ (List.mem_append_right _ (List.mem_append_right _ (List.mem_append_right _ (List.mem_append_right _ (List.mem_append_left _ (List.mem_of_getElem? (i := 26) rfl)))))))
theorem mw_387 : (Jvm.Cond.fieldLink "MeldTreeModel" (14 : Nat) "MeldTreeModel" "has" "[Z") ∈ mt_all := List.mem_append_right _ (List.mem_append_right _ (List.mem_append_right _ (List.mem_append_right _ (List.mem_append_right _ (List.mem_append_right _ (List.mem_append_left _ (List.mem_of_getElem? (i := 27) rfl)))))))
theorem mw_388 : (Jvm.Cond.fieldLink "MeldTreeModel" (18 : Nat) "MeldTreeModel" "versions" "I") ∈ mt_all := List.mem_append_right _ (List.mem_append_right _ (List.mem_append_right _ (List.mem_append_right _ (List.mem_append_right _ (List.mem_append_right _ (List.mem_append_left _ (List.mem_of_getElem? (i := 28) rfl)))))))
theorem mw_389 : (Jvm.Cond.fieldLink "MeldTreeModel" (22 : Nat) "MeldTreeModel" "thrown" "I") ∈ mt_all := List.mem_append_right _ (List.mem_append_right _ (List.mem_append_right _ (List.mem_append_right _ (List.mem_append_right _ (List.mem_append_right _ (List.mem_append_left _ (List.mem_of_getElem? (i := 29) rfl)))))))
theorem mw_390 : (Jvm.Cond.laysFinal "MeldTreeModel" "MeldTreeModel" "value" "[I") ∈ mt_all := List.mem_append_right _ (List.mem_append_right _ (List.mem_append_right _ (List.mem_append_right _ (List.mem_append_right _ (List.mem_append_right _ (List.mem_append_left _ (List.mem_of_getElem? (i := 30) rfl)))))))
theorem mw_391 : (Jvm.Cond.soleField "MeldTreeModel" "value") ∈ mt_all := List.mem_append_right _ (List.mem_append_right _ (List.mem_append_right _ (List.mem_append_right _ (List.mem_append_right _ (List.mem_append_right _ (List.mem_append_left _ (List.mem_of_getElem? (i := 31) rfl)))))))
theorem mw_392 : (Jvm.Cond.laysFinal "MeldTreeModel" "MeldTreeModel" "has" "[Z") ∈ mt_all := List.mem_append_right _ (List.mem_append_right _ (List.mem_append_right _ (List.mem_append_right _ (List.mem_append_right _ (List.mem_append_right _ (List.mem_append_left _ (List.mem_of_getElem? (i := 32) rfl)))))))
theorem mw_393 : (Jvm.Cond.soleField "MeldTreeModel" "has") ∈ mt_all := List.mem_append_right _ (List.mem_append_right _ (List.mem_append_right _ (List.mem_append_right _ (List.mem_append_right _ (List.mem_append_right _ (List.mem_append_left _ (List.mem_of_getElem? (i := 33) rfl)))))))
theorem mw_394 : (Jvm.Cond.lays "MeldTreeModel" "MeldTreeModel" "versions" "I") ∈ mt_all := List.mem_append_right _ (List.mem_append_right _ (List.mem_append_right _ (List.mem_append_right _ (List.mem_append_right _ (List.mem_append_right _ (List.mem_append_left _ (List.mem_of_getElem? (i := 34) rfl)))))))
theorem mw_395 : (Jvm.Cond.soleField "MeldTreeModel" "versions") ∈ mt_all := List.mem_append_right _ (List.mem_append_right _ (List.mem_append_right _ (List.mem_append_right _ (List.mem_append_right _ (List.mem_append_right _ (List.mem_append_left _ (List.mem_of_getElem? (i := 35) rfl)))))))
theorem mw_396 : (Jvm.Cond.lays "MeldTreeModel" "MeldTreeModel" "thrown" "I") ∈ mt_all := List.mem_append_right _ (List.mem_append_right _ (List.mem_append_right _ (List.mem_append_right _ (List.mem_append_right _ (List.mem_append_right _ (List.mem_append_left _ (List.mem_of_getElem? (i := 36) rfl)))))))
theorem mw_397 : (Jvm.Cond.soleField "MeldTreeModel" "thrown") ∈ mt_all := List.mem_append_right _ (List.mem_append_right _ (List.mem_append_right _ (List.mem_append_right _ (List.mem_append_right _ (List.mem_append_right _ (List.mem_append_left _ (List.mem_of_getElem? (i := 37) rfl)))))))
theorem mw_398 : (Jvm.Cond.superclass "MeldTreeModel" "java/lang/Object") ∈ mt_all := List.mem_append_right _ (List.mem_append_right _ (List.mem_append_right _ (List.mem_append_right _ (List.mem_append_right _ (List.mem_append_right _ (List.mem_append_left _ (List.mem_of_getElem? (i := 38) rfl)))))))
theorem mw_399 : (Jvm.Cond.arrayClass Jvm.ClassFile.FieldType.int) ∈ mt_all := List.mem_append_right _ (List.mem_append_right _ (List.mem_append_right _ (List.mem_append_right _ (List.mem_append_right _ (List.mem_append_right _ (List.mem_append_left _ (List.mem_of_getElem? (i := 39) rfl)))))))
theorem mw_400 : (Jvm.Cond.arrayClass Jvm.ClassFile.FieldType.boolean) ∈ mt_all := List.mem_append_right _ (List.mem_append_right _ (List.mem_append_right _ (List.mem_append_right _ (List.mem_append_right _ (List.mem_append_right _ (List.mem_append_left _ (List.mem_of_getElem? (i := 40) rfl)))))))
theorem mw_401 : (Jvm.Cond.methodLink "MeldTreeLaw" (56 : Nat) yXM_thrown) ∈ mt_all := List.mem_append_right _ (List.mem_append_right _ (List.mem_append_right _ (List.mem_append_right _ (List.mem_append_right _ (List.mem_append_right _ (List.mem_append_left _ (List.mem_of_getElem? (i := 41) rfl)))))))
theorem mw_402 : (Jvm.Cond.instanceMethod yXM_thrown) ∈ mt_all := List.mem_append_right _ (List.mem_append_right _ (List.mem_append_right _ (List.mem_append_right _ (List.mem_append_right _ (List.mem_append_right _ (List.mem_append_left _ (List.mem_of_getElem? (i := 42) rfl)))))))
theorem mw_403 : (Jvm.Cond.selects "MeldTreeModel" yXM_thrown yXM_thrown) ∈ mt_all := List.mem_append_right _ (List.mem_append_right _ (List.mem_append_right _ (List.mem_append_right _ (List.mem_append_right _ (List.mem_append_right _ (List.mem_append_left _ (List.mem_of_getElem? (i := 43) rfl)))))))
theorem mw_404 : (Jvm.Cond.code yXM_thrown prog_4_method_2_code (1 : Nat) (Option.some Jvm.ClassFile.FieldType.int)) ∈ mt_all := List.mem_append_right _ (List.mem_append_right _ (List.mem_append_right _ (List.mem_append_right _ (List.mem_append_right _ (List.mem_append_right _ (List.mem_append_left _ (List.mem_of_getElem? (i := 44) rfl)))))))
theorem mw_405 : (Jvm.Cond.methodLink "MeldTreeLaw" (55 : Nat) yXM_put) ∈ mt_all := List.mem_append_right _ (List.mem_append_right _ (List.mem_append_right _ (List.mem_append_right _ (List.mem_append_right _ (List.mem_append_right _ (List.mem_append_left _ (List.mem_of_getElem? (i := 45) rfl)))))))
theorem mw_406 : (Jvm.Cond.instanceMethod yXM_put) ∈ mt_all := List.mem_append_right _ (List.mem_append_right _ (List.mem_append_right _ (List.mem_append_right _ (List.mem_append_right _ (List.mem_append_right _ (List.mem_append_left _ (List.mem_of_getElem? (i := 46) rfl)))))))
theorem mw_407 : (Jvm.Cond.selects "MeldTreeModel" yXM_put yXM_put) ∈ mt_all := List.mem_append_right _ (List.mem_append_right _ (List.mem_append_right _ (List.mem_append_right _ (List.mem_append_right _ (List.mem_append_right _ (List.mem_append_left _ (List.mem_of_getElem? (i := 47) rfl)))))))
theorem mw_408 : (Jvm.Cond.code yXM_put prog_4_method_6_code (5 : Nat) (Option.some Jvm.ClassFile.FieldType.int)) ∈ mt_all := List.mem_append_right _ (List.mem_append_right _ (List.mem_append_right _ (List.mem_append_right _ (List.mem_append_right _ (List.mem_append_right _ (List.mem_append_left _ (List.mem_of_getElem? (i := 48) rfl)))))))
theorem mw_409 : (Jvm.Cond.methodLink "MeldTreeModel" (25 : Nat) yXM_isOne) ∈ mt_all := List.mem_append_right _ (List.mem_append_right _ (List.mem_append_right _ (List.mem_append_right _ (List.mem_append_right _ (List.mem_append_right _ (List.mem_append_left _ (List.mem_of_getElem? (i := 49) rfl)))))))
theorem mw_410 : (Jvm.Cond.instanceMethod yXM_isOne) ∈ mt_all := List.mem_append_right _ (List.mem_append_right _ (List.mem_append_right _ (List.mem_append_right _ (List.mem_append_right _ (List.mem_append_right _ (List.mem_append_left _ (List.mem_of_getElem? (i := 50) rfl)))))))
theorem mw_411 : (Jvm.Cond.code yXM_isOne prog_4_method_3_code (2 : Nat) (Option.some Jvm.ClassFile.FieldType.boolean)) ∈ mt_all := List.mem_append_right _ (List.mem_append_right _ (List.mem_append_right _ (List.mem_append_right _ (List.mem_append_right _ (List.mem_append_right _ (List.mem_append_left _ (List.mem_of_getElem? (i := 51) rfl)))))))
theorem mw_412 : (Jvm.Cond.methodLink "MeldTreeModel" (29 : Nat) yXM_isKey) ∈ mt_all := List.mem_append_right _ (List.mem_append_right _ (List.mem_append_right _ (List.mem_append_right _ (List.mem_append_right _ (List.mem_append_right _ (List.mem_append_left _ (List.mem_of_getElem? (i := 52) rfl)))))))
theorem mw_413 : (Jvm.Cond.static yXM_isKey) ∈ mt_all := List.mem_append_right _ (List.mem_append_right _ (List.mem_append_right _ (List.mem_append_right _ (List.mem_append_right _ (List.mem_append_right _ (List.mem_append_left _ (List.mem_of_getElem? (i := 53) rfl)))))))
theorem mw_414 : (Jvm.Cond.code yXM_isKey prog_4_method_4_code (1 : Nat) (Option.some Jvm.ClassFile.FieldType.boolean)) ∈ mt_all := List.mem_append_right _ (List.mem_append_right _ (List.mem_append_right _ (List.mem_append_right _ (List.mem_append_right _ (List.mem_append_right _ (List.mem_append_left _ (List.mem_of_getElem? (i := 54) rfl)))))))
theorem mw_415 : (Jvm.Cond.methodLink "MeldTreeModel" (32 : Nat) yXM_made) ∈ mt_all := List.mem_append_right _ (List.mem_append_right _ (List.mem_append_right _ (List.mem_append_right _ (List.mem_append_right _ (List.mem_append_right _ (List.mem_append_left _ (List.mem_of_getElem? (i := 55) rfl)))))))
theorem mw_416 : (Jvm.Cond.instanceMethod yXM_made) ∈ mt_all := List.mem_append_right _ (List.mem_append_right _ (List.mem_append_right _ (List.mem_append_right _ (List.mem_append_right _ (List.mem_append_right _ (List.mem_append_left _ (List.mem_of_getElem? (i := 56) rfl)))))))
theorem mw_417 : (Jvm.Cond.code yXM_made prog_4_method_5_code (7 : Nat) (Option.some Jvm.ClassFile.FieldType.int)) ∈ mt_all := List.mem_append_right _ (List.mem_append_right _ (List.mem_append_right _ (List.mem_append_right _ (List.mem_append_right _ (List.mem_append_right _ (List.mem_append_left _ (List.mem_of_getElem? (i := 57) rfl)))))))
theorem mw_418 : (Jvm.Cond.methodLink "MeldTreeLaw" (63 : Nat) yXM_remove) ∈ mt_all := List.mem_append_right _ (List.mem_append_right _ (List.mem_append_right _ (List.mem_append_right _ (List.mem_append_right _ (List.mem_append_right _ (List.mem_append_left _ (List.mem_of_getElem? (i := 58) rfl)))))))
theorem mw_419 : (Jvm.Cond.instanceMethod yXM_remove) ∈ mt_all := List.mem_append_right _ (List.mem_append_right _ (List.mem_append_right _ (List.mem_append_right _ (List.mem_append_right _ (List.mem_append_right _ (List.mem_append_left _ (List.mem_of_getElem? (i := 59) rfl)))))))
theorem mw_420 : (Jvm.Cond.selects "MeldTreeModel" yXM_remove yXM_remove) ∈ mt_all := List.mem_append_right _ (List.mem_append_right _ (List.mem_append_right _ (List.mem_append_right _ (List.mem_append_right _ (List.mem_append_right _ (List.mem_append_right _ (List.mem_of_getElem? (i := 0) rfl)))))))
theorem mw_421 : (Jvm.Cond.code yXM_remove prog_4_method_7_code (4 : Nat) (Option.some Jvm.ClassFile.FieldType.int)) ∈ mt_all := List.mem_append_right _ (List.mem_append_right _ (List.mem_append_right _ (List.mem_append_right _ (List.mem_append_right _ (List.mem_append_right _ (List.mem_append_right _ (List.mem_of_getElem? (i := 1) rfl)))))))
theorem mw_422 : (Jvm.Cond.methodLink "MeldTreeLaw" (66 : Nat) yXM_join) ∈ mt_all := List.mem_append_right _ (List.mem_append_right _ (List.mem_append_right _ (List.mem_append_right _ (List.mem_append_right _ (List.mem_append_right _ (List.mem_append_right _ (List.mem_of_getElem? (i := 2) rfl)))))))
theorem mw_423 : (Jvm.Cond.instanceMethod yXM_join) ∈ mt_all := List.mem_append_right _ (List.mem_append_right _ (List.mem_append_right _ (List.mem_append_right _ (List.mem_append_right _ (List.mem_append_right _ (List.mem_append_right _ (List.mem_of_getElem? (i := 3) rfl)))))))
theorem mw_424 : (Jvm.Cond.selects "MeldTreeModel" yXM_join yXM_join) ∈ mt_all := List.mem_append_right _ (List.mem_append_right _ (List.mem_append_right _ (List.mem_append_right _ (List.mem_append_right _ (List.mem_append_right _ (List.mem_append_right _ (List.mem_of_getElem? (i := 4) rfl)))))))
theorem mw_425 : (Jvm.Cond.code yXM_join prog_4_method_8_code (4 : Nat) (Option.some Jvm.ClassFile.FieldType.int)) ∈ mt_all := List.mem_append_right _ (List.mem_append_right _ (List.mem_append_right _ (List.mem_append_right _ (List.mem_append_right _ (List.mem_append_right _ (List.mem_append_right _ (List.mem_of_getElem? (i := 5) rfl)))))))
theorem mw_426 : (Jvm.Cond.methodLink "MeldTreeLaw" (69 : Nat) yXM_get) ∈ mt_all := List.mem_append_right _ (List.mem_append_right _ (List.mem_append_right _ (List.mem_append_right _ (List.mem_append_right _ (List.mem_append_right _ (List.mem_append_right _ (List.mem_of_getElem? (i := 6) rfl)))))))
theorem mw_427 : (Jvm.Cond.instanceMethod yXM_get) ∈ mt_all := List.mem_append_right _ (List.mem_append_right _ (List.mem_append_right _ (List.mem_append_right _ (List.mem_append_right _ (List.mem_append_right _ (List.mem_append_right _ (List.mem_of_getElem? (i := 7) rfl)))))))
theorem mw_428 : (Jvm.Cond.selects "MeldTreeModel" yXM_get yXM_get) ∈ mt_all := List.mem_append_right _ (List.mem_append_right _ (List.mem_append_right _ (List.mem_append_right _ (List.mem_append_right _ (List.mem_append_right _ (List.mem_append_right _ (List.mem_of_getElem? (i := 8) rfl)))))))
theorem mw_429 : (Jvm.Cond.code yXM_get prog_4_method_9_code (3 : Nat) (Option.some Jvm.ClassFile.FieldType.int)) ∈ mt_all := List.mem_append_right _ (List.mem_append_right _ (List.mem_append_right _ (List.mem_append_right _ (List.mem_append_right _ (List.mem_append_right _ (List.mem_append_right _ (List.mem_of_getElem? (i := 9) rfl)))))))
theorem mw_430 : (Jvm.Cond.methodLink "MeldTreeLaw" (72 : Nat) yXM_select) ∈ mt_all := List.mem_append_right _ (List.mem_append_right _ (List.mem_append_right _ (List.mem_append_right _ (List.mem_append_right _ (List.mem_append_right _ (List.mem_append_right _ (List.mem_of_getElem? (i := 10) rfl)))))))
theorem mw_431 : (Jvm.Cond.instanceMethod yXM_select) ∈ mt_all := List.mem_append_right _ (List.mem_append_right _ (List.mem_append_right _ (List.mem_append_right _ (List.mem_append_right _ (List.mem_append_right _ (List.mem_append_right _ (List.mem_of_getElem? (i := 11) rfl)))))))
theorem mw_432 : (Jvm.Cond.selects "MeldTreeModel" yXM_select yXM_select) ∈ mt_all := List.mem_append_right _ (List.mem_append_right _ (List.mem_append_right _ (List.mem_append_right _ (List.mem_append_right _ (List.mem_append_right _ (List.mem_append_right _ (List.mem_of_getElem? (i := 12) rfl)))))))
theorem mw_433 : (Jvm.Cond.code yXM_select prog_4_method_10_code (5 : Nat) (Option.some Jvm.ClassFile.FieldType.int)) ∈ mt_all := List.mem_append_right _ (List.mem_append_right _ (List.mem_append_right _ (List.mem_append_right _ (List.mem_append_right _ (List.mem_append_right _ (List.mem_append_right _ (List.mem_of_getElem? (i := 13) rfl)))))))
theorem mw_434 : (Jvm.Cond.methodLink "MeldTreeLaw" (75 : Nat) yXM_many) ∈ mt_all := List.mem_append_right _ (List.mem_append_right _ (List.mem_append_right _ (List.mem_append_right _ (List.mem_append_right _ (List.mem_append_right _ (List.mem_append_right _ (List.mem_of_getElem? (i := 14) rfl)))))))
theorem mw_435 : (Jvm.Cond.instanceMethod yXM_many) ∈ mt_all := List.mem_append_right _ (List.mem_append_right _ (List.mem_append_right _ (List.mem_append_right _ (List.mem_append_right _ (List.mem_append_right _ (List.mem_append_right _ (List.mem_of_getElem? (i := 15) rfl)))))))
theorem mw_436 : (Jvm.Cond.selects "MeldTreeModel" yXM_many yXM_many) ∈ mt_all := List.mem_append_right _ (List.mem_append_right _ (List.mem_append_right _ (List.mem_append_right _ (List.mem_append_right _ (List.mem_append_right _ (List.mem_append_right _ (List.mem_of_getElem? (i := 16) rfl)))))))
theorem mw_437 : (Jvm.Cond.code yXM_many prog_4_method_11_code (6 : Nat) (Option.some Jvm.ClassFile.FieldType.int)) ∈ mt_all := List.mem_append_right _ (List.mem_append_right _ (List.mem_append_right _ (List.mem_append_right _ (List.mem_append_right _ (List.mem_append_right _ (List.mem_append_right _ (List.mem_of_getElem? (i := 17) rfl)))))))
theorem mw_438 : (Jvm.Cond.methodLink "MeldTreeLaw" (78 : Nat) yXM_sum) ∈ mt_all := List.mem_append_right _ (List.mem_append_right _ (List.mem_append_right _ (List.mem_append_right _ (List.mem_append_right _ (List.mem_append_right _ (List.mem_append_right _ (List.mem_of_getElem? (i := 18) rfl)))))))
theorem mw_439 : (Jvm.Cond.instanceMethod yXM_sum) ∈ mt_all := List.mem_append_right _ (List.mem_append_right _ (List.mem_append_right _ (List.mem_append_right _ (List.mem_append_right _ (List.mem_append_right _ (List.mem_append_right _ (List.mem_of_getElem? (i := 19) rfl)))))))
theorem mw_440 : (Jvm.Cond.selects "MeldTreeModel" yXM_sum yXM_sum) ∈ mt_all := List.mem_append_right _ (List.mem_append_right _ (List.mem_append_right _ (List.mem_append_right _ (List.mem_append_right _ (List.mem_append_right _ (List.mem_append_right _ (List.mem_of_getElem? (i := 20) rfl)))))))
theorem mw_441 : (Jvm.Cond.code yXM_sum prog_4_method_12_code (7 : Nat) (Option.some Jvm.ClassFile.FieldType.long)) ∈ mt_all := List.mem_append_right _ (List.mem_append_right _ (List.mem_append_right _ (List.mem_append_right _ (List.mem_append_right _ (List.mem_append_right _ (List.mem_append_right _ (List.mem_of_getElem? (i := 21) rfl)))))))
theorem mw_442 : (Jvm.Cond.methodLink "MeldTreeLaw" (81 : Nat) yXM_differ) ∈ mt_all := List.mem_append_right _ (List.mem_append_right _ (List.mem_append_right _ (List.mem_append_right _ (List.mem_append_right _ (List.mem_append_right _ (List.mem_append_right _ (List.mem_of_getElem? (i := 22) rfl)))))))
theorem mw_443 : (Jvm.Cond.instanceMethod yXM_differ) ∈ mt_all := List.mem_append_right _ (List.mem_append_right _ (List.mem_append_right _ (List.mem_append_right _ (List.mem_append_right _ (List.mem_append_right _ (List.mem_append_right _ (List.mem_of_getElem? (i := 23) rfl)))))))
theorem mw_444 : (Jvm.Cond.selects "MeldTreeModel" yXM_differ yXM_differ) ∈ mt_all := List.mem_append_right _ (List.mem_append_right _ (List.mem_append_right _ (List.mem_append_right _ (List.mem_append_right _ (List.mem_append_right _ (List.mem_append_right _ (List.mem_of_getElem? (i := 24) rfl)))))))
theorem mw_445 : (Jvm.Cond.code yXM_differ prog_4_method_13_code (7 : Nat) (Option.some Jvm.ClassFile.FieldType.int)) ∈ mt_all := List.mem_append_right _ (List.mem_append_right _ (List.mem_append_right _ (List.mem_append_right _ (List.mem_append_right _ (List.mem_append_right _ (List.mem_append_right _ (List.mem_of_getElem? (i := 25) rfl)))))))
theorem mw_446 : (Jvm.Cond.methodLink "MeldTreeLaw" (85 : Nat) yXM_digest) ∈ mt_all := List.mem_append_right _ (List.mem_append_right _ (List.mem_append_right _ (List.mem_append_right _ (List.mem_append_right _ (List.mem_append_right _ (List.mem_append_right _ (List.mem_of_getElem? (i := 26) rfl)))))))
theorem mw_447 : (Jvm.Cond.instanceMethod yXM_digest) ∈ mt_all := List.mem_append_right _ (List.mem_append_right _ (List.mem_append_right _ (List.mem_append_right _ (List.mem_append_right _ (List.mem_append_right _ (List.mem_append_right _ (List.mem_of_getElem? (i := 27) rfl)))))))
theorem mw_448 : (Jvm.Cond.selects "MeldTreeModel" yXM_digest yXM_digest) ∈ mt_all := List.mem_append_right _ (List.mem_append_right _ (List.mem_append_right _ (List.mem_append_right _ (List.mem_append_right _ (List.mem_append_right _ (List.mem_append_right _ (List.mem_of_getElem? (i := 28) rfl)))))))
theorem mw_449 : (Jvm.Cond.code yXM_digest prog_4_method_14_code (5 : Nat) (Option.some Jvm.ClassFile.FieldType.long)) ∈ mt_all := List.mem_append_right _ (List.mem_append_right _ (List.mem_append_right _ (List.mem_append_right _ (List.mem_append_right _ (List.mem_append_right _ (List.mem_append_right _ (List.mem_of_getElem? (i := 29) rfl)))))))
theorem mw_450 : (Jvm.Cond.constantLong "MeldTreeModel" (36 : Nat) (7 : Int64)) ∈ mt_all := List.mem_append_right _ (List.mem_append_right _ (List.mem_append_right _ (List.mem_append_right _ (List.mem_append_right _ (List.mem_append_right _ (List.mem_append_right _ (List.mem_of_getElem? (i := 30) rfl)))))))
theorem mw_451 : (Jvm.Cond.constantLong "MeldTreeModel" (38 : Nat) (31 : Int64)) ∈ mt_all := List.mem_append_right _ (List.mem_append_right _ (List.mem_append_right _ (List.mem_append_right _ (List.mem_append_right _ (List.mem_append_right _ (List.mem_append_right _ (List.mem_of_getElem? (i := 31) rfl)))))))
theorem mw_452 : (Jvm.Cond.methodLink "MeldTreeLaw" (89 : Nat) yXM_versions) ∈ mt_all := List.mem_append_right _ (List.mem_append_right _ (List.mem_append_right _ (List.mem_append_right _ (List.mem_append_right _ (List.mem_append_right _ (List.mem_append_right _ (List.mem_of_getElem? (i := 32) rfl)))))))
theorem mw_453 : (Jvm.Cond.instanceMethod yXM_versions) ∈ mt_all := List.mem_append_right _ (List.mem_append_right _ (List.mem_append_right _ (List.mem_append_right _ (List.mem_append_right _ (List.mem_append_right _ (List.mem_append_right _ (List.mem_of_getElem? (i := 33) rfl)))))))
theorem mw_454 : (Jvm.Cond.selects "MeldTreeModel" yXM_versions yXM_versions) ∈ mt_all := List.mem_append_right _ (List.mem_append_right _ (List.mem_append_right _ (List.mem_append_right _ (List.mem_append_right _ (List.mem_append_right _ (List.mem_append_right _ (List.mem_of_getElem? (i := 34) rfl)))))))
theorem mw_455 : (Jvm.Cond.code yXM_versions prog_4_method_15_code (1 : Nat) (Option.some Jvm.ClassFile.FieldType.int)) ∈ mt_all := List.mem_append_right _ (List.mem_append_right _ (List.mem_append_right _ (List.mem_append_right _ (List.mem_append_right _ (List.mem_append_right _ (List.mem_append_right _ (List.mem_of_getElem? (i := 35) rfl)))))))
theorem mw_456 : (Jvm.Cond.methodLink "MeldTreeLaw" (93 : Nat) yXM_check) ∈ mt_all := List.mem_append_right _ (List.mem_append_right _ (List.mem_append_right _ (List.mem_append_right _ (List.mem_append_right _ (List.mem_append_right _ (List.mem_append_right _ (List.mem_of_getElem? (i := 36) rfl)))))))
theorem mw_457 : (Jvm.Cond.instanceMethod yXM_check) ∈ mt_all := List.mem_append_right _ (List.mem_append_right _ (List.mem_append_right _ (List.mem_append_right _ (List.mem_append_right _ (List.mem_append_right _ (List.mem_append_right _ (List.mem_of_getElem? (i := 37) rfl)))))))
theorem mw_458 : (Jvm.Cond.selects "MeldTreeModel" yXM_check yXM_check) ∈ mt_all := List.mem_append_right _ (List.mem_append_right _ (List.mem_append_right _ (List.mem_append_right _ (List.mem_append_right _ (List.mem_append_right _ (List.mem_append_right _ (List.mem_of_getElem? (i := 38) rfl)))))))
theorem mw_459 : (Jvm.Cond.code yXM_check prog_4_method_16_code (1 : Nat) (Option.some Jvm.ClassFile.FieldType.int)) ∈ mt_all := List.mem_append_right _ (List.mem_append_right _ (List.mem_append_right _ (List.mem_append_right _ (List.mem_append_right _ (List.mem_append_right _ (List.mem_append_right _ (List.mem_of_getElem? (i := 39) rfl)))))))
theorem mw_460 : (Jvm.Cond.arrayClass Jvm.ClassFile.FieldType.long) ∈ mt_all := List.mem_append_right _ (List.mem_append_right _ (List.mem_append_right _ (List.mem_append_right _ (List.mem_append_right _ (List.mem_append_right _ (List.mem_append_right _ (List.mem_of_getElem? (i := 40) rfl)))))))
theorem mw_461 : (Jvm.Cond.sameMethod "java/lang/Throwable" "java/lang/Throwable" "fillInStackTrace" "(I)Ljava/lang/Throwable;") ∈ mt_all := List.mem_append_right _ (List.mem_append_right _ (List.mem_append_right _ (List.mem_append_right _ (List.mem_append_right _ (List.mem_append_right _ (List.mem_append_right _ (List.mem_of_getElem? (i := 41) rfl)))))))
theorem mw_462 : (Jvm.Cond.sameMethod "[Ljava/lang/Object;" "java/lang/Object" "getClass" "()Ljava/lang/Class;") ∈ mt_all := List.mem_append_right _ (List.mem_append_right _ (List.mem_append_right _ (List.mem_append_right _ (List.mem_append_right _ (List.mem_append_right _ (List.mem_append_right _ (List.mem_of_getElem? (i := 42) rfl)))))))
theorem mw_463 : (Jvm.Cond.selects "[Ljava/lang/Object;" (⟨"java/lang/Object", "getClass", "()Ljava/lang/Class;"⟩ : MethodName) (⟨"java/lang/Object", "getClass", "()Ljava/lang/Class;"⟩ : MethodName)) ∈ mt_all := List.mem_append_right _ (List.mem_append_right _ (List.mem_append_right _ (List.mem_append_right _ (List.mem_append_right _ (List.mem_append_right _ (List.mem_append_right _ (List.mem_of_getElem? (i := 43) rfl)))))))
theorem mw_464 : (Jvm.Cond.selects "MeldTree" yXT_needVersion yXT_needVersion) ∈ mt_all := List.mem_append_right _ (List.mem_append_right _ (List.mem_append_right _ (List.mem_append_right _ (List.mem_append_right _ (List.mem_append_right _ (List.mem_append_right _ (List.mem_of_getElem? (i := 44) rfl)))))))
theorem mw_465 : (Jvm.Cond.selects "java/lang/Throwable" (⟨"java/lang/Throwable", "fillInStackTrace", "(I)Ljava/lang/Throwable;"⟩ : MethodName) (⟨"java/lang/Throwable", "fillInStackTrace", "(I)Ljava/lang/Throwable;"⟩ : MethodName)) ∈ mt_all := List.mem_append_right _ (List.mem_append_right _ (List.mem_append_right _ (List.mem_append_right _ (List.mem_append_right _ (List.mem_append_right _ (List.mem_append_right _ (List.mem_of_getElem? (i := 45) rfl)))))))
theorem mw_466 : (Jvm.Cond.selects "MeldTree" yXT_needRoom yXT_needRoom) ∈ mt_all := List.mem_append_right _ (List.mem_append_right _ (List.mem_append_right _ (List.mem_append_right _ (List.mem_append_right _ (List.mem_append_right _ (List.mem_append_right _ (List.mem_of_getElem? (i := 46) rfl)))))))
theorem mw_467 : (Jvm.Cond.selects "java/util/ArrayList" yXA_add_2 yXA_add_2) ∈ mt_all := List.mem_append_right _ (List.mem_append_right _ (List.mem_append_right _ (List.mem_append_right _ (List.mem_append_right _ (List.mem_append_right _ (List.mem_append_right _ (List.mem_of_getElem? (i := 47) rfl)))))))
theorem mw_468 : (Jvm.Cond.selects "java/util/ArrayList" yXA_grow yXA_grow) ∈ mt_all := List.mem_append_right _ (List.mem_append_right _ (List.mem_append_right _ (List.mem_append_right _ (List.mem_append_right _ (List.mem_append_right _ (List.mem_append_right _ (List.mem_of_getElem? (i := 48) rfl)))))))
theorem mw_469 : (Jvm.Cond.selects "java/util/ArrayList" yXA_grow_2 yXA_grow_2) ∈ mt_all := List.mem_append_right _ (List.mem_append_right _ (List.mem_append_right _ (List.mem_append_right _ (List.mem_append_right _ (List.mem_append_right _ (List.mem_append_right _ (List.mem_of_getElem? (i := 49) rfl)))))))
theorem mw_470 : (Jvm.Cond.selects "MeldTree" yXT_keep yXT_keep) ∈ mt_all := List.mem_append_right _ (List.mem_append_right _ (List.mem_append_right _ (List.mem_append_right _ (List.mem_append_right _ (List.mem_append_right _ (List.mem_append_right _ (List.mem_of_getElem? (i := 50) rfl)))))))
theorem mw_471 : (Jvm.Cond.selects "MeldTreeModel" yXM_isOne yXM_isOne) ∈ mt_all := List.mem_append_right _ (List.mem_append_right _ (List.mem_append_right _ (List.mem_append_right _ (List.mem_append_right _ (List.mem_append_right _ (List.mem_append_right _ (List.mem_of_getElem? (i := 51) rfl)))))))
theorem mw_472 : (Jvm.Cond.selects "MeldTreeModel" yXM_made yXM_made) ∈ mt_all := List.mem_append_right _ (List.mem_append_right _ (List.mem_append_right _ (List.mem_append_right _ (List.mem_append_right _ (List.mem_append_right _ (List.mem_append_right _ (List.mem_of_getElem? (i := 52) rfl)))))))
theorem mt_good : ∀ w ∈ mt_all, (w.onTables && w.keeps) = true ∨ ∃ ty, w = .arrayClass ty := by
  intro w hw
  unfold mt_all at hw
  rcases List.mem_append.mp hw with hw | hw
  · exact good_of_word (List.all_eq_true.mp mt_good_0 w hw)
  rcases List.mem_append.mp hw with hw | hw
  · exact good_of_word (List.all_eq_true.mp mt_good_1 w hw)
  rcases List.mem_append.mp hw with hw | hw
  · exact good_of_word (List.all_eq_true.mp mt_good_2 w hw)
  rcases List.mem_append.mp hw with hw | hw
  · exact good_of_word (List.all_eq_true.mp mt_good_3 w hw)
  rcases List.mem_append.mp hw with hw | hw
  · exact good_of_word (List.all_eq_true.mp mt_good_4 w hw)
  rcases List.mem_append.mp hw with hw | hw
  · exact good_of_word (List.all_eq_true.mp mt_good_5 w hw)
  rcases List.mem_append.mp hw with hw | hw
  · exact good_of_word (List.all_eq_true.mp mt_good_6 w hw)
  exact good_of_word (List.all_eq_true.mp mt_good_7 w hw)
theorem mt_gi {a : Cond} {y : MethodName} {c : ByteArray} {n : Nat} {r : Option FieldType} (h : Cond.code y c n r ∈ mt_all) : GoodIn (a :: mt_all) (Cond.code y c n r :: mt_all) := fun w hw => by
  rcases List.mem_cons.mp hw with rfl | h2
  · exact ⟨List.mem_cons_of_mem _ h, mt_good _ h⟩
  · exact ⟨List.mem_cons_of_mem _ h2, mt_good w h2⟩
theorem mt_giW {a : Cond} {y : MethodName} {c : ByteArray} {n : Nat} {r : Option FieldType} {hh : List (Nat × Nat × Nat × Nat)} (h : Cond.codeWith y c n r hh ∈ mt_all) : GoodIn (a :: mt_all) (Cond.codeWith y c n r hh :: mt_all) := fun w hw => by
  rcases List.mem_cons.mp hw with rfl | h2
  · exact ⟨List.mem_cons_of_mem _ h, mt_good _ h⟩
  · exact ⟨List.mem_cons_of_mem _ h2, mt_good w h2⟩
theorem mt_gl {a : Cond} {l b : List Cond} (hl : ∀ w ∈ l, w ∈ mt_all) (hb : GoodIn (a :: mt_all) b) : GoodIn (a :: mt_all) (l ++ b) := fun w hw => by
  rcases List.mem_append.mp hw with h | h
  · exact ⟨List.mem_cons_of_mem _ (hl w h), mt_good w (hl w h)⟩
  · exact hb w h
theorem mt_giS {a : Cond} {own : String} {i : Nat} {y : MethodName} {ws : List Cond} (h1 : Cond.methodLink own i y ∈ mt_all) (h2 : Cond.static y ∈ mt_all) (h3 : Cond.initialized y.cls ∈ mt_all) (h : GoodIn (a :: mt_all) ws) : GoodIn (a :: mt_all) (va_wsS own i y ws) :=
  mt_gl (List.forall_mem_cons.mpr ⟨h1, List.forall_mem_cons.mpr ⟨h2, List.forall_mem_cons.mpr ⟨h3, fun _ z => nomatch z⟩⟩⟩) h
theorem mt_giV {a : Cond} {own C : String} {i : Nat} {y : MethodName} {ws : List Cond} (h1 : Cond.methodLink own i y ∈ mt_all) (h2 : Cond.instanceMethod y ∈ mt_all) (h3 : Cond.selects C y y ∈ mt_all) (h4 : Cond.initialized C ∈ mt_all) (h : GoodIn (a :: mt_all) ws) : GoodIn (a :: mt_all) (wsV own i C y ws) :=
  mt_gl (List.forall_mem_cons.mpr ⟨h1, List.forall_mem_cons.mpr ⟨h2, List.forall_mem_cons.mpr ⟨h3, List.forall_mem_cons.mpr ⟨h4, fun _ z => nomatch z⟩⟩⟩⟩) h
theorem in_XT : ∀ w ∈ u_ws RXT TXT 3, w ∈ mt_all := List.forall_mem_cons.mpr ⟨mw_56, List.forall_mem_cons.mpr ⟨mw_58, List.forall_mem_cons.mpr ⟨mw_60, fun _ z => nomatch z⟩⟩⟩
theorem in_XN : ∀ w ∈ u_ws RXN TXN 7, w ∈ mt_all := List.forall_mem_cons.mpr ⟨mw_206, List.forall_mem_cons.mpr ⟨mw_208, List.forall_mem_cons.mpr ⟨mw_210, List.forall_mem_cons.mpr ⟨mw_212, List.forall_mem_cons.mpr ⟨mw_214, List.forall_mem_cons.mpr ⟨mw_216, List.forall_mem_cons.mpr ⟨mw_218, fun _ z => nomatch z⟩⟩⟩⟩⟩⟩⟩
theorem in_XM : ∀ w ∈ u_ws RXM TXM 4, w ∈ mt_all := List.forall_mem_cons.mpr ⟨mw_390, List.forall_mem_cons.mpr ⟨mw_392, List.forall_mem_cons.mpr ⟨mw_394, List.forall_mem_cons.mpr ⟨mw_396, fun _ z => nomatch z⟩⟩⟩⟩
theorem in_XA : ∀ w ∈ u_ws RXA TXA 3, w ∈ mt_all := List.forall_mem_cons.mpr ⟨mw_50, List.forall_mem_cons.mpr ⟨mw_46, List.forall_mem_cons.mpr ⟨mw_48, fun _ z => nomatch z⟩⟩⟩
def wsXT_init : List Cond := Cond.code yXT_init cXT_init 1 (Option.none : Option Jvm.ClassFile.FieldType) :: mt_all
def wsXA_init : List Cond := Cond.code yXA_init cXA_init 1 (Option.none : Option Jvm.ClassFile.FieldType) :: mt_all
def wsXB_init : List Cond := Cond.code yXB_init cXB_init 1 (Option.none : Option Jvm.ClassFile.FieldType) :: mt_all
def wsXC_init : List Cond := Cond.code yXC_init cXC_init 1 (Option.none : Option Jvm.ClassFile.FieldType) :: mt_all
def wsXT_versions : List Cond := Cond.code yXT_versions cXT_versions 1 (Option.some Jvm.ClassFile.FieldType.int) :: mt_all
def wsXT_check : List Cond := Cond.code yXT_check cXT_check 3 (Option.some Jvm.ClassFile.FieldType.int) :: mt_all
def wsXT_isAt : List Cond := Cond.code yXT_isAt cXT_isAt 3 (Option.some Jvm.ClassFile.FieldType.boolean) :: mt_all
def wsXA_size : List Cond := Cond.code yXA_size cXA_size 1 (Option.some Jvm.ClassFile.FieldType.int) :: mt_all
def wsXA_get : List Cond := Cond.code yXA_get cXA_get 2 (Option.some (Jvm.ClassFile.FieldType.object "java/lang/Object")) :: mt_all
def wsXO_checkIndex : List Cond := Cond.code yXO_checkIndex cXO_checkIndex 2 (Option.some Jvm.ClassFile.FieldType.int) :: mt_all
def wsXP_checkIndex : List Cond := Cond.code yXP_checkIndex cXP_checkIndex 3 (Option.some Jvm.ClassFile.FieldType.int) :: mt_all
def wsXA_elementData : List Cond := Cond.code yXA_elementData cXA_elementData 2 (Option.some (Jvm.ClassFile.FieldType.object "java/lang/Object")) :: mt_all
def wsXT_faultsOf : List Cond := Cond.code yXT_faultsOf cXT_faultsOf 1 (Option.some Jvm.ClassFile.FieldType.int) :: mt_all
def wsXT_faultsOfLeaf : List Cond := Cond.code yXT_faultsOfLeaf cXT_faultsOfLeaf 2 (Option.some Jvm.ClassFile.FieldType.int) :: mt_all
def wsXT_faultsOfFork : List Cond := Cond.code yXT_faultsOfFork cXT_faultsOfFork 3 (Option.some Jvm.ClassFile.FieldType.int) :: mt_all
def wsXT_sizeOf : List Cond := Cond.code yXT_sizeOf cXT_sizeOf 1 (Option.some Jvm.ClassFile.FieldType.int) :: mt_all
def wsXT_totalOf : List Cond := Cond.code yXT_totalOf cXT_totalOf 1 (Option.some Jvm.ClassFile.FieldType.long) :: mt_all
def wsXL_put : List Cond := Cond.codeWith yXL_put cXL_put 6 (Option.some Jvm.ClassFile.FieldType.int) [(0, 12, 15, 13), (0, 12, 19, 15)] :: mt_all
def wsXT_put : List Cond := Cond.code yXT_put cXT_put 5 (Option.some Jvm.ClassFile.FieldType.int) :: mt_all
def wsXT_needVersion : List Cond := Cond.code yXT_needVersion cXT_needVersion 2 (Option.none : Option Jvm.ClassFile.FieldType) :: mt_all
def wsXT_needKey : List Cond := Cond.code yXT_needKey cXT_needKey 1 (Option.none : Option Jvm.ClassFile.FieldType) :: mt_all
def wsXT_needRoom : List Cond := Cond.code yXT_needRoom cXT_needRoom 1 (Option.none : Option Jvm.ClassFile.FieldType) :: mt_all
def wsXN_init : List Cond := Cond.code yXN_init cXN_init 3 (Option.none : Option Jvm.ClassFile.FieldType) :: mt_all
def wsXA_add : List Cond := Cond.code yXA_add cXA_add 2 (Option.some Jvm.ClassFile.FieldType.boolean) :: mt_all
def wsXA_add_2 : List Cond := Cond.code yXA_add_2 cXA_add_2 4 (Option.none : Option Jvm.ClassFile.FieldType) :: mt_all
def wsXA_grow : List Cond := Cond.code yXA_grow cXA_grow 1 (Option.some (Jvm.ClassFile.FieldType.array (Jvm.ClassFile.FieldType.object "java/lang/Object"))) :: mt_all
def wsXA_grow_2 : List Cond := Cond.code yXA_grow_2 cXA_grow_2 4 (Option.some (Jvm.ClassFile.FieldType.array (Jvm.ClassFile.FieldType.object "java/lang/Object"))) :: mt_all
def wsXS_newLength : List Cond := Cond.code yXS_newLength cXS_newLength 4 (Option.some Jvm.ClassFile.FieldType.int) :: mt_all
def wsXS_hugeLength : List Cond := Cond.code yXS_hugeLength cXS_hugeLength 3 (Option.some Jvm.ClassFile.FieldType.int) :: mt_all
def wsXR_copyOf : List Cond := Cond.code yXR_copyOf cXR_copyOf 2 (Option.some (Jvm.ClassFile.FieldType.array (Jvm.ClassFile.FieldType.object "java/lang/Object"))) :: mt_all
def wsXR_copyOf_2 : List Cond := Cond.code yXR_copyOf_2 cXR_copyOf_2 4 (Option.some (Jvm.ClassFile.FieldType.array (Jvm.ClassFile.FieldType.object "java/lang/Object"))) :: mt_all
def wsXT_meld : List Cond := Cond.code yXT_meld cXT_meld 9 (Option.some (Jvm.ClassFile.FieldType.object "MeldTree$Node")) :: mt_all
def wsXT_goesHigh : List Cond := Cond.code yXT_goesHigh cXT_goesHigh 2 (Option.some Jvm.ClassFile.FieldType.boolean) :: mt_all
def wsXT_lowOf : List Cond := Cond.code yXT_lowOf cXT_lowOf 1 (Option.some (Jvm.ClassFile.FieldType.object "MeldTree$Node")) :: mt_all
def wsXT_highOf : List Cond := Cond.code yXT_highOf cXT_highOf 1 (Option.some (Jvm.ClassFile.FieldType.object "MeldTree$Node")) :: mt_all
def wsXN_init_2 : List Cond := Cond.code yXN_init_2 cXN_init_2 5 (Option.none : Option Jvm.ClassFile.FieldType) :: mt_all
def wsXT_keep : List Cond := Cond.code yXT_keep cXT_keep 3 (Option.some Jvm.ClassFile.FieldType.int) :: mt_all
def wsXL_remove : List Cond := Cond.codeWith yXL_remove cXL_remove 5 (Option.some Jvm.ClassFile.FieldType.int) [(0, 10, 13, 13), (0, 10, 17, 15), (0, 10, 21, 21)] :: mt_all
def wsXT_remove : List Cond := Cond.code yXT_remove cXT_remove 3 (Option.some Jvm.ClassFile.FieldType.int) :: mt_all
def wsXT_leafAt : List Cond := Cond.code yXT_leafAt cXT_leafAt 4 (Option.some (Jvm.ClassFile.FieldType.object "MeldTree$Node")) :: mt_all
def wsXL_join : List Cond := Cond.codeWith yXL_join cXL_join 6 (Option.some Jvm.ClassFile.FieldType.int) [(0, 12, 15, 13), (0, 12, 19, 15)] :: mt_all
def wsXT_join : List Cond := Cond.code yXT_join cXT_join 4 (Option.some Jvm.ClassFile.FieldType.int) :: mt_all
def wsXL_get : List Cond := Cond.codeWith yXL_get cXL_get 5 (Option.some Jvm.ClassFile.FieldType.int) [(0, 10, 13, 13), (0, 10, 17, 21)] :: mt_all
def wsXT_get : List Cond := Cond.code yXT_get cXT_get 4 (Option.some Jvm.ClassFile.FieldType.int) :: mt_all
def wsXL_select : List Cond := Cond.codeWith yXL_select cXL_select 5 (Option.some Jvm.ClassFile.FieldType.int) [(0, 10, 13, 13)] :: mt_all
def wsXT_select : List Cond := Cond.code yXT_select cXT_select 3 (Option.some Jvm.ClassFile.FieldType.int) :: mt_all
def wsXT_keyAt : List Cond := Cond.code yXT_keyAt cXT_keyAt 7 (Option.some Jvm.ClassFile.FieldType.int) :: mt_all
def wsXL_many : List Cond := Cond.codeWith yXL_many cXL_many 6 (Option.some Jvm.ClassFile.FieldType.int) [(0, 12, 15, 13)] :: mt_all
def wsXT_many : List Cond := Cond.code yXT_many cXT_many 4 (Option.some Jvm.ClassFile.FieldType.int) :: mt_all
def wsXT_sizeBelow : List Cond := Cond.code yXT_sizeBelow cXT_sizeBelow 5 (Option.some Jvm.ClassFile.FieldType.int) :: mt_all
def wsXL_sum : List Cond := Cond.codeWith yXL_sum cXL_sum 6 (Option.some Jvm.ClassFile.FieldType.int) [(0, 11, 14, 13)] :: mt_all
def wsXT_sum : List Cond := Cond.code yXT_sum cXT_sum 4 (Option.some Jvm.ClassFile.FieldType.long) :: mt_all
def wsXT_totalBelow : List Cond := Cond.code yXT_totalBelow cXT_totalBelow 6 (Option.some Jvm.ClassFile.FieldType.long) :: mt_all
def wsXL_differ : List Cond := Cond.codeWith yXL_differ cXL_differ 5 (Option.some Jvm.ClassFile.FieldType.int) [(0, 10, 13, 13)] :: mt_all
def wsXT_differ : List Cond := Cond.code yXT_differ cXT_differ 3 (Option.some Jvm.ClassFile.FieldType.int) :: mt_all
def wsXT_differences : List Cond := Cond.code yXT_differences cXT_differences 3 (Option.some Jvm.ClassFile.FieldType.int) :: mt_all
def wsXL_digest : List Cond := Cond.codeWith yXL_digest cXL_digest 4 (Option.some Jvm.ClassFile.FieldType.int) [(0, 8, 11, 13)] :: mt_all
def wsXT_digest : List Cond := Cond.code yXT_digest cXT_digest 2 (Option.some Jvm.ClassFile.FieldType.long) :: mt_all
def wsXT_digestOn : List Cond := Cond.code yXT_digestOn cXT_digestOn 4 (Option.some Jvm.ClassFile.FieldType.long) :: mt_all
def wsXM_init : List Cond := Cond.code yXM_init cXM_init 1 (Option.none : Option Jvm.ClassFile.FieldType) :: mt_all
def wsXM_thrown : List Cond := Cond.code yXM_thrown cXM_thrown 1 (Option.some Jvm.ClassFile.FieldType.int) :: mt_all
def wsXM_put : List Cond := Cond.code yXM_put cXM_put 5 (Option.some Jvm.ClassFile.FieldType.int) :: mt_all
def wsXM_isOne : List Cond := Cond.code yXM_isOne cXM_isOne 2 (Option.some Jvm.ClassFile.FieldType.boolean) :: mt_all
def wsXM_isKey : List Cond := Cond.code yXM_isKey cXM_isKey 1 (Option.some Jvm.ClassFile.FieldType.boolean) :: mt_all
def wsXM_made : List Cond := Cond.code yXM_made cXM_made 7 (Option.some Jvm.ClassFile.FieldType.int) :: mt_all
def wsXM_remove : List Cond := Cond.code yXM_remove cXM_remove 4 (Option.some Jvm.ClassFile.FieldType.int) :: mt_all
def wsXM_join : List Cond := Cond.code yXM_join cXM_join 4 (Option.some Jvm.ClassFile.FieldType.int) :: mt_all
def wsXM_get : List Cond := Cond.code yXM_get cXM_get 3 (Option.some Jvm.ClassFile.FieldType.int) :: mt_all
def wsXM_select : List Cond := Cond.code yXM_select cXM_select 5 (Option.some Jvm.ClassFile.FieldType.int) :: mt_all
def wsXM_many : List Cond := Cond.code yXM_many cXM_many 6 (Option.some Jvm.ClassFile.FieldType.int) :: mt_all
def wsXM_sum : List Cond := Cond.code yXM_sum cXM_sum 7 (Option.some Jvm.ClassFile.FieldType.long) :: mt_all
def wsXM_differ : List Cond := Cond.code yXM_differ cXM_differ 7 (Option.some Jvm.ClassFile.FieldType.int) :: mt_all
def wsXM_digest : List Cond := Cond.code yXM_digest cXM_digest 5 (Option.some Jvm.ClassFile.FieldType.long) :: mt_all
def wsXM_versions : List Cond := Cond.code yXM_versions cXM_versions 1 (Option.some Jvm.ClassFile.FieldType.int) :: mt_all
def wsXM_check : List Cond := Cond.code yXM_check cXM_check 1 (Option.some Jvm.ClassFile.FieldType.int) :: mt_all
def wsXL_law : List Cond := Cond.code yXL_law cXL_law 8 (Option.some Jvm.ClassFile.FieldType.boolean) :: mt_all
