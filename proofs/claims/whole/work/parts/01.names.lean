-- ===== PART A: goes FIRST, ahead of the names: the tables' words, and 'selects' of the private methods out of them =====
/-- a private method of a class that the tables say can be made, by its rows of tables_1 -/
def lw_okq (q : MethodName × Nat) : Prop := (q.1.cls ≠ "java/lang/invoke/MethodHandle" ∧ q.1.cls ≠ "java/lang/invoke/VarHandle") ∧ Cond.instantiable q.1.cls q.2 ∈ tables_1 ∧ Cond.privateMethod q.1 ∈ tables_1 ∧ Cond.instanceMethod q.1 ∈ tables_1
theorem lw_p0 : lw_okq (⟨"WordTrees", "living", "(I)LWordTrees$Entry;"⟩, 5) := ⟨⟨by decide +kernel, by decide +kernel⟩, List.mem_of_getElem? (i := 9) (by decide +kernel), List.mem_of_getElem? (i := 113) (by decide +kernel), List.mem_of_getElem? (i := 114) (by decide +kernel)⟩
theorem lw_p1 : lw_okq (⟨"WordTrees", "countWithin", "(I)I"⟩, 5) := ⟨⟨by decide +kernel, by decide +kernel⟩, List.mem_of_getElem? (i := 9) (by decide +kernel), List.mem_of_getElem? (i := 128) (by decide +kernel), List.mem_of_getElem? (i := 129) (by decide +kernel)⟩
theorem lw_p2 : lw_okq (⟨"WordTrees", "reckonSums", "()V"⟩, 5) := ⟨⟨by decide +kernel, by decide +kernel⟩, List.mem_of_getElem? (i := 9) (by decide +kernel), List.mem_of_getElem? (i := 166) (by decide +kernel), List.mem_of_getElem? (i := 167) (by decide +kernel)⟩
theorem lw_p3 : lw_okq (⟨"WordTrees$Reading", "addSign", "(I)V"⟩, 3) := ⟨⟨by decide +kernel, by decide +kernel⟩, List.mem_of_getElem? (i := 19) (by decide +kernel), List.mem_of_getElem? (i := 174) (by decide +kernel), List.mem_of_getElem? (i := 175) (by decide +kernel)⟩
theorem lw_p4 : lw_okq (⟨"WordTrees$Reading", "costAs", "(II)I"⟩, 3) := ⟨⟨by decide +kernel, by decide +kernel⟩, List.mem_of_getElem? (i := 19) (by decide +kernel), List.mem_of_getElem? (i := 178) (by decide +kernel), List.mem_of_getElem? (i := 179) (by decide +kernel)⟩
theorem lw_p5 : lw_okq (⟨"WordTrees$Reading", "told", "(II)I"⟩, 3) := ⟨⟨by decide +kernel, by decide +kernel⟩, List.mem_of_getElem? (i := 19) (by decide +kernel), List.mem_of_getElem? (i := 182) (by decide +kernel), List.mem_of_getElem? (i := 183) (by decide +kernel)⟩
theorem lw_p6 : lw_okq (⟨"WordTrees", "mayBeFound", "(LWordTrees$Entry;)Z"⟩, 5) := ⟨⟨by decide +kernel, by decide +kernel⟩, List.mem_of_getElem? (i := 9) (by decide +kernel), List.mem_of_getElem? (i := 194) (by decide +kernel), List.mem_of_getElem? (i := 195) (by decide +kernel)⟩
theorem lw_p7 : lw_okq (⟨"WordTrees", "lookAt", "(I)I"⟩, 5) := ⟨⟨by decide +kernel, by decide +kernel⟩, List.mem_of_getElem? (i := 9) (by decide +kernel), List.mem_of_getElem? (i := 224) (by decide +kernel), List.mem_of_getElem? (i := 225) (by decide +kernel)⟩
theorem lw_p8 : lw_okq (⟨"WordTrees", "countAbbreviations", "(LWordTrees$Entry;)I"⟩, 5) := ⟨⟨by decide +kernel, by decide +kernel⟩, List.mem_of_getElem? (i := 9) (by decide +kernel), List.mem_of_getElem? (i := 239) (by decide +kernel), List.mem_of_getElem? (i := 240) (by decide +kernel)⟩
theorem lw_p9 : lw_okq (⟨"WordTreesModel", "forget", "()V"⟩, 14) := ⟨⟨by decide +kernel, by decide +kernel⟩, List.mem_of_getElem? (i := 255) (by decide +kernel), List.mem_of_getElem? (i := 261) (by decide +kernel), List.mem_of_getElem? (i := 262) (by decide +kernel)⟩
theorem lw_p10 : lw_okq (⟨"WordTreesModel", "isEntry", "(I)Z"⟩, 14) := ⟨⟨by decide +kernel, by decide +kernel⟩, List.mem_of_getElem? (i := 255) (by decide +kernel), List.mem_of_getElem? (i := 317) (by decide +kernel), List.mem_of_getElem? (i := 318) (by decide +kernel)⟩
theorem lw_p11 : lw_okq (⟨"WordTreesModel", "count", "()I"⟩, 14) := ⟨⟨by decide +kernel, by decide +kernel⟩, List.mem_of_getElem? (i := 255) (by decide +kernel), List.mem_of_getElem? (i := 328) (by decide +kernel), List.mem_of_getElem? (i := 329) (by decide +kernel)⟩
theorem lw_p12 : lw_okq (⟨"WordTreesModel", "mayBeFound", "(I)Z"⟩, 14) := ⟨⟨by decide +kernel, by decide +kernel⟩, List.mem_of_getElem? (i := 255) (by decide +kernel), List.mem_of_getElem? (i := 344) (by decide +kernel), List.mem_of_getElem? (i := 345) (by decide +kernel)⟩
theorem lw_p13 : lw_okq (⟨"WordTreesModel", "sumOf", "(I)I"⟩, 14) := ⟨⟨by decide +kernel, by decide +kernel⟩, List.mem_of_getElem? (i := 255) (by decide +kernel), List.mem_of_getElem? (i := 348) (by decide +kernel), List.mem_of_getElem? (i := 349) (by decide +kernel)⟩
theorem lw_p14 : lw_okq (⟨"WordTreesModel", "ownSum", "(I)I"⟩, 14) := ⟨⟨by decide +kernel, by decide +kernel⟩, List.mem_of_getElem? (i := 255) (by decide +kernel), List.mem_of_getElem? (i := 352) (by decide +kernel), List.mem_of_getElem? (i := 353) (by decide +kernel)⟩
theorem lw_p15 : lw_okq (⟨"WordTreesModel", "abbreviations", "(I)I"⟩, 14) := ⟨⟨by decide +kernel, by decide +kernel⟩, List.mem_of_getElem? (i := 255) (by decide +kernel), List.mem_of_getElem? (i := 374) (by decide +kernel), List.mem_of_getElem? (i := 375) (by decide +kernel)⟩
def lw_privs_1 : List (MethodName × Nat) := [(⟨"WordTrees", "living", "(I)LWordTrees$Entry;"⟩, 5), (⟨"WordTrees", "countWithin", "(I)I"⟩, 5), (⟨"WordTrees", "reckonSums", "()V"⟩, 5), (⟨"WordTrees$Reading", "addSign", "(I)V"⟩, 3), (⟨"WordTrees$Reading", "costAs", "(II)I"⟩, 3), (⟨"WordTrees$Reading", "told", "(II)I"⟩, 3), (⟨"WordTrees", "mayBeFound", "(LWordTrees$Entry;)Z"⟩, 5), (⟨"WordTrees", "lookAt", "(I)I"⟩, 5), (⟨"WordTrees", "countAbbreviations", "(LWordTrees$Entry;)I"⟩, 5), (⟨"WordTreesModel", "forget", "()V"⟩, 14), (⟨"WordTreesModel", "isEntry", "(I)Z"⟩, 14), (⟨"WordTreesModel", "count", "()I"⟩, 14), (⟨"WordTreesModel", "mayBeFound", "(I)Z"⟩, 14), (⟨"WordTreesModel", "sumOf", "(I)I"⟩, 14), (⟨"WordTreesModel", "ownSum", "(I)I"⟩, 14), (⟨"WordTreesModel", "abbreviations", "(I)I"⟩, 14)]
theorem lw_r1 : ∀ q ∈ lw_privs_1, lw_okq q := List.forall_mem_cons.mpr ⟨lw_p0, List.forall_mem_cons.mpr ⟨lw_p1, List.forall_mem_cons.mpr ⟨lw_p2, List.forall_mem_cons.mpr ⟨lw_p3, List.forall_mem_cons.mpr ⟨lw_p4, List.forall_mem_cons.mpr ⟨lw_p5, List.forall_mem_cons.mpr ⟨lw_p6, List.forall_mem_cons.mpr ⟨lw_p7, List.forall_mem_cons.mpr ⟨lw_p8, List.forall_mem_cons.mpr ⟨lw_p9, List.forall_mem_cons.mpr ⟨lw_p10, List.forall_mem_cons.mpr ⟨lw_p11, List.forall_mem_cons.mpr ⟨lw_p12, List.forall_mem_cons.mpr ⟨lw_p13, List.forall_mem_cons.mpr ⟨lw_p14, List.forall_mem_cons.mpr ⟨lw_p15, fun _ h => absurd h List.not_mem_nil⟩⟩⟩⟩⟩⟩⟩⟩⟩⟩⟩⟩⟩⟩⟩⟩
def lw_privs : List (MethodName × Nat) := lw_privs_1
def lw_tbl : List Cond := k2_sels lw_privs ++ tables_1
theorem lw_privs_ok : ∀ q ∈ lw_privs, lw_okq q := lw_r1

/-! ===== names, words by their places, decode rows: laid by a program out of the claim's listing and tables ===== -/
def RX0 : String := "WordTrees$Entry"
def TX0 : u_T := fun k => match k with
  | 0 => ("WordTrees$Entry", "signs", "[I", true)
  | 1 => ("WordTrees$Entry", "length", "I", false)
  | 2 => ("WordTrees$Entry", "groupBits", "I", false)
  | 3 => ("WordTrees$Entry", "isDropped", "Z", false)
  | 4 => ("WordTrees$Entry", "standsFor", "LWordTrees$Entry;", false)
  | _ => ("WordTrees$Entry", "leastSum", "I", false)
def tyX0 : Nat → FieldType := fun k => match k with
  | 0 => .array .int
  | 1 => .int
  | 2 => .int
  | 3 => .boolean
  | 4 => .object "WordTrees$Entry"
  | _ => .int
def RX1 : String := "WordTrees$Hits"
def TX1 : u_T := fun k => match k with
  | 0 => ("WordTrees$Hits", "numbers", "[I", true)
  | 1 => ("WordTrees$Hits", "sums", "[I", true)
  | _ => ("WordTrees$Hits", "count", "I", false)
def tyX1 : Nat → FieldType := fun k => match k with
  | 0 => .array .int
  | 1 => .array .int
  | _ => .int
def RX2 : String := "WordTrees$Reading"
def TX2 : u_T := fun k => match k with
  | 0 => ("WordTrees$Reading", "costs", "[I", true)
  | 1 => ("WordTrees$Reading", "leastCosts", "[I", true)
  | _ => ("WordTrees$Reading", "places", "I", false)
def tyX2 : Nat → FieldType := fun k => match k with
  | 0 => .array .int
  | 1 => .array .int
  | _ => .int
def RX3 : String := "WordTrees"
def TX3 : u_T := fun k => match k with
  | 0 => ("WordTrees", "entries", "[LWordTrees$Entry;", true)
  | 1 => ("WordTrees", "entryCount", "I", false)
  | 2 => ("WordTrees", "reading", "LWordTrees$Reading;", true)
  | 3 => ("WordTrees", "hits", "LWordTrees$Hits;", true)
  | _ => ("WordTrees", "groupLookedAt", "I", false)
def tyX3 : Nat → FieldType := fun k => match k with
  | 0 => .array (.object "WordTrees$Entry")
  | 1 => .int
  | 2 => .object "WordTrees$Reading"
  | 3 => .object "WordTrees$Hits"
  | _ => .int
def RX4 : String := "WordTreesModel"
def TX4 : u_T := fun k => match k with
  | 0 => ("WordTreesModel", "entries", "I", false)
  | 1 => ("WordTreesModel", "there", "[Z", true)
  | 2 => ("WordTreesModel", "sizes", "[I", true)
  | 3 => ("WordTreesModel", "signs", "[I", true)
  | 4 => ("WordTreesModel", "meant", "[I", true)
  | 5 => ("WordTreesModel", "groups", "[I", true)
  | 6 => ("WordTreesModel", "looked", "I", false)
  | 7 => ("WordTreesModel", "places", "I", false)
  | 8 => ("WordTreesModel", "costs", "[I", true)
  | 9 => ("WordTreesModel", "table", "[I", true)
  | 10 => ("WordTreesModel", "found", "I", false)
  | 11 => ("WordTreesModel", "words", "[I", true)
  | 12 => ("WordTreesModel", "sums", "[I", true)
  | _ => ("WordTreesModel", "reckoned", "[I", true)
def tyX4 : Nat → FieldType := fun k => match k with
  | 0 => .int
  | 1 => .array .boolean
  | 2 => .array .int
  | 3 => .array .int
  | 4 => .array .int
  | 5 => .array .int
  | 6 => .int
  | 7 => .int
  | 8 => .array .int
  | 9 => .array .int
  | 10 => .int
  | 11 => .array .int
  | 12 => .array .int
  | _ => .array .int
def RJ7 : String := "java/util/Arrays"
def RL : String := "WordTreesLaw"
abbrev vwCl : List vw_C := [(RX0, TX0, 6), (RX1, TX1, 3), (RX2, TX2, 3), (RX3, TX3, 5), (RX4, TX4, 14)]
abbrev cX3_init : ByteArray := prog_1_method_1_code
def yX3_init : MethodName := ⟨RX3, "<init>", "()V"⟩
abbrev cX2_init : ByteArray := prog_4_method_1_code
def yX2_init : MethodName := ⟨RX2, "<init>", "()V"⟩
abbrev cJ7_fill : ByteArray := prog_8_method_103_code
def yJ7_fill : MethodName := ⟨RJ7, "fill", "([II)V"⟩
abbrev cX1_init : ByteArray := prog_3_method_1_code
def yX1_init : MethodName := ⟨RX1, "<init>", "()V"⟩
abbrev cX3_entry : ByteArray := prog_1_method_2_code
def yX3_entry : MethodName := ⟨RX3, "entry", "()I"⟩
abbrev cX0_init : ByteArray := prog_2_method_1_code
def yX0_init : MethodName := ⟨RX0, "<init>", "()V"⟩
abbrev cX3_letter : ByteArray := prog_1_method_3_code
def yX3_letter : MethodName := ⟨RX3, "letter", "(II)I"⟩
abbrev cX3_living : ByteArray := prog_1_method_16_code
def yX3_living : MethodName := ⟨RX3, "living", "(I)LWordTrees$Entry;"⟩
abbrev cX3_isSign : ByteArray := prog_1_method_13_code
def yX3_isSign : MethodName := ⟨RX3, "isSign", "(I)Z"⟩
abbrev cX0_append : ByteArray := prog_2_method_2_code
def yX0_append : MethodName := ⟨RX0, "append", "(I)Z"⟩
abbrev cX3_drop : ByteArray := prog_1_method_4_code
def yX3_drop : MethodName := ⟨RX3, "drop", "(I)I"⟩
abbrev cX3_countWithin : ByteArray := prog_1_method_19_code
def yX3_countWithin : MethodName := ⟨RX3, "countWithin", "(I)I"⟩
abbrev cX0_isWithin : ByteArray := prog_2_method_4_code
def yX0_isWithin : MethodName := ⟨RX0, "isWithin", "(I)Z"⟩
abbrev cX3_cost : ByteArray := prog_1_method_5_code
def yX3_cost : MethodName := ⟨RX3, "cost", "(III)I"⟩
abbrev cX2_tell : ByteArray := prog_4_method_2_code
def yX2_tell : MethodName := ⟨RX2, "tell", "(III)V"⟩
abbrev cX2_indexOf : ByteArray := prog_4_method_9_code
def yX2_indexOf : MethodName := ⟨RX2, "indexOf", "(II)I"⟩
abbrev cX3_clear : ByteArray := prog_1_method_6_code
def yX3_clear : MethodName := ⟨RX3, "clear", "()I"⟩
abbrev cX2_forget : ByteArray := prog_4_method_3_code
def yX2_forget : MethodName := ⟨RX2, "forget", "()V"⟩
abbrev cX3_find : ByteArray := prog_1_method_7_code
def yX3_find : MethodName := ⟨RX3, "find", "(I)I"⟩
abbrev cX3_mayBeAsked : ByteArray := prog_1_method_15_code
def yX3_mayBeAsked : MethodName := ⟨RX3, "mayBeAsked", "(I)Z"⟩
abbrev cX3_reckonSums : ByteArray := prog_1_method_21_code
def yX3_reckonSums : MethodName := ⟨RX3, "reckonSums", "()V"⟩
abbrev cX2_leastCostOf : ByteArray := prog_4_method_5_code
def yX2_leastCostOf : MethodName := ⟨RX2, "leastCostOf", "(LWordTrees$Entry;)I"⟩
abbrev cX2_addSign : ByteArray := prog_4_method_6_code
def yX2_addSign : MethodName := ⟨RX2, "addSign", "(I)V"⟩
abbrev cX2_costAs : ByteArray := prog_4_method_7_code
def yX2_costAs : MethodName := ⟨RX2, "costAs", "(II)I"⟩
abbrev cX2_told : ByteArray := prog_4_method_8_code
def yX2_told : MethodName := ⟨RX2, "told", "(II)I"⟩
abbrev cX1_forget : ByteArray := prog_3_method_2_code
def yX1_forget : MethodName := ⟨RX1, "forget", "()V"⟩
abbrev cX3_mayBeFound : ByteArray := prog_1_method_17_code
def yX3_mayBeFound : MethodName := ⟨RX3, "mayBeFound", "(LWordTrees$Entry;)Z"⟩
abbrev cX1_addBySum : ByteArray := prog_3_method_5_code
def yX1_addBySum : MethodName := ⟨RX1, "addBySum", "(II)V"⟩
abbrev cX1_keepFirst : ByteArray := prog_3_method_6_code
def yX1_keepFirst : MethodName := ⟨RX1, "keepFirst", "(I)V"⟩
abbrev cX3_word : ByteArray := prog_1_method_8_code
def yX3_word : MethodName := ⟨RX3, "word", "(I)I"⟩
abbrev cX1_has : ByteArray := prog_3_method_3_code
def yX1_has : MethodName := ⟨RX1, "has", "(I)Z"⟩
abbrev cX3_sum : ByteArray := prog_1_method_9_code
def yX3_sum : MethodName := ⟨RX3, "sum", "(I)J"⟩
abbrev cX3_within : ByteArray := prog_1_method_10_code
def yX3_within : MethodName := ⟨RX3, "within", "(II)I"⟩
abbrev cX3_lookAt : ByteArray := prog_1_method_18_code
def yX3_lookAt : MethodName := ⟨RX3, "lookAt", "(I)I"⟩
abbrev cX3_isGroup : ByteArray := prog_1_method_14_code
def yX3_isGroup : MethodName := ⟨RX3, "isGroup", "(I)Z"⟩
abbrev cX0_join : ByteArray := prog_2_method_3_code
def yX0_join : MethodName := ⟨RX0, "join", "(I)V"⟩
abbrev cX3_abbreviation : ByteArray := prog_1_method_11_code
def yX3_abbreviation : MethodName := ⟨RX3, "abbreviation", "(II)I"⟩
abbrev cX3_countAbbreviations : ByteArray := prog_1_method_20_code
def yX3_countAbbreviations : MethodName := ⟨RX3, "countAbbreviations", "(LWordTrees$Entry;)I"⟩
abbrev cX3_plain : ByteArray := prog_1_method_12_code
def yX3_plain : MethodName := ⟨RX3, "plain", "(I)I"⟩
abbrev cX2_spells : ByteArray := prog_4_method_4_code
def yX2_spells : MethodName := ⟨RX2, "spells", "(LWordTrees$Entry;)Z"⟩
abbrev cX1_addLast : ByteArray := prog_3_method_4_code
def yX1_addLast : MethodName := ⟨RX1, "addLast", "(II)V"⟩
abbrev cX4_init : ByteArray := prog_6_method_1_code
def yX4_init : MethodName := ⟨RX4, "<init>", "()V"⟩
abbrev cX4_forget : ByteArray := prog_6_method_2_code
def yX4_forget : MethodName := ⟨RX4, "forget", "()V"⟩
abbrev cX4_entry : ByteArray := prog_6_method_5_code
def yX4_entry : MethodName := ⟨RX4, "entry", "()I"⟩
abbrev cX4_letter : ByteArray := prog_6_method_6_code
def yX4_letter : MethodName := ⟨RX4, "letter", "(II)I"⟩
abbrev cX4_isEntry : ByteArray := prog_6_method_4_code
def yX4_isEntry : MethodName := ⟨RX4, "isEntry", "(I)Z"⟩
abbrev cX4_between : ByteArray := prog_6_method_3_code
def yX4_between : MethodName := ⟨RX4, "between", "(III)Z"⟩
abbrev cX4_drop : ByteArray := prog_6_method_8_code
def yX4_drop : MethodName := ⟨RX4, "drop", "(I)I"⟩
abbrev cX4_count : ByteArray := prog_6_method_7_code
def yX4_count : MethodName := ⟨RX4, "count", "()I"⟩
abbrev cX4_cost : ByteArray := prog_6_method_9_code
def yX4_cost : MethodName := ⟨RX4, "cost", "(III)I"⟩
abbrev cX4_clear : ByteArray := prog_6_method_10_code
def yX4_clear : MethodName := ⟨RX4, "clear", "()I"⟩
abbrev cX4_find : ByteArray := prog_6_method_14_code
def yX4_find : MethodName := ⟨RX4, "find", "(I)I"⟩
abbrev cX4_mayBeFound : ByteArray := prog_6_method_13_code
def yX4_mayBeFound : MethodName := ⟨RX4, "mayBeFound", "(I)Z"⟩
abbrev cX4_sumOf : ByteArray := prog_6_method_12_code
def yX4_sumOf : MethodName := ⟨RX4, "sumOf", "(I)I"⟩
abbrev cX4_ownSum : ByteArray := prog_6_method_11_code
def yX4_ownSum : MethodName := ⟨RX4, "ownSum", "(I)I"⟩
abbrev cX4_word : ByteArray := prog_6_method_15_code
def yX4_word : MethodName := ⟨RX4, "word", "(I)I"⟩
abbrev cX4_sum : ByteArray := prog_6_method_16_code
def yX4_sum : MethodName := ⟨RX4, "sum", "(I)J"⟩
abbrev cX4_within : ByteArray := prog_6_method_17_code
def yX4_within : MethodName := ⟨RX4, "within", "(II)I"⟩
abbrev cX4_abbreviation : ByteArray := prog_6_method_19_code
def yX4_abbreviation : MethodName := ⟨RX4, "abbreviation", "(II)I"⟩
abbrev cX4_abbreviations : ByteArray := prog_6_method_18_code
def yX4_abbreviations : MethodName := ⟨RX4, "abbreviations", "(I)I"⟩
abbrev cX4_plain : ByteArray := prog_6_method_20_code
def yX4_plain : MethodName := ⟨RX4, "plain", "(I)I"⟩
def TBL : List Cond := lw_tbl.filter goodWord
def wsO (y : MethodName) (cc : ByteArray) (n : Nat) (r : Option FieldType) : List Cond := .code y cc n r :: TBL
theorem tb_of {w : Cond} (i : Nat) (h : lw_tbl[i]? = some w) (hg : goodWord w = true) : w ∈ TBL := List.mem_filter.mpr ⟨List.mem_of_getElem? h, hg⟩
theorem tb_O {w : Cond} {y : MethodName} {cc : ByteArray} {n : Nat} {r : Option FieldType} (h : w ∈ TBL) : w ∈ wsO y cc n r := List.mem_cons_of_mem _ h
theorem tb_L {w : Cond} (h : w ∈ TBL) : w ∈ lw_tbl := (List.mem_filter.mp h).1
theorem tb_g {w : Cond} (h : w ∈ TBL) : (w.onTables && w.keeps) = true ∨ ∃ ty, w = .arrayClass ty := good_of_word (List.mem_filter.mp h).2
theorem go_O {Ts : List Cond} (hT : ∀ w ∈ TBL, w ∈ Ts) {y : MethodName} {cc : ByteArray} {n : Nat} {r : Option FieldType} (h : Cond.code y cc n r ∈ TBL) : GoodIn Ts (wsO y cc n r) := fun w hw => by
  rcases List.mem_cons.mp hw with rfl | hw
  · exact ⟨hT _ h, tb_g h⟩
  · exact ⟨hT _ hw, tb_g hw⟩
theorem go_V {Ts : List Cond} (hT : ∀ w ∈ TBL, w ∈ Ts) {own C : String} {idx : Nat} {y : MethodName} {cc : ByteArray} {n : Nat} {r : Option FieldType} (h1 : Cond.methodLink own idx y ∈ TBL) (h2 : Cond.instanceMethod y ∈ TBL) (h3 : Cond.selects C y y ∈ TBL) (h4 : Cond.initialized C ∈ TBL) (h : Cond.code y cc n r ∈ TBL) : GoodIn Ts (wsV own idx C y (wsO y cc n r)) := fun w hw => by
  rcases List.mem_append.mp hw with hw | hw
  · rcases List.mem_cons.mp hw with rfl | hw
    · exact ⟨hT _ h1, tb_g h1⟩
    rcases List.mem_cons.mp hw with rfl | hw
    · exact ⟨hT _ h2, tb_g h2⟩
    rcases List.mem_cons.mp hw with rfl | hw
    · exact ⟨hT _ h3, tb_g h3⟩
    rcases List.mem_cons.mp hw with rfl | hw
    · exact ⟨hT _ h4, tb_g h4⟩
    exact absurd hw List.not_mem_nil
  · exact go_O hT h w hw
theorem go_S {Ts : List Cond} (hT : ∀ w ∈ TBL, w ∈ Ts) {own : String} {idx : Nat} {y : MethodName} {cc : ByteArray} {n : Nat} {r : Option FieldType} (h1 : Cond.methodLink own idx y ∈ TBL) (h2 : Cond.static y ∈ TBL) (h4 : Cond.initialized y.cls ∈ TBL) (h : Cond.code y cc n r ∈ TBL) : GoodIn Ts (va_wsS own idx y (wsO y cc n r)) := fun w hw => by
  rcases List.mem_append.mp hw with hw | hw
  · rcases List.mem_cons.mp hw with rfl | hw
    · exact ⟨hT _ h1, tb_g h1⟩
    rcases List.mem_cons.mp hw with rfl | hw
    · exact ⟨hT _ h2, tb_g h2⟩
    rcases List.mem_cons.mp hw with rfl | hw
    · exact ⟨hT _ h4, tb_g h4⟩
    exact absurd hw List.not_mem_nil
  · exact go_O hT h w hw
theorem nmX0 : ∀ a, a < 6 → ∀ b, b < 6 → a ≠ b → (TX0 a).2.1 ≠ (TX0 b).2.1 := by decide +kernel
theorem okX0 : ∀ k, k < 6 → parseFieldDescriptor (TX0 k).2.2.1 = some (tyX0 k) := by decide +kernel
theorem inX0 : ∀ w ∈ u_ws RX0 TX0 6, w ∈ TBL := fun w h => List.mem_filter.mpr ((show ∀ w ∈ u_ws RX0 TX0 6, w ∈ lw_tbl ∧ goodWord w = true by decide +kernel) w h)
theorem iniX0 : Cond.initialized RX0 ∈ TBL := tb_of 22 (by decide +kernel) (by decide +kernel)
theorem instX0 : Cond.instantiable RX0 6 ∈ TBL := tb_of 94 (by decide +kernel) (by decide +kernel)
theorem nmX1 : ∀ a, a < 3 → ∀ b, b < 3 → a ≠ b → (TX1 a).2.1 ≠ (TX1 b).2.1 := by decide +kernel
theorem okX1 : ∀ k, k < 3 → parseFieldDescriptor (TX1 k).2.2.1 = some (tyX1 k) := by decide +kernel
theorem inX1 : ∀ w ∈ u_ws RX1 TX1 3, w ∈ TBL := fun w h => List.mem_filter.mpr ((show ∀ w ∈ u_ws RX1 TX1 3, w ∈ lw_tbl ∧ goodWord w = true by decide +kernel) w h)
theorem iniX1 : Cond.initialized RX1 ∈ TBL := tb_of 20 (by decide +kernel) (by decide +kernel)
theorem instX1 : Cond.instantiable RX1 3 ∈ TBL := tb_of 56 (by decide +kernel) (by decide +kernel)
theorem nmX2 : ∀ a, a < 3 → ∀ b, b < 3 → a ≠ b → (TX2 a).2.1 ≠ (TX2 b).2.1 := by decide +kernel
theorem okX2 : ∀ k, k < 3 → parseFieldDescriptor (TX2 k).2.2.1 = some (tyX2 k) := by decide +kernel
theorem inX2 : ∀ w ∈ u_ws RX2 TX2 3, w ∈ TBL := fun w h => List.mem_filter.mpr ((show ∀ w ∈ u_ws RX2 TX2 3, w ∈ lw_tbl ∧ goodWord w = true by decide +kernel) w h)
theorem iniX2 : Cond.initialized RX2 ∈ TBL := tb_of 18 (by decide +kernel) (by decide +kernel)
theorem instX2 : Cond.instantiable RX2 3 ∈ TBL := tb_of 35 (by decide +kernel) (by decide +kernel)
theorem nmX3 : ∀ a, a < 5 → ∀ b, b < 5 → a ≠ b → (TX3 a).2.1 ≠ (TX3 b).2.1 := by decide +kernel
theorem okX3 : ∀ k, k < 5 → parseFieldDescriptor (TX3 k).2.2.1 = some (tyX3 k) := by decide +kernel
theorem inX3 : ∀ w ∈ u_ws RX3 TX3 5, w ∈ TBL := fun w h => List.mem_filter.mpr ((show ∀ w ∈ u_ws RX3 TX3 5, w ∈ lw_tbl ∧ goodWord w = true by decide +kernel) w h)
theorem iniX3 : Cond.initialized RX3 ∈ TBL := tb_of 17 (by decide +kernel) (by decide +kernel)
theorem instX3 : Cond.instantiable RX3 5 ∈ TBL := tb_of 25 (by decide +kernel) (by decide +kernel)
theorem nmX4 : ∀ a, a < 14 → ∀ b, b < 14 → a ≠ b → (TX4 a).2.1 ≠ (TX4 b).2.1 := by decide +kernel
theorem okX4 : ∀ k, k < 14 → parseFieldDescriptor (TX4 k).2.2.1 = some (tyX4 k) := by decide +kernel
theorem inX4 : ∀ w ∈ u_ws RX4 TX4 14, w ∈ TBL := fun w h => List.mem_filter.mpr ((show ∀ w ∈ u_ws RX4 TX4 14, w ∈ lw_tbl ∧ goodWord w = true by decide +kernel) w h)
theorem iniX4 : Cond.initialized RX4 ∈ TBL := tb_of 21 (by decide +kernel) (by decide +kernel)
theorem instX4 : Cond.instantiable RX4 14 ∈ TBL := tb_of 271 (by decide +kernel) (by decide +kernel)
theorem iniJ7 : Cond.initialized RJ7 ∈ TBL := tb_of 19 (by decide +kernel) (by decide +kernel)
theorem iniMath : Cond.initialized "java/lang/Math" ∈ TBL := tb_of 23 (by decide +kernel) (by decide +kernel)
theorem arrI : Cond.arrayClass .int ∈ TBL := tb_of 54 (by decide +kernel) (by decide +kernel)
theorem arrZ : Cond.arrayClass .boolean ∈ TBL := tb_of 323 (by decide +kernel) (by decide +kernel)
theorem objI : Cond.instanceMethod objectInit ∈ TBL := tb_of 30 (by decide +kernel) (by decide +kernel)
theorem objC : Cond.code objectInit ⟨#[0xb1]⟩ 1 none ∈ TBL := tb_of 31 (by decide +kernel) (by decide +kernel)
theorem st_max : Cond.static Lib.Math.max.name ∈ TBL := tb_of 164 (by decide +kernel) (by decide +kernel)
theorem cd_max : Cond.code Lib.Math.max.name Lib.Math.max.code 2 (some .int) ∈ TBL := tb_of 165 (by decide +kernel) (by decide +kernel)
theorem st_min : Cond.static Lib.Math.min.name ∈ TBL := tb_of 202 (by decide +kernel) (by decide +kernel)
theorem cd_min : Cond.code Lib.Math.min.name Lib.Math.min.code 2 (some .int) ∈ TBL := tb_of 203 (by decide +kernel) (by decide +kernel)
theorem cdX3_init : Cond.code yX3_init cX3_init 1 none ∈ TBL := tb_of 28 (by decide +kernel) (by decide +kernel)
theorem imX3_init : Cond.instanceMethod yX3_init ∈ TBL := tb_of 27 (by decide +kernel) (by decide +kernel)
theorem cdX2_init : Cond.code yX2_init cX2_init 1 none ∈ TBL := tb_of 38 (by decide +kernel) (by decide +kernel)
theorem imX2_init : Cond.instanceMethod yX2_init ∈ TBL := tb_of 37 (by decide +kernel) (by decide +kernel)
theorem cdJ7_fill : Cond.code yJ7_fill cJ7_fill 4 none ∈ TBL := tb_of 42 (by decide +kernel) (by decide +kernel)
theorem stJ7_fill : Cond.static yJ7_fill ∈ TBL := tb_of 41 (by decide +kernel) (by decide +kernel)
theorem cdX1_init : Cond.code yX1_init cX1_init 1 none ∈ TBL := tb_of 59 (by decide +kernel) (by decide +kernel)
theorem imX1_init : Cond.instanceMethod yX1_init ∈ TBL := tb_of 58 (by decide +kernel) (by decide +kernel)
theorem cdX3_entry : Cond.code yX3_entry cX3_entry 1 (some .int) ∈ TBL := tb_of 93 (by decide +kernel) (by decide +kernel)
theorem imX3_entry : Cond.instanceMethod yX3_entry ∈ TBL := tb_of 91 (by decide +kernel) (by decide +kernel)
theorem seX3_entry : Cond.selects RX3 yX3_entry yX3_entry ∈ TBL := tb_of 92 (by decide +kernel) (by decide +kernel)
theorem cdX0_init : Cond.code yX0_init cX0_init 1 none ∈ TBL := tb_of 97 (by decide +kernel) (by decide +kernel)
theorem imX0_init : Cond.instanceMethod yX0_init ∈ TBL := tb_of 96 (by decide +kernel) (by decide +kernel)
theorem cdX3_letter : Cond.code yX3_letter cX3_letter 4 (some .int) ∈ TBL := tb_of 127 (by decide +kernel) (by decide +kernel)
theorem imX3_letter : Cond.instanceMethod yX3_letter ∈ TBL := tb_of 125 (by decide +kernel) (by decide +kernel)
theorem seX3_letter : Cond.selects RX3 yX3_letter yX3_letter ∈ TBL := tb_of 126 (by decide +kernel) (by decide +kernel)
theorem cdX3_living : Cond.code yX3_living cX3_living 3 (some (.object "WordTrees$Entry")) ∈ TBL := tb_of 131 (by decide +kernel) (by decide +kernel)
theorem imX3_living : Cond.instanceMethod yX3_living ∈ TBL := tb_of 130 (by decide +kernel) (by decide +kernel)
theorem seX3_living : Cond.selects RX3 yX3_living yX3_living ∈ TBL := tb_of 0 (by decide +kernel) (by decide +kernel)
theorem cdX3_isSign : Cond.code yX3_isSign cX3_isSign 1 (some .boolean) ∈ TBL := tb_of 134 (by decide +kernel) (by decide +kernel)
theorem stX3_isSign : Cond.static yX3_isSign ∈ TBL := tb_of 133 (by decide +kernel) (by decide +kernel)
theorem cdX0_append : Cond.code yX0_append cX0_append 2 (some .boolean) ∈ TBL := tb_of 138 (by decide +kernel) (by decide +kernel)
theorem imX0_append : Cond.instanceMethod yX0_append ∈ TBL := tb_of 136 (by decide +kernel) (by decide +kernel)
theorem seX0_append : Cond.selects RX0 yX0_append yX0_append ∈ TBL := tb_of 137 (by decide +kernel) (by decide +kernel)
theorem cdX3_drop : Cond.code yX3_drop cX3_drop 5 (some .int) ∈ TBL := tb_of 142 (by decide +kernel) (by decide +kernel)
theorem imX3_drop : Cond.instanceMethod yX3_drop ∈ TBL := tb_of 140 (by decide +kernel) (by decide +kernel)
theorem seX3_drop : Cond.selects RX3 yX3_drop yX3_drop ∈ TBL := tb_of 141 (by decide +kernel) (by decide +kernel)
theorem cdX3_countWithin : Cond.code yX3_countWithin cX3_countWithin 5 (some .int) ∈ TBL := tb_of 146 (by decide +kernel) (by decide +kernel)
theorem imX3_countWithin : Cond.instanceMethod yX3_countWithin ∈ TBL := tb_of 145 (by decide +kernel) (by decide +kernel)
theorem seX3_countWithin : Cond.selects RX3 yX3_countWithin yX3_countWithin ∈ TBL := tb_of 1 (by decide +kernel) (by decide +kernel)
theorem cdX0_isWithin : Cond.code yX0_isWithin cX0_isWithin 2 (some .boolean) ∈ TBL := tb_of 150 (by decide +kernel) (by decide +kernel)
theorem imX0_isWithin : Cond.instanceMethod yX0_isWithin ∈ TBL := tb_of 148 (by decide +kernel) (by decide +kernel)
theorem seX0_isWithin : Cond.selects RX0 yX0_isWithin yX0_isWithin ∈ TBL := tb_of 149 (by decide +kernel) (by decide +kernel)
theorem cdX3_cost : Cond.code yX3_cost cX3_cost 4 (some .int) ∈ TBL := tb_of 154 (by decide +kernel) (by decide +kernel)
theorem imX3_cost : Cond.instanceMethod yX3_cost ∈ TBL := tb_of 152 (by decide +kernel) (by decide +kernel)
theorem seX3_cost : Cond.selects RX3 yX3_cost yX3_cost ∈ TBL := tb_of 153 (by decide +kernel) (by decide +kernel)
theorem cdX2_tell : Cond.code yX2_tell cX2_tell 5 none ∈ TBL := tb_of 158 (by decide +kernel) (by decide +kernel)
theorem imX2_tell : Cond.instanceMethod yX2_tell ∈ TBL := tb_of 156 (by decide +kernel) (by decide +kernel)
theorem seX2_tell : Cond.selects RX2 yX2_tell yX2_tell ∈ TBL := tb_of 157 (by decide +kernel) (by decide +kernel)
theorem cdX2_indexOf : Cond.code yX2_indexOf cX2_indexOf 2 (some .int) ∈ TBL := tb_of 161 (by decide +kernel) (by decide +kernel)
theorem stX2_indexOf : Cond.static yX2_indexOf ∈ TBL := tb_of 160 (by decide +kernel) (by decide +kernel)
theorem cdX3_clear : Cond.code yX3_clear cX3_clear 2 (some .int) ∈ TBL := tb_of 169 (by decide +kernel) (by decide +kernel)
theorem imX3_clear : Cond.instanceMethod yX3_clear ∈ TBL := tb_of 167 (by decide +kernel) (by decide +kernel)
theorem seX3_clear : Cond.selects RX3 yX3_clear yX3_clear ∈ TBL := tb_of 168 (by decide +kernel) (by decide +kernel)
theorem cdX2_forget : Cond.code yX2_forget cX2_forget 1 none ∈ TBL := tb_of 173 (by decide +kernel) (by decide +kernel)
theorem imX2_forget : Cond.instanceMethod yX2_forget ∈ TBL := tb_of 171 (by decide +kernel) (by decide +kernel)
theorem seX2_forget : Cond.selects RX2 yX2_forget yX2_forget ∈ TBL := tb_of 172 (by decide +kernel) (by decide +kernel)
theorem cdX3_find : Cond.code yX3_find cX3_find 4 (some .int) ∈ TBL := tb_of 177 (by decide +kernel) (by decide +kernel)
theorem imX3_find : Cond.instanceMethod yX3_find ∈ TBL := tb_of 175 (by decide +kernel) (by decide +kernel)
theorem seX3_find : Cond.selects RX3 yX3_find yX3_find ∈ TBL := tb_of 176 (by decide +kernel) (by decide +kernel)
theorem cdX3_mayBeAsked : Cond.code yX3_mayBeAsked cX3_mayBeAsked 1 (some .boolean) ∈ TBL := tb_of 180 (by decide +kernel) (by decide +kernel)
theorem stX3_mayBeAsked : Cond.static yX3_mayBeAsked ∈ TBL := tb_of 179 (by decide +kernel) (by decide +kernel)
theorem cdX3_reckonSums : Cond.code yX3_reckonSums cX3_reckonSums 3 none ∈ TBL := tb_of 184 (by decide +kernel) (by decide +kernel)
theorem imX3_reckonSums : Cond.instanceMethod yX3_reckonSums ∈ TBL := tb_of 183 (by decide +kernel) (by decide +kernel)
theorem seX3_reckonSums : Cond.selects RX3 yX3_reckonSums yX3_reckonSums ∈ TBL := tb_of 2 (by decide +kernel) (by decide +kernel)
theorem cdX2_leastCostOf : Cond.code yX2_leastCostOf cX2_leastCostOf 3 (some .int) ∈ TBL := tb_of 188 (by decide +kernel) (by decide +kernel)
theorem imX2_leastCostOf : Cond.instanceMethod yX2_leastCostOf ∈ TBL := tb_of 186 (by decide +kernel) (by decide +kernel)
theorem seX2_leastCostOf : Cond.selects RX2 yX2_leastCostOf yX2_leastCostOf ∈ TBL := tb_of 187 (by decide +kernel) (by decide +kernel)
theorem cdX2_addSign : Cond.code yX2_addSign cX2_addSign 7 none ∈ TBL := tb_of 192 (by decide +kernel) (by decide +kernel)
theorem imX2_addSign : Cond.instanceMethod yX2_addSign ∈ TBL := tb_of 191 (by decide +kernel) (by decide +kernel)
theorem seX2_addSign : Cond.selects RX2 yX2_addSign yX2_addSign ∈ TBL := tb_of 3 (by decide +kernel) (by decide +kernel)
theorem cdX2_costAs : Cond.code yX2_costAs cX2_costAs 4 (some .int) ∈ TBL := tb_of 196 (by decide +kernel) (by decide +kernel)
theorem imX2_costAs : Cond.instanceMethod yX2_costAs ∈ TBL := tb_of 195 (by decide +kernel) (by decide +kernel)
theorem seX2_costAs : Cond.selects RX2 yX2_costAs yX2_costAs ∈ TBL := tb_of 4 (by decide +kernel) (by decide +kernel)
theorem cdX2_told : Cond.code yX2_told cX2_told 4 (some .int) ∈ TBL := tb_of 200 (by decide +kernel) (by decide +kernel)
theorem imX2_told : Cond.instanceMethod yX2_told ∈ TBL := tb_of 199 (by decide +kernel) (by decide +kernel)
theorem seX2_told : Cond.selects RX2 yX2_told yX2_told ∈ TBL := tb_of 5 (by decide +kernel) (by decide +kernel)
theorem cdX1_forget : Cond.code yX1_forget cX1_forget 1 none ∈ TBL := tb_of 208 (by decide +kernel) (by decide +kernel)
theorem imX1_forget : Cond.instanceMethod yX1_forget ∈ TBL := tb_of 206 (by decide +kernel) (by decide +kernel)
theorem seX1_forget : Cond.selects RX1 yX1_forget yX1_forget ∈ TBL := tb_of 207 (by decide +kernel) (by decide +kernel)
theorem cdX3_mayBeFound : Cond.code yX3_mayBeFound cX3_mayBeFound 2 (some .boolean) ∈ TBL := tb_of 212 (by decide +kernel) (by decide +kernel)
theorem imX3_mayBeFound : Cond.instanceMethod yX3_mayBeFound ∈ TBL := tb_of 211 (by decide +kernel) (by decide +kernel)
theorem seX3_mayBeFound : Cond.selects RX3 yX3_mayBeFound yX3_mayBeFound ∈ TBL := tb_of 6 (by decide +kernel) (by decide +kernel)
theorem cdX1_addBySum : Cond.code yX1_addBySum cX1_addBySum 4 none ∈ TBL := tb_of 216 (by decide +kernel) (by decide +kernel)
theorem imX1_addBySum : Cond.instanceMethod yX1_addBySum ∈ TBL := tb_of 214 (by decide +kernel) (by decide +kernel)
theorem seX1_addBySum : Cond.selects RX1 yX1_addBySum yX1_addBySum ∈ TBL := tb_of 215 (by decide +kernel) (by decide +kernel)
theorem cdX1_keepFirst : Cond.code yX1_keepFirst cX1_keepFirst 2 none ∈ TBL := tb_of 220 (by decide +kernel) (by decide +kernel)
theorem imX1_keepFirst : Cond.instanceMethod yX1_keepFirst ∈ TBL := tb_of 218 (by decide +kernel) (by decide +kernel)
theorem seX1_keepFirst : Cond.selects RX1 yX1_keepFirst yX1_keepFirst ∈ TBL := tb_of 219 (by decide +kernel) (by decide +kernel)
theorem cdX3_word : Cond.code yX3_word cX3_word 2 (some .int) ∈ TBL := tb_of 225 (by decide +kernel) (by decide +kernel)
theorem imX3_word : Cond.instanceMethod yX3_word ∈ TBL := tb_of 223 (by decide +kernel) (by decide +kernel)
theorem seX3_word : Cond.selects RX3 yX3_word yX3_word ∈ TBL := tb_of 224 (by decide +kernel) (by decide +kernel)
theorem cdX1_has : Cond.code yX1_has cX1_has 2 (some .boolean) ∈ TBL := tb_of 229 (by decide +kernel) (by decide +kernel)
theorem imX1_has : Cond.instanceMethod yX1_has ∈ TBL := tb_of 227 (by decide +kernel) (by decide +kernel)
theorem seX1_has : Cond.selects RX1 yX1_has yX1_has ∈ TBL := tb_of 228 (by decide +kernel) (by decide +kernel)
theorem cdX3_sum : Cond.code yX3_sum cX3_sum 2 (some .long) ∈ TBL := tb_of 233 (by decide +kernel) (by decide +kernel)
theorem imX3_sum : Cond.instanceMethod yX3_sum ∈ TBL := tb_of 231 (by decide +kernel) (by decide +kernel)
theorem seX3_sum : Cond.selects RX3 yX3_sum yX3_sum ∈ TBL := tb_of 232 (by decide +kernel) (by decide +kernel)
theorem cdX3_within : Cond.code yX3_within cX3_within 4 (some .int) ∈ TBL := tb_of 238 (by decide +kernel) (by decide +kernel)
theorem imX3_within : Cond.instanceMethod yX3_within ∈ TBL := tb_of 236 (by decide +kernel) (by decide +kernel)
theorem seX3_within : Cond.selects RX3 yX3_within yX3_within ∈ TBL := tb_of 237 (by decide +kernel) (by decide +kernel)
theorem cdX3_lookAt : Cond.code yX3_lookAt cX3_lookAt 2 (some .int) ∈ TBL := tb_of 242 (by decide +kernel) (by decide +kernel)
theorem imX3_lookAt : Cond.instanceMethod yX3_lookAt ∈ TBL := tb_of 241 (by decide +kernel) (by decide +kernel)
theorem seX3_lookAt : Cond.selects RX3 yX3_lookAt yX3_lookAt ∈ TBL := tb_of 7 (by decide +kernel) (by decide +kernel)
theorem cdX3_isGroup : Cond.code yX3_isGroup cX3_isGroup 1 (some .boolean) ∈ TBL := tb_of 245 (by decide +kernel) (by decide +kernel)
theorem stX3_isGroup : Cond.static yX3_isGroup ∈ TBL := tb_of 244 (by decide +kernel) (by decide +kernel)
theorem cdX0_join : Cond.code yX0_join cX0_join 2 none ∈ TBL := tb_of 249 (by decide +kernel) (by decide +kernel)
theorem imX0_join : Cond.instanceMethod yX0_join ∈ TBL := tb_of 247 (by decide +kernel) (by decide +kernel)
theorem seX0_join : Cond.selects RX0 yX0_join yX0_join ∈ TBL := tb_of 248 (by decide +kernel) (by decide +kernel)
theorem cdX3_abbreviation : Cond.code yX3_abbreviation cX3_abbreviation 5 (some .int) ∈ TBL := tb_of 253 (by decide +kernel) (by decide +kernel)
theorem imX3_abbreviation : Cond.instanceMethod yX3_abbreviation ∈ TBL := tb_of 251 (by decide +kernel) (by decide +kernel)
theorem seX3_abbreviation : Cond.selects RX3 yX3_abbreviation yX3_abbreviation ∈ TBL := tb_of 252 (by decide +kernel) (by decide +kernel)
theorem cdX3_countAbbreviations : Cond.code yX3_countAbbreviations cX3_countAbbreviations 5 (some .int) ∈ TBL := tb_of 257 (by decide +kernel) (by decide +kernel)
theorem imX3_countAbbreviations : Cond.instanceMethod yX3_countAbbreviations ∈ TBL := tb_of 256 (by decide +kernel) (by decide +kernel)
theorem seX3_countAbbreviations : Cond.selects RX3 yX3_countAbbreviations yX3_countAbbreviations ∈ TBL := tb_of 8 (by decide +kernel) (by decide +kernel)
theorem cdX3_plain : Cond.code yX3_plain cX3_plain 4 (some .int) ∈ TBL := tb_of 261 (by decide +kernel) (by decide +kernel)
theorem imX3_plain : Cond.instanceMethod yX3_plain ∈ TBL := tb_of 259 (by decide +kernel) (by decide +kernel)
theorem seX3_plain : Cond.selects RX3 yX3_plain yX3_plain ∈ TBL := tb_of 260 (by decide +kernel) (by decide +kernel)
theorem cdX2_spells : Cond.code yX2_spells cX2_spells 3 (some .boolean) ∈ TBL := tb_of 265 (by decide +kernel) (by decide +kernel)
theorem imX2_spells : Cond.instanceMethod yX2_spells ∈ TBL := tb_of 263 (by decide +kernel) (by decide +kernel)
theorem seX2_spells : Cond.selects RX2 yX2_spells yX2_spells ∈ TBL := tb_of 264 (by decide +kernel) (by decide +kernel)
theorem cdX1_addLast : Cond.code yX1_addLast cX1_addLast 3 none ∈ TBL := tb_of 269 (by decide +kernel) (by decide +kernel)
theorem imX1_addLast : Cond.instanceMethod yX1_addLast ∈ TBL := tb_of 267 (by decide +kernel) (by decide +kernel)
theorem seX1_addLast : Cond.selects RX1 yX1_addLast yX1_addLast ∈ TBL := tb_of 268 (by decide +kernel) (by decide +kernel)
theorem cdX4_init : Cond.code yX4_init cX4_init 1 none ∈ TBL := tb_of 274 (by decide +kernel) (by decide +kernel)
theorem imX4_init : Cond.instanceMethod yX4_init ∈ TBL := tb_of 273 (by decide +kernel) (by decide +kernel)
theorem cdX4_forget : Cond.code yX4_forget cX4_forget 2 none ∈ TBL := tb_of 279 (by decide +kernel) (by decide +kernel)
theorem imX4_forget : Cond.instanceMethod yX4_forget ∈ TBL := tb_of 278 (by decide +kernel) (by decide +kernel)
theorem seX4_forget : Cond.selects RX4 yX4_forget yX4_forget ∈ TBL := tb_of 9 (by decide +kernel) (by decide +kernel)
theorem cdX4_entry : Cond.code yX4_entry cX4_entry 1 (some .int) ∈ TBL := tb_of 327 (by decide +kernel) (by decide +kernel)
theorem imX4_entry : Cond.instanceMethod yX4_entry ∈ TBL := tb_of 325 (by decide +kernel) (by decide +kernel)
theorem seX4_entry : Cond.selects RX4 yX4_entry yX4_entry ∈ TBL := tb_of 326 (by decide +kernel) (by decide +kernel)
theorem cdX4_letter : Cond.code yX4_letter cX4_letter 3 (some .int) ∈ TBL := tb_of 331 (by decide +kernel) (by decide +kernel)
theorem imX4_letter : Cond.instanceMethod yX4_letter ∈ TBL := tb_of 329 (by decide +kernel) (by decide +kernel)
theorem seX4_letter : Cond.selects RX4 yX4_letter yX4_letter ∈ TBL := tb_of 330 (by decide +kernel) (by decide +kernel)
theorem cdX4_isEntry : Cond.code yX4_isEntry cX4_isEntry 2 (some .boolean) ∈ TBL := tb_of 335 (by decide +kernel) (by decide +kernel)
theorem imX4_isEntry : Cond.instanceMethod yX4_isEntry ∈ TBL := tb_of 334 (by decide +kernel) (by decide +kernel)
theorem seX4_isEntry : Cond.selects RX4 yX4_isEntry yX4_isEntry ∈ TBL := tb_of 10 (by decide +kernel) (by decide +kernel)
theorem cdX4_between : Cond.code yX4_between cX4_between 3 (some .boolean) ∈ TBL := tb_of 338 (by decide +kernel) (by decide +kernel)
theorem stX4_between : Cond.static yX4_between ∈ TBL := tb_of 337 (by decide +kernel) (by decide +kernel)
theorem cdX4_drop : Cond.code yX4_drop cX4_drop 3 (some .int) ∈ TBL := tb_of 342 (by decide +kernel) (by decide +kernel)
theorem imX4_drop : Cond.instanceMethod yX4_drop ∈ TBL := tb_of 340 (by decide +kernel) (by decide +kernel)
theorem seX4_drop : Cond.selects RX4 yX4_drop yX4_drop ∈ TBL := tb_of 341 (by decide +kernel) (by decide +kernel)
theorem cdX4_count : Cond.code yX4_count cX4_count 3 (some .int) ∈ TBL := tb_of 346 (by decide +kernel) (by decide +kernel)
theorem imX4_count : Cond.instanceMethod yX4_count ∈ TBL := tb_of 345 (by decide +kernel) (by decide +kernel)
theorem seX4_count : Cond.selects RX4 yX4_count yX4_count ∈ TBL := tb_of 11 (by decide +kernel) (by decide +kernel)
theorem cdX4_cost : Cond.code yX4_cost cX4_cost 4 (some .int) ∈ TBL := tb_of 350 (by decide +kernel) (by decide +kernel)
theorem imX4_cost : Cond.instanceMethod yX4_cost ∈ TBL := tb_of 348 (by decide +kernel) (by decide +kernel)
theorem seX4_cost : Cond.selects RX4 yX4_cost yX4_cost ∈ TBL := tb_of 349 (by decide +kernel) (by decide +kernel)
theorem cdX4_clear : Cond.code yX4_clear cX4_clear 2 (some .int) ∈ TBL := tb_of 354 (by decide +kernel) (by decide +kernel)
theorem imX4_clear : Cond.instanceMethod yX4_clear ∈ TBL := tb_of 352 (by decide +kernel) (by decide +kernel)
theorem seX4_clear : Cond.selects RX4 yX4_clear yX4_clear ∈ TBL := tb_of 353 (by decide +kernel) (by decide +kernel)
theorem cdX4_find : Cond.code yX4_find cX4_find 10 (some .int) ∈ TBL := tb_of 358 (by decide +kernel) (by decide +kernel)
theorem imX4_find : Cond.instanceMethod yX4_find ∈ TBL := tb_of 356 (by decide +kernel) (by decide +kernel)
theorem seX4_find : Cond.selects RX4 yX4_find yX4_find ∈ TBL := tb_of 357 (by decide +kernel) (by decide +kernel)
theorem cdX4_mayBeFound : Cond.code yX4_mayBeFound cX4_mayBeFound 2 (some .boolean) ∈ TBL := tb_of 362 (by decide +kernel) (by decide +kernel)
theorem imX4_mayBeFound : Cond.instanceMethod yX4_mayBeFound ∈ TBL := tb_of 361 (by decide +kernel) (by decide +kernel)
theorem seX4_mayBeFound : Cond.selects RX4 yX4_mayBeFound yX4_mayBeFound ∈ TBL := tb_of 12 (by decide +kernel) (by decide +kernel)
theorem cdX4_sumOf : Cond.code yX4_sumOf cX4_sumOf 5 (some .int) ∈ TBL := tb_of 366 (by decide +kernel) (by decide +kernel)
theorem imX4_sumOf : Cond.instanceMethod yX4_sumOf ∈ TBL := tb_of 365 (by decide +kernel) (by decide +kernel)
theorem seX4_sumOf : Cond.selects RX4 yX4_sumOf yX4_sumOf ∈ TBL := tb_of 13 (by decide +kernel) (by decide +kernel)
theorem cdX4_ownSum : Cond.code yX4_ownSum cX4_ownSum 7 (some .int) ∈ TBL := tb_of 370 (by decide +kernel) (by decide +kernel)
theorem imX4_ownSum : Cond.instanceMethod yX4_ownSum ∈ TBL := tb_of 369 (by decide +kernel) (by decide +kernel)
theorem seX4_ownSum : Cond.selects RX4 yX4_ownSum yX4_ownSum ∈ TBL := tb_of 14 (by decide +kernel) (by decide +kernel)
theorem cdX4_word : Cond.code yX4_word cX4_word 2 (some .int) ∈ TBL := tb_of 375 (by decide +kernel) (by decide +kernel)
theorem imX4_word : Cond.instanceMethod yX4_word ∈ TBL := tb_of 373 (by decide +kernel) (by decide +kernel)
theorem seX4_word : Cond.selects RX4 yX4_word yX4_word ∈ TBL := tb_of 374 (by decide +kernel) (by decide +kernel)
theorem cdX4_sum : Cond.code yX4_sum cX4_sum 2 (some .long) ∈ TBL := tb_of 379 (by decide +kernel) (by decide +kernel)
theorem imX4_sum : Cond.instanceMethod yX4_sum ∈ TBL := tb_of 377 (by decide +kernel) (by decide +kernel)
theorem seX4_sum : Cond.selects RX4 yX4_sum yX4_sum ∈ TBL := tb_of 378 (by decide +kernel) (by decide +kernel)
theorem cdX4_within : Cond.code yX4_within cX4_within 5 (some .int) ∈ TBL := tb_of 384 (by decide +kernel) (by decide +kernel)
theorem imX4_within : Cond.instanceMethod yX4_within ∈ TBL := tb_of 382 (by decide +kernel) (by decide +kernel)
theorem seX4_within : Cond.selects RX4 yX4_within yX4_within ∈ TBL := tb_of 383 (by decide +kernel) (by decide +kernel)
theorem cdX4_abbreviation : Cond.code yX4_abbreviation cX4_abbreviation 3 (some .int) ∈ TBL := tb_of 388 (by decide +kernel) (by decide +kernel)
theorem imX4_abbreviation : Cond.instanceMethod yX4_abbreviation ∈ TBL := tb_of 386 (by decide +kernel) (by decide +kernel)
theorem seX4_abbreviation : Cond.selects RX4 yX4_abbreviation yX4_abbreviation ∈ TBL := tb_of 387 (by decide +kernel) (by decide +kernel)
theorem cdX4_abbreviations : Cond.code yX4_abbreviations cX4_abbreviations 4 (some .int) ∈ TBL := tb_of 392 (by decide +kernel) (by decide +kernel)
theorem imX4_abbreviations : Cond.instanceMethod yX4_abbreviations ∈ TBL := tb_of 391 (by decide +kernel) (by decide +kernel)
theorem seX4_abbreviations : Cond.selects RX4 yX4_abbreviations yX4_abbreviations ∈ TBL := tb_of 15 (by decide +kernel) (by decide +kernel)
theorem cdX4_plain : Cond.code yX4_plain cX4_plain 6 (some .int) ∈ TBL := tb_of 396 (by decide +kernel) (by decide +kernel)
theorem imX4_plain : Cond.instanceMethod yX4_plain ∈ TBL := tb_of 394 (by decide +kernel) (by decide +kernel)
theorem seX4_plain : Cond.selects RX4 yX4_plain yX4_plain ∈ TBL := tb_of 395 (by decide +kernel) (by decide +kernel)
theorem mlX3_1 : Cond.methodLink RX3 1 objectInit ∈ TBL := tb_of 29 (by decide +kernel) (by decide +kernel)
theorem clX3_9 : Cond.classLink RX3 9 RX0 ∈ TBL := tb_of 32 (by decide +kernel) (by decide +kernel)
theorem lkX3_11 : Cond.fieldLink RX3 11 (TX3 0).1 (TX3 0).2.1 (TX3 0).2.2.1 ∈ TBL := tb_of 74 (by decide +kernel) (by decide +kernel)
theorem lkX3_15 : Cond.fieldLink RX3 15 (TX3 1).1 (TX3 1).2.1 (TX3 1).2.2.1 ∈ TBL := tb_of 75 (by decide +kernel) (by decide +kernel)
theorem clX3_19 : Cond.classLink RX3 19 RX2 ∈ TBL := tb_of 34 (by decide +kernel) (by decide +kernel)
theorem mlX3_21 : Cond.methodLink RX3 21 yX2_init ∈ TBL := tb_of 36 (by decide +kernel) (by decide +kernel)
theorem lkX3_22 : Cond.fieldLink RX3 22 (TX3 2).1 (TX3 2).2.1 (TX3 2).2.2.1 ∈ TBL := tb_of 76 (by decide +kernel) (by decide +kernel)
theorem clX3_26 : Cond.classLink RX3 26 RX1 ∈ TBL := tb_of 55 (by decide +kernel) (by decide +kernel)
theorem mlX3_28 : Cond.methodLink RX3 28 yX1_init ∈ TBL := tb_of 57 (by decide +kernel) (by decide +kernel)
theorem lkX3_29 : Cond.fieldLink RX3 29 (TX3 3).1 (TX3 3).2.1 (TX3 3).2.2.1 ∈ TBL := tb_of 77 (by decide +kernel) (by decide +kernel)
theorem lkX3_33 : Cond.fieldLink RX3 33 (TX3 4).1 (TX3 4).2.1 (TX3 4).2.2.1 ∈ TBL := tb_of 78 (by decide +kernel) (by decide +kernel)
theorem mlX3_36 : Cond.methodLink RX3 36 yX0_init ∈ TBL := tb_of 95 (by decide +kernel) (by decide +kernel)
theorem mlX3_37 : Cond.methodLink RX3 37 yX3_living ∈ TBL := tb_of 128 (by decide +kernel) (by decide +kernel)
theorem mlX3_41 : Cond.methodLink RX3 41 yX3_isSign ∈ TBL := tb_of 132 (by decide +kernel) (by decide +kernel)
theorem mlX3_45 : Cond.methodLink RX3 45 yX0_append ∈ TBL := tb_of 135 (by decide +kernel) (by decide +kernel)
theorem lkX3_48 : Cond.fieldLink RX3 48 (TX0 1).1 (TX0 1).2.1 (TX0 1).2.2.1 ∈ TBL := tb_of 102 (by decide +kernel) (by decide +kernel)
theorem lkX3_51 : Cond.fieldLink RX3 51 (TX0 3).1 (TX0 3).2.1 (TX0 3).2.2.1 ∈ TBL := tb_of 106 (by decide +kernel) (by decide +kernel)
theorem lkX3_55 : Cond.fieldLink RX3 55 (TX0 4).1 (TX0 4).2.1 (TX0 4).2.2.1 ∈ TBL := tb_of 108 (by decide +kernel) (by decide +kernel)
theorem mlX3_59 : Cond.methodLink RX3 59 yX3_countWithin ∈ TBL := tb_of 143 (by decide +kernel) (by decide +kernel)
theorem mlX3_63 : Cond.methodLink RX3 63 yX2_tell ∈ TBL := tb_of 155 (by decide +kernel) (by decide +kernel)
theorem lkX3_67 : Cond.fieldLink RX3 67 (TX2 2).1 (TX2 2).2.1 (TX2 2).2.2.1 ∈ TBL := tb_of 46 (by decide +kernel) (by decide +kernel)
theorem mlX3_70 : Cond.methodLink RX3 70 yX2_forget ∈ TBL := tb_of 170 (by decide +kernel) (by decide +kernel)
theorem mlX3_73 : Cond.methodLink RX3 73 yX3_mayBeAsked ∈ TBL := tb_of 178 (by decide +kernel) (by decide +kernel)
theorem mlX3_76 : Cond.methodLink RX3 76 yX3_reckonSums ∈ TBL := tb_of 181 (by decide +kernel) (by decide +kernel)
theorem mlX3_79 : Cond.methodLink RX3 79 yX1_forget ∈ TBL := tb_of 205 (by decide +kernel) (by decide +kernel)
theorem mlX3_80 : Cond.methodLink RX3 80 yX3_mayBeFound ∈ TBL := tb_of 209 (by decide +kernel) (by decide +kernel)
theorem lkX3_84 : Cond.fieldLink RX3 84 (TX0 5).1 (TX0 5).2.1 (TX0 5).2.2.1 ∈ TBL := tb_of 110 (by decide +kernel) (by decide +kernel)
theorem mlX3_87 : Cond.methodLink RX3 87 yX1_addBySum ∈ TBL := tb_of 213 (by decide +kernel) (by decide +kernel)
theorem mlX3_91 : Cond.methodLink RX3 91 yX1_keepFirst ∈ TBL := tb_of 217 (by decide +kernel) (by decide +kernel)
theorem lkX3_95 : Cond.fieldLink RX3 95 (TX1 2).1 (TX1 2).2.1 (TX1 2).2.2.1 ∈ TBL := tb_of 66 (by decide +kernel) (by decide +kernel)
theorem mlX3_98 : Cond.methodLink RX3 98 yX1_has ∈ TBL := tb_of 226 (by decide +kernel) (by decide +kernel)
theorem lkX3_101 : Cond.fieldLink RX3 101 (TX1 0).1 (TX1 0).2.1 (TX1 0).2.2.1 ∈ TBL := tb_of 62 (by decide +kernel) (by decide +kernel)
theorem lkX3_105 : Cond.fieldLink RX3 105 (TX1 1).1 (TX1 1).2.1 (TX1 1).2.2.1 ∈ TBL := tb_of 64 (by decide +kernel) (by decide +kernel)
theorem klX3_108 : Cond.constantLong RX3 108 (-1) ∈ TBL := tb_of 234 (by decide +kernel) (by decide +kernel)
theorem mlX3_110 : Cond.methodLink RX3 110 yX3_lookAt ∈ TBL := tb_of 239 (by decide +kernel) (by decide +kernel)
theorem mlX3_113 : Cond.methodLink RX3 113 yX3_isGroup ∈ TBL := tb_of 243 (by decide +kernel) (by decide +kernel)
theorem mlX3_116 : Cond.methodLink RX3 116 yX0_join ∈ TBL := tb_of 246 (by decide +kernel) (by decide +kernel)
theorem mlX3_119 : Cond.methodLink RX3 119 yX3_countAbbreviations ∈ TBL := tb_of 254 (by decide +kernel) (by decide +kernel)
theorem mlX3_123 : Cond.methodLink RX3 123 yX2_spells ∈ TBL := tb_of 262 (by decide +kernel) (by decide +kernel)
theorem mlX3_126 : Cond.methodLink RX3 126 yX1_addLast ∈ TBL := tb_of 266 (by decide +kernel) (by decide +kernel)
theorem mlX3_129 : Cond.methodLink RX3 129 yX0_isWithin ∈ TBL := tb_of 147 (by decide +kernel) (by decide +kernel)
theorem mlX3_132 : Cond.methodLink RX3 132 yX2_leastCostOf ∈ TBL := tb_of 185 (by decide +kernel) (by decide +kernel)
theorem mlX3_135 : Cond.methodLink RX3 135 Lib.Math.min.name ∈ TBL := tb_of 204 (by decide +kernel) (by decide +kernel)
theorem mlX4_1 : Cond.methodLink RX4 1 objectInit ∈ TBL := tb_of 275 (by decide +kernel) (by decide +kernel)
theorem lkX4_7 : Cond.fieldLink RX4 7 (TX4 1).1 (TX4 1).2.1 (TX4 1).2.2.1 ∈ TBL := tb_of 281 (by decide +kernel) (by decide +kernel)
theorem lkX4_13 : Cond.fieldLink RX4 13 (TX4 2).1 (TX4 2).2.1 (TX4 2).2.2.1 ∈ TBL := tb_of 282 (by decide +kernel) (by decide +kernel)
theorem lkX4_17 : Cond.fieldLink RX4 17 (TX4 3).1 (TX4 3).2.1 (TX4 3).2.2.1 ∈ TBL := tb_of 283 (by decide +kernel) (by decide +kernel)
theorem lkX4_20 : Cond.fieldLink RX4 20 (TX4 4).1 (TX4 4).2.1 (TX4 4).2.2.1 ∈ TBL := tb_of 284 (by decide +kernel) (by decide +kernel)
theorem lkX4_23 : Cond.fieldLink RX4 23 (TX4 5).1 (TX4 5).2.1 (TX4 5).2.2.1 ∈ TBL := tb_of 285 (by decide +kernel) (by decide +kernel)
theorem lkX4_26 : Cond.fieldLink RX4 26 (TX4 6).1 (TX4 6).2.1 (TX4 6).2.2.1 ∈ TBL := tb_of 286 (by decide +kernel) (by decide +kernel)
theorem lkX4_30 : Cond.fieldLink RX4 30 (TX4 8).1 (TX4 8).2.1 (TX4 8).2.2.1 ∈ TBL := tb_of 288 (by decide +kernel) (by decide +kernel)
theorem lkX4_33 : Cond.fieldLink RX4 33 (TX4 9).1 (TX4 9).2.1 (TX4 9).2.2.1 ∈ TBL := tb_of 289 (by decide +kernel) (by decide +kernel)
theorem lkX4_36 : Cond.fieldLink RX4 36 (TX4 11).1 (TX4 11).2.1 (TX4 11).2.2.1 ∈ TBL := tb_of 291 (by decide +kernel) (by decide +kernel)
theorem lkX4_39 : Cond.fieldLink RX4 39 (TX4 12).1 (TX4 12).2.1 (TX4 12).2.2.1 ∈ TBL := tb_of 292 (by decide +kernel) (by decide +kernel)
theorem lkX4_42 : Cond.fieldLink RX4 42 (TX4 13).1 (TX4 13).2.1 (TX4 13).2.2.1 ∈ TBL := tb_of 293 (by decide +kernel) (by decide +kernel)
theorem mlX4_45 : Cond.methodLink RX4 45 yX4_forget ∈ TBL := tb_of 276 (by decide +kernel) (by decide +kernel)
theorem lkX4_48 : Cond.fieldLink RX4 48 (TX4 7).1 (TX4 7).2.1 (TX4 7).2.2.1 ∈ TBL := tb_of 287 (by decide +kernel) (by decide +kernel)
theorem lkX4_51 : Cond.fieldLink RX4 51 (TX4 0).1 (TX4 0).2.1 (TX4 0).2.2.1 ∈ TBL := tb_of 280 (by decide +kernel) (by decide +kernel)
theorem mlX4_54 : Cond.methodLink RX4 54 yX4_between ∈ TBL := tb_of 336 (by decide +kernel) (by decide +kernel)
theorem mlX4_58 : Cond.methodLink RX4 58 yX4_isEntry ∈ TBL := tb_of 332 (by decide +kernel) (by decide +kernel)
theorem mlX4_62 : Cond.methodLink RX4 62 yX4_count ∈ TBL := tb_of 343 (by decide +kernel) (by decide +kernel)
theorem kcX4_66 : Cond.constant RX4 66 (nI 1000000) ∈ TBL := tb_of 371 (by decide +kernel) (by decide +kernel)
theorem mlX4_67 : Cond.methodLink RX4 67 yX4_ownSum ∈ TBL := tb_of 367 (by decide +kernel) (by decide +kernel)
theorem lkX4_71 : Cond.fieldLink RX4 71 (TX4 10).1 (TX4 10).2.1 (TX4 10).2.2.1 ∈ TBL := tb_of 290 (by decide +kernel) (by decide +kernel)
theorem mlX4_74 : Cond.methodLink RX4 74 yX4_mayBeFound ∈ TBL := tb_of 359 (by decide +kernel) (by decide +kernel)
theorem mlX4_77 : Cond.methodLink RX4 77 yX4_sumOf ∈ TBL := tb_of 363 (by decide +kernel) (by decide +kernel)
theorem klX4_80 : Cond.constantLong RX4 80 (-1) ∈ TBL := tb_of 380 (by decide +kernel) (by decide +kernel)
theorem mlX4_82 : Cond.methodLink RX4 82 yX4_abbreviations ∈ TBL := tb_of 389 (by decide +kernel) (by decide +kernel)
theorem mlX0_3 : Cond.methodLink RX0 3 objectInit ∈ TBL := tb_of 98 (by decide +kernel) (by decide +kernel)
theorem lkX0_9 : Cond.fieldLink RX0 9 (TX0 0).1 (TX0 0).2.1 (TX0 0).2.2.1 ∈ TBL := tb_of 99 (by decide +kernel) (by decide +kernel)
theorem lkX0_15 : Cond.fieldLink RX0 15 (TX0 1).1 (TX0 1).2.1 (TX0 1).2.2.1 ∈ TBL := tb_of 101 (by decide +kernel) (by decide +kernel)
theorem lkX0_19 : Cond.fieldLink RX0 19 (TX0 2).1 (TX0 2).2.1 (TX0 2).2.2.1 ∈ TBL := tb_of 104 (by decide +kernel) (by decide +kernel)
theorem lkX0_22 : Cond.fieldLink RX0 22 (TX0 3).1 (TX0 3).2.1 (TX0 3).2.2.1 ∈ TBL := tb_of 105 (by decide +kernel) (by decide +kernel)
theorem lkX0_26 : Cond.fieldLink RX0 26 (TX0 4).1 (TX0 4).2.1 (TX0 4).2.2.1 ∈ TBL := tb_of 107 (by decide +kernel) (by decide +kernel)
theorem lkX0_30 : Cond.fieldLink RX0 30 (TX0 5).1 (TX0 5).2.1 (TX0 5).2.2.1 ∈ TBL := tb_of 109 (by decide +kernel) (by decide +kernel)
theorem mlX1_3 : Cond.methodLink RX1 3 objectInit ∈ TBL := tb_of 60 (by decide +kernel) (by decide +kernel)
theorem lkX1_9 : Cond.fieldLink RX1 9 (TX1 0).1 (TX1 0).2.1 (TX1 0).2.2.1 ∈ TBL := tb_of 61 (by decide +kernel) (by decide +kernel)
theorem lkX1_15 : Cond.fieldLink RX1 15 (TX1 1).1 (TX1 1).2.1 (TX1 1).2.2.1 ∈ TBL := tb_of 63 (by decide +kernel) (by decide +kernel)
theorem lkX1_18 : Cond.fieldLink RX1 18 (TX1 2).1 (TX1 2).2.1 (TX1 2).2.2.1 ∈ TBL := tb_of 65 (by decide +kernel) (by decide +kernel)
theorem mlX1_22 : Cond.methodLink RX1 22 Lib.Math.min.name ∈ TBL := tb_of 221 (by decide +kernel) (by decide +kernel)
theorem mlX2_3 : Cond.methodLink RX2 3 objectInit ∈ TBL := tb_of 39 (by decide +kernel) (by decide +kernel)
theorem lkX2_11 : Cond.fieldLink RX2 11 (TX2 0).1 (TX2 0).2.1 (TX2 0).2.2.1 ∈ TBL := tb_of 43 (by decide +kernel) (by decide +kernel)
theorem mlX2_15 : Cond.methodLink RX2 15 yJ7_fill ∈ TBL := tb_of 40 (by decide +kernel) (by decide +kernel)
theorem lkX2_21 : Cond.fieldLink RX2 21 (TX2 1).1 (TX2 1).2.1 (TX2 1).2.2.1 ∈ TBL := tb_of 44 (by decide +kernel) (by decide +kernel)
theorem lkX2_24 : Cond.fieldLink RX2 24 (TX2 2).1 (TX2 2).2.1 (TX2 2).2.2.1 ∈ TBL := tb_of 45 (by decide +kernel) (by decide +kernel)
theorem mlX2_28 : Cond.methodLink RX2 28 yX2_indexOf ∈ TBL := tb_of 159 (by decide +kernel) (by decide +kernel)
theorem mlX2_32 : Cond.methodLink RX2 32 Lib.Math.max.name ∈ TBL := tb_of 163 (by decide +kernel) (by decide +kernel)
theorem lkX2_37 : Cond.fieldLink RX2 37 (TX0 1).1 (TX0 1).2.1 (TX0 1).2.2.1 ∈ TBL := tb_of 103 (by decide +kernel) (by decide +kernel)
theorem lkX2_42 : Cond.fieldLink RX2 42 (TX0 0).1 (TX0 0).2.1 (TX0 0).2.2.1 ∈ TBL := tb_of 100 (by decide +kernel) (by decide +kernel)
theorem mlX2_45 : Cond.methodLink RX2 45 yX2_told ∈ TBL := tb_of 197 (by decide +kernel) (by decide +kernel)
theorem mlX2_48 : Cond.methodLink RX2 48 yX2_addSign ∈ TBL := tb_of 189 (by decide +kernel) (by decide +kernel)
theorem mlX2_52 : Cond.methodLink RX2 52 yX2_costAs ∈ TBL := tb_of 193 (by decide +kernel) (by decide +kernel)
theorem mlX2_55 : Cond.methodLink RX2 55 Lib.Math.min.name ∈ TBL := tb_of 201 (by decide +kernel) (by decide +kernel)
theorem clL_7 : Cond.classLink RL 7 RX3 ∈ TBL := tb_of 24 (by decide +kernel) (by decide +kernel)
theorem mlL_9 : Cond.methodLink RL 9 yX3_init ∈ TBL := tb_of 26 (by decide +kernel) (by decide +kernel)
theorem clL_10 : Cond.classLink RL 10 RX4 ∈ TBL := tb_of 270 (by decide +kernel) (by decide +kernel)
theorem mlL_12 : Cond.methodLink RL 12 yX4_init ∈ TBL := tb_of 272 (by decide +kernel) (by decide +kernel)
theorem mlL_13 : Cond.methodLink RL 13 yX3_entry ∈ TBL := tb_of 90 (by decide +kernel) (by decide +kernel)
theorem mlL_17 : Cond.methodLink RL 17 yX4_entry ∈ TBL := tb_of 324 (by decide +kernel) (by decide +kernel)
theorem mlL_18 : Cond.methodLink RL 18 yX3_letter ∈ TBL := tb_of 124 (by decide +kernel) (by decide +kernel)
theorem mlL_22 : Cond.methodLink RL 22 yX4_letter ∈ TBL := tb_of 328 (by decide +kernel) (by decide +kernel)
theorem mlL_23 : Cond.methodLink RL 23 yX3_drop ∈ TBL := tb_of 139 (by decide +kernel) (by decide +kernel)
theorem mlL_27 : Cond.methodLink RL 27 yX4_drop ∈ TBL := tb_of 339 (by decide +kernel) (by decide +kernel)
theorem mlL_28 : Cond.methodLink RL 28 yX3_cost ∈ TBL := tb_of 151 (by decide +kernel) (by decide +kernel)
theorem mlL_32 : Cond.methodLink RL 32 yX4_cost ∈ TBL := tb_of 347 (by decide +kernel) (by decide +kernel)
theorem mlL_33 : Cond.methodLink RL 33 yX3_clear ∈ TBL := tb_of 166 (by decide +kernel) (by decide +kernel)
theorem mlL_36 : Cond.methodLink RL 36 yX4_clear ∈ TBL := tb_of 351 (by decide +kernel) (by decide +kernel)
theorem mlL_37 : Cond.methodLink RL 37 yX3_find ∈ TBL := tb_of 174 (by decide +kernel) (by decide +kernel)
theorem mlL_40 : Cond.methodLink RL 40 yX4_find ∈ TBL := tb_of 355 (by decide +kernel) (by decide +kernel)
theorem mlL_41 : Cond.methodLink RL 41 yX3_word ∈ TBL := tb_of 222 (by decide +kernel) (by decide +kernel)
theorem mlL_44 : Cond.methodLink RL 44 yX4_word ∈ TBL := tb_of 372 (by decide +kernel) (by decide +kernel)
theorem mlL_45 : Cond.methodLink RL 45 yX3_sum ∈ TBL := tb_of 230 (by decide +kernel) (by decide +kernel)
theorem mlL_49 : Cond.methodLink RL 49 yX4_sum ∈ TBL := tb_of 376 (by decide +kernel) (by decide +kernel)
theorem mlL_50 : Cond.methodLink RL 50 yX3_within ∈ TBL := tb_of 235 (by decide +kernel) (by decide +kernel)
theorem mlL_53 : Cond.methodLink RL 53 yX4_within ∈ TBL := tb_of 381 (by decide +kernel) (by decide +kernel)
theorem mlL_54 : Cond.methodLink RL 54 yX3_abbreviation ∈ TBL := tb_of 250 (by decide +kernel) (by decide +kernel)
theorem mlL_57 : Cond.methodLink RL 57 yX4_abbreviation ∈ TBL := tb_of 385 (by decide +kernel) (by decide +kernel)
theorem mlL_58 : Cond.methodLink RL 58 yX3_plain ∈ TBL := tb_of 258 (by decide +kernel) (by decide +kernel)
theorem mlL_61 : Cond.methodLink RL 61 yX4_plain ∈ TBL := tb_of 393 (by decide +kernel) (by decide +kernel)
