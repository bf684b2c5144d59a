section
-- ===== PART A: goes FIRST, ahead of the names: the tables' words, and 'selects' of the private methods out of them =====
/-- a private method of a class that the tables say can be made, by its rows of tables_1 -/
def lw_okq (q : MethodName × Nat) : Prop := (q.1.cls ≠ "java/lang/invoke/MethodHandle" ∧ q.1.cls ≠ "java/lang/invoke/VarHandle") ∧ Cond.instantiable q.1.cls q.2 ∈ tables_1 ∧ Cond.privateMethod q.1 ∈ tables_1 ∧ Cond.instanceMethod q.1 ∈ tables_1
theorem lw_p0 : lw_okq (⟨"WordTrees", "living", "(I)LWordTrees$Entry;"⟩, 5) := ⟨⟨by decide +kernel, by decide +kernel⟩, List.mem_of_getElem? (i := 9) (by decide +kernel), List.mem_of_getElem? (i := 113) (by decide +kernel), List.mem_of_getElem? (i := 114) (by decide +kernel)⟩
theorem lw_p1 : lw_okq (⟨"WordTrees", "countWithin", "(I)I"⟩, 5) := ⟨⟨by decide +kernel, by decide +kernel⟩, List.mem_of_getElem? (i := 9) (by decide +kernel), List.mem_of_getElem? (i := 128) (by decide +kernel), List.mem_of_getElem? (i := 129) (by decide +kernel)⟩
theorem lw_p2 : lw_okq (⟨"WordTrees", "reckonSums", "()V"⟩, 5) := ⟨⟨by decide +kernel, by decide +kernel⟩, List.mem_of_getElem? (i := 9) (by decide +kernel), List.mem_of_getElem? (i := 166) (by decide +kernel), List.mem_of_getElem? (i := 167) (by decide +kernel)⟩
theorem lw_p3 : lw_okq (⟨"WordTrees$Reading", "addSign", "(I)V"⟩, 3) := ⟨⟨by decide +kernel, by decide +kernel⟩, List.mem_of_getElem? (i := 19) (by decide +kernel), List.mem_of_getElem? (i := 174) (by decide +kernel), List.mem_of_getElem? (i := 175) (by decide +kernel)⟩
theorem lw_p4 : lw_okq (⟨"WordTrees$Reading", "costAs", "(II)I"⟩, 3) := ⟨⟨by decide +kernel, by decide +kernel⟩, List.mem_of_getElem? (i := 19) (by decide +kernel), List.mem_of_getElem? (i := 178) (by decide +kernel), List.mem_of_getElem? (i := 179) (by decide +kernel)⟩
theorem lw_p5 : lw_okq (⟨"WordTrees$Reading", "told", "(II)I"⟩, 3) := ⟨⟨by decide +kernel, by decide +kernel⟩, List.mem_of_getElem? (i := 19) (by decide +kernel), List.mem_of_getElem? (i := 182) (by decide +kernel), List.mem_of_getElem? (i := 183) (by decide +kernel)⟩
theorem lw_p6 : lw_okq (⟨"WordTrees", "mayBeFound", "(LWordTrees$Entry;)Z"⟩, 5) := ⟨⟨by decide +kernel, by decide +kernel⟩, List.mem_of_getElem? (i := 9) (by decide +kernel), List.mem_of_getElem? (i := 194) (by decide +kernel), List.mem_of_getElem? (i := 195) (by decide +kernel)⟩
theorem lw_p7 : lw_okq (⟨"WordTrees", "lookAt", "(I)I"⟩, 5) := ⟨⟨by decide +kernel, by decide +kernel⟩, List.mem_of_getElem? (i := 9) (by decide +kernel), List.mem_of_getElem? (i := 224) (by decide +kernel), List.mem_of_getElem? (i := 225) (by decide +kernel)⟩
theorem lw_p8 : lw_okq (⟨"WordTrees", "countAbbreviations", "(LWordTrees$Entry;)I"⟩, 5) := ⟨⟨by decide +kernel, by decide +kernel⟩, List.mem_of_getElem? (i := 9) (by decide +kernel), List.mem_of_getElem? (i := 239) (by decide +kernel), List.mem_of_getElem? (i := 240) (by decide +kernel)⟩
theorem lw_p9 : lw_okq (⟨"WordTreesModel", "forget", "()V"⟩, 14) := ⟨⟨by decide +kernel, by decide +kernel⟩, List.mem_of_getElem? (i := 255) (by decide +kernel), List.mem_of_getElem? (i := 261) (by decide +kernel), List.mem_of_getElem? (i := 262) (by decide +kernel)⟩
theorem lw_p10 : lw_okq (⟨"WordTreesModel", "isEntry", "(I)Z"⟩, 14) := ⟨⟨by decide +kernel, by decide +kernel⟩, List.mem_of_getElem? (i := 255) (by decide +kernel), List.mem_of_getElem? (i := 317) (by decide +kernel), List.mem_of_getElem? (i := 318) (by decide +kernel)⟩
theorem lw_p11 : lw_okq (⟨"WordTreesModel", "count", "()I"⟩, 14) := ⟨⟨by decide +kernel, by decide +kernel⟩, List.mem_of_getElem? (i := 255) (by decide +kernel), List.mem_of_getElem? (i := 328) (by decide +kernel), List.mem_of_getElem? (i := 329) (by decide +kernel)⟩
theorem lw_p12 : lw_okq (⟨"WordTreesModel", "mayBeFound", "(I)Z"⟩, 14) := ⟨⟨by decide +kernel, by decide +kernel⟩, List.mem_of_getElem? (i := 255) (by decide +kernel), List.mem_of_getElem? (i := 344) (by decide +kernel), List.mem_of_getElem? (i := 345) (by decide +kernel)⟩
theorem lw_p13 : lw_okq (⟨"WordTreesModel", "sumOf", "(I)I"⟩, 14) := ⟨⟨by decide +kernel, by decide +kernel⟩, List.mem_of_getElem? (i := 255) (by decide +kernel), List.mem_of_getElem? (i := 348) (by decide +kernel), List.mem_of_getElem? (i := 349) (by decide +kernel)⟩
theorem lw_p14 : lw_okq (⟨"WordTreesModel", "ownSum", "(I)I"⟩, 14) := ⟨⟨by decide +kernel, by decide +kernel⟩, List.mem_of_getElem? (i := 255) (by decide +kernel), List.mem_of_getElem? (i := 352) (by decide +kernel), List.mem_of_getElem? (i := 353) (by decide +kernel)⟩
theorem lw_p15 : lw_okq (⟨"WordTreesModel", "abbreviations", "(I)I"⟩, 14) := ⟨⟨by decide +kernel, by decide +kernel⟩, List.mem_of_getElem? (i := 255) (by decide +kernel), List.mem_of_getElem? (i := 374) (by decide +kernel), List.mem_of_getElem? (i := 375) (by decide +kernel)⟩
def lw_privs_1 : List (MethodName × Nat) := [(⟨"WordTrees", "living", "(I)LWordTrees$Entry;"⟩, 5), (⟨"WordTrees", "countWithin", "(I)I"⟩, 5), (⟨"WordTrees", "reckonSums", "()V"⟩, 5), (⟨"WordTrees$Reading", "addSign", "(I)V"⟩, 3), (⟨"WordTrees$Reading", "costAs", "(II)I"⟩, 3), (⟨"WordTrees$Reading", "told", "(II)I"⟩, 3), (⟨"WordTrees", "mayBeFound", "(LWordTrees$Entry;)Z"⟩, 5), (⟨"WordTrees", "lookAt", "(I)I"⟩, 5), (⟨"WordTrees", "countAbbreviations", "(LWordTrees$Entry;)I"⟩, 5), (⟨"WordTreesModel", "forget", "()V"⟩, 14), (⟨"WordTreesModel", "isEntry", "(I)Z"⟩, 14), (⟨"WordTreesModel", "count", "()I"⟩, 14), (⟨"WordTreesModel", "mayBeFound", "(I)Z"⟩, 14), (⟨"WordTreesModel", "sumOf", "(I)I"⟩, 14), (⟨"WordTreesModel", "ownSum", "(I)I"⟩, 14), (⟨"WordTreesModel", "abbreviations", "(I)I"⟩, 14)]
theorem lw_r1 : ∀ q ∈ lw_privs_1, lw_okq q := List.forall_mem_cons.mpr ⟨lw_p0, List.forall_mem_cons.mpr ⟨lw_p1, List.forall_mem_cons.mpr ⟨lw_p2, List.forall_mem_cons.mpr ⟨lw_p3, List.forall_mem_cons.mpr ⟨lw_p4, List.forall_mem_cons.mpr ⟨lw_p5, List.forall_mem_cons.mpr ⟨lw_p6, List.forall_mem_cons.mpr ⟨lw_p7, List.forall_mem_cons.mpr ⟨lw_p8, List.forall_mem_cons.mpr ⟨lw_p9, List.forall_mem_cons.mpr ⟨lw_p10, List.forall_mem_cons.mpr ⟨lw_p11, List.forall_mem_cons.mpr ⟨lw_p12, List.forall_mem_cons.mpr ⟨lw_p13, List.forall_mem_cons.mpr ⟨lw_p14, List.forall_mem_cons.mpr ⟨lw_p15, fun _ h => absurd h List.not_mem_nil⟩⟩⟩⟩⟩⟩⟩⟩⟩⟩⟩⟩⟩⟩⟩⟩
def lw_privs : List (MethodName × Nat) := lw_privs_1
def lw_tbl : List Cond := k2_sels lw_privs ++ tables_1
theorem lw_privs_ok : ∀ q ∈ lw_privs, lw_okq q := lw_r1

/-! ===== names, words by their places, decode rows: laid by a program out of the claim's listing and tables ===== -/
def RX0 : String := "WordTrees$Entry"
def TX0 : u_T := fun k => match k with
  | 0 => ("WordTrees$Entry", "signs", "[I", true)
  | 1 => ("WordTrees$Entry", "length", "I", false)
  | 2 => ("WordTrees$Entry", "groupBits", "I", false)
  | 3 => ("WordTrees$Entry", "isDropped", "Z", false)
  | 4 => ("WordTrees$Entry", "standsFor", "LWordTrees$Entry;", false)
  | _ => ("WordTrees$Entry", "leastSum", "I", false)
def tyX0 : Nat → FieldType := fun k => match k with
  | 0 => .array .int
  | 1 => .int
  | 2 => .int
  | 3 => .boolean
  | 4 => .object "WordTrees$Entry"
  | _ => .int
def RX1 : String := "WordTrees$Hits"
def TX1 : u_T := fun k => match k with
  | 0 => ("WordTrees$Hits", "numbers", "[I", true)
  | 1 => ("WordTrees$Hits", "sums", "[I", true)
  | _ => ("WordTrees$Hits", "count", "I", false)
def tyX1 : Nat → FieldType := fun k => match k with
  | 0 => .array .int
  | 1 => .array .int
  | _ => .int
def RX2 : String := "WordTrees$Reading"
def TX2 : u_T := fun k => match k with
  | 0 => ("WordTrees$Reading", "costs", "[I", true)
  | 1 => ("WordTrees$Reading", "leastCosts", "[I", true)
  | _ => ("WordTrees$Reading", "places", "I", false)
def tyX2 : Nat → FieldType := fun k => match k with
  | 0 => .array .int
  | 1 => .array .int
  | _ => .int
def RX3 : String := "WordTrees"
def TX3 : u_T := fun k => match k with
  | 0 => ("WordTrees", "entries", "[LWordTrees$Entry;", true)
  | 1 => ("WordTrees", "entryCount", "I", false)
  | 2 => ("WordTrees", "reading", "LWordTrees$Reading;", true)
  | 3 => ("WordTrees", "hits", "LWordTrees$Hits;", true)
  | _ => ("WordTrees", "groupLookedAt", "I", false)
def tyX3 : Nat → FieldType := fun k => match k with
  | 0 => .array (.object "WordTrees$Entry")
  | 1 => .int
  | 2 => .object "WordTrees$Reading"
  | 3 => .object "WordTrees$Hits"
  | _ => .int
def RX4 : String := "WordTreesModel"
def TX4 : u_T := fun k => match k with
  | 0 => ("WordTreesModel", "entries", "I", false)
  | 1 => ("WordTreesModel", "there", "[Z", true)
  | 2 => ("WordTreesModel", "sizes", "[I", true)
  | 3 => ("WordTreesModel", "signs", "[I", true)
  | 4 => ("WordTreesModel", "meant", "[I", true)
  | 5 => ("WordTreesModel", "groups", "[I", true)
  | 6 => ("WordTreesModel", "looked", "I", false)
  | 7 => ("WordTreesModel", "places", "I", false)
  | 8 => ("WordTreesModel", "costs", "[I", true)
  | 9 => ("WordTreesModel", "table", "[I", true)
  | 10 => ("WordTreesModel", "found", "I", false)
  | 11 => ("WordTreesModel", "words", "[I", true)
  | 12 => ("WordTreesModel", "sums", "[I", true)
  | _ => ("WordTreesModel", "reckoned", "[I", true)
def tyX4 : Nat → FieldType := fun k => match k with
  | 0 => .int
  | 1 => .array .boolean
  | 2 => .array .int
  | 3 => .array .int
  | 4 => .array .int
  | 5 => .array .int
  | 6 => .int
  | 7 => .int
  | 8 => .array .int
  | 9 => .array .int
  | 10 => .int
  | 11 => .array .int
  | 12 => .array .int
  | _ => .array .int
def RJ7 : String := "java/util/Arrays"
def RL : String := "WordTreesLaw"
abbrev vwCl : List vw_C := [(RX0, TX0, 6), (RX1, TX1, 3), (RX2, TX2, 3), (RX3, TX3, 5), (RX4, TX4, 14)]
abbrev cX3_init : ByteArray := prog_1_method_1_code
def yX3_init : MethodName := ⟨RX3, "<init>", "()V"⟩
abbrev cX2_init : ByteArray := prog_4_method_1_code
def yX2_init : MethodName := ⟨RX2, "<init>", "()V"⟩
abbrev cJ7_fill : ByteArray := prog_8_method_103_code
def yJ7_fill : MethodName := ⟨RJ7, "fill", "([II)V"⟩
abbrev cX1_init : ByteArray := prog_3_method_1_code
def yX1_init : MethodName := ⟨RX1, "<init>", "()V"⟩
abbrev cX3_entry : ByteArray := prog_1_method_2_code
def yX3_entry : MethodName := ⟨RX3, "entry", "()I"⟩
abbrev cX0_init : ByteArray := prog_2_method_1_code
def yX0_init : MethodName := ⟨RX0, "<init>", "()V"⟩
abbrev cX3_letter : ByteArray := prog_1_method_3_code
def yX3_letter : MethodName := ⟨RX3, "letter", "(II)I"⟩
abbrev cX3_living : ByteArray := prog_1_method_16_code
def yX3_living : MethodName := ⟨RX3, "living", "(I)LWordTrees$Entry;"⟩
abbrev cX3_isSign : ByteArray := prog_1_method_13_code
def yX3_isSign : MethodName := ⟨RX3, "isSign", "(I)Z"⟩
abbrev cX0_append : ByteArray := prog_2_method_2_code
def yX0_append : MethodName := ⟨RX0, "append", "(I)Z"⟩
abbrev cX3_drop : ByteArray := prog_1_method_4_code
def yX3_drop : MethodName := ⟨RX3, "drop", "(I)I"⟩
abbrev cX3_countWithin : ByteArray := prog_1_method_19_code
def yX3_countWithin : MethodName := ⟨RX3, "countWithin", "(I)I"⟩
abbrev cX0_isWithin : ByteArray := prog_2_method_4_code
def yX0_isWithin : MethodName := ⟨RX0, "isWithin", "(I)Z"⟩
abbrev cX3_cost : ByteArray := prog_1_method_5_code
def yX3_cost : MethodName := ⟨RX3, "cost", "(III)I"⟩
abbrev cX2_tell : ByteArray := prog_4_method_2_code
def yX2_tell : MethodName := ⟨RX2, "tell", "(III)V"⟩
abbrev cX2_indexOf : ByteArray := prog_4_method_9_code
def yX2_indexOf : MethodName := ⟨RX2, "indexOf", "(II)I"⟩
abbrev cX3_clear : ByteArray := prog_1_method_6_code
def yX3_clear : MethodName := ⟨RX3, "clear", "()I"⟩
abbrev cX2_forget : ByteArray := prog_4_method_3_code
def yX2_forget : MethodName := ⟨RX2, "forget", "()V"⟩
abbrev cX3_find : ByteArray := prog_1_method_7_code
def yX3_find : MethodName := ⟨RX3, "find", "(I)I"⟩
abbrev cX3_mayBeAsked : ByteArray := prog_1_method_15_code
def yX3_mayBeAsked : MethodName := ⟨RX3, "mayBeAsked", "(I)Z"⟩
abbrev cX3_reckonSums : ByteArray := prog_1_method_21_code
def yX3_reckonSums : MethodName := ⟨RX3, "reckonSums", "()V"⟩
abbrev cX2_leastCostOf : ByteArray := prog_4_method_5_code
def yX2_leastCostOf : MethodName := ⟨RX2, "leastCostOf", "(LWordTrees$Entry;)I"⟩
abbrev cX2_addSign : ByteArray := prog_4_method_6_code
def yX2_addSign : MethodName := ⟨RX2, "addSign", "(I)V"⟩
abbrev cX2_costAs : ByteArray := prog_4_method_7_code
def yX2_costAs : MethodName := ⟨RX2, "costAs", "(II)I"⟩
abbrev cX2_told : ByteArray := prog_4_method_8_code
def yX2_told : MethodName := ⟨RX2, "told", "(II)I"⟩
abbrev cX1_forget : ByteArray := prog_3_method_2_code
def yX1_forget : MethodName := ⟨RX1, "forget", "()V"⟩
abbrev cX3_mayBeFound : ByteArray := prog_1_method_17_code
def yX3_mayBeFound : MethodName := ⟨RX3, "mayBeFound", "(LWordTrees$Entry;)Z"⟩
abbrev cX1_addBySum : ByteArray := prog_3_method_5_code
def yX1_addBySum : MethodName := ⟨RX1, "addBySum", "(II)V"⟩
abbrev cX1_keepFirst : ByteArray := prog_3_method_6_code
def yX1_keepFirst : MethodName := ⟨RX1, "keepFirst", "(I)V"⟩
abbrev cX3_word : ByteArray := prog_1_method_8_code
def yX3_word : MethodName := ⟨RX3, "word", "(I)I"⟩
abbrev cX1_has : ByteArray := prog_3_method_3_code
def yX1_has : MethodName := ⟨RX1, "has", "(I)Z"⟩
abbrev cX3_sum : ByteArray := prog_1_method_9_code
def yX3_sum : MethodName := ⟨RX3, "sum", "(I)J"⟩
abbrev cX3_within : ByteArray := prog_1_method_10_code
def yX3_within : MethodName := ⟨RX3, "within", "(II)I"⟩
abbrev cX3_lookAt : ByteArray := prog_1_method_18_code
def yX3_lookAt : MethodName := ⟨RX3, "lookAt", "(I)I"⟩
abbrev cX3_isGroup : ByteArray := prog_1_method_14_code
def yX3_isGroup : MethodName := ⟨RX3, "isGroup", "(I)Z"⟩
abbrev cX0_join : ByteArray := prog_2_method_3_code
def yX0_join : MethodName := ⟨RX0, "join", "(I)V"⟩
abbrev cX3_abbreviation : ByteArray := prog_1_method_11_code
def yX3_abbreviation : MethodName := ⟨RX3, "abbreviation", "(II)I"⟩
abbrev cX3_countAbbreviations : ByteArray := prog_1_method_20_code
def yX3_countAbbreviations : MethodName := ⟨RX3, "countAbbreviations", "(LWordTrees$Entry;)I"⟩
abbrev cX3_plain : ByteArray := prog_1_method_12_code
def yX3_plain : MethodName := ⟨RX3, "plain", "(I)I"⟩
abbrev cX2_spells : ByteArray := prog_4_method_4_code
def yX2_spells : MethodName := ⟨RX2, "spells", "(LWordTrees$Entry;)Z"⟩
abbrev cX1_addLast : ByteArray := prog_3_method_4_code
def yX1_addLast : MethodName := ⟨RX1, "addLast", "(II)V"⟩
abbrev cX4_init : ByteArray := prog_6_method_1_code
def yX4_init : MethodName := ⟨RX4, "<init>", "()V"⟩
abbrev cX4_forget : ByteArray := prog_6_method_2_code
def yX4_forget : MethodName := ⟨RX4, "forget", "()V"⟩
abbrev cX4_entry : ByteArray := prog_6_method_5_code
def yX4_entry : MethodName := ⟨RX4, "entry", "()I"⟩
abbrev cX4_letter : ByteArray := prog_6_method_6_code
def yX4_letter : MethodName := ⟨RX4, "letter", "(II)I"⟩
abbrev cX4_isEntry : ByteArray := prog_6_method_4_code
def yX4_isEntry : MethodName := ⟨RX4, "isEntry", "(I)Z"⟩
abbrev cX4_between : ByteArray := prog_6_method_3_code
def yX4_between : MethodName := ⟨RX4, "between", "(III)Z"⟩
abbrev cX4_drop : ByteArray := prog_6_method_8_code
def yX4_drop : MethodName := ⟨RX4, "drop", "(I)I"⟩
abbrev cX4_count : ByteArray := prog_6_method_7_code
def yX4_count : MethodName := ⟨RX4, "count", "()I"⟩
abbrev cX4_cost : ByteArray := prog_6_method_9_code
def yX4_cost : MethodName := ⟨RX4, "cost", "(III)I"⟩
abbrev cX4_clear : ByteArray := prog_6_method_10_code
def yX4_clear : MethodName := ⟨RX4, "clear", "()I"⟩
abbrev cX4_find : ByteArray := prog_6_method_14_code
def yX4_find : MethodName := ⟨RX4, "find", "(I)I"⟩
abbrev cX4_mayBeFound : ByteArray := prog_6_method_13_code
def yX4_mayBeFound : MethodName := ⟨RX4, "mayBeFound", "(I)Z"⟩
abbrev cX4_sumOf : ByteArray := prog_6_method_12_code
def yX4_sumOf : MethodName := ⟨RX4, "sumOf", "(I)I"⟩
abbrev cX4_ownSum : ByteArray := prog_6_method_11_code
def yX4_ownSum : MethodName := ⟨RX4, "ownSum", "(I)I"⟩
abbrev cX4_word : ByteArray := prog_6_method_15_code
def yX4_word : MethodName := ⟨RX4, "word", "(I)I"⟩
abbrev cX4_sum : ByteArray := prog_6_method_16_code
def yX4_sum : MethodName := ⟨RX4, "sum", "(I)J"⟩
abbrev cX4_within : ByteArray := prog_6_method_17_code
def yX4_within : MethodName := ⟨RX4, "within", "(II)I"⟩
abbrev cX4_abbreviation : ByteArray := prog_6_method_19_code
def yX4_abbreviation : MethodName := ⟨RX4, "abbreviation", "(II)I"⟩
abbrev cX4_abbreviations : ByteArray := prog_6_method_18_code
def yX4_abbreviations : MethodName := ⟨RX4, "abbreviations", "(I)I"⟩
abbrev cX4_plain : ByteArray := prog_6_method_20_code
def yX4_plain : MethodName := ⟨RX4, "plain", "(I)I"⟩
def TBL : List Cond := lw_tbl.filter goodWord
def wsO (y : MethodName) (cc : ByteArray) (n : Nat) (r : Option FieldType) : List Cond := .code y cc n r :: TBL
theorem tb_of {w : Cond} (i : Nat) (h : lw_tbl[i]? = some w) (hg : goodWord w = true) : w ∈ TBL := List.mem_filter.mpr ⟨List.mem_of_getElem? h, hg⟩
theorem tb_O {w : Cond} {y : MethodName} {cc : ByteArray} {n : Nat} {r : Option FieldType} (h : w ∈ TBL) : w ∈ wsO y cc n r := List.mem_cons_of_mem _ h
theorem tb_L {w : Cond} (h : w ∈ TBL) : w ∈ lw_tbl := (List.mem_filter.mp h).1
theorem tb_g {w : Cond} (h : w ∈ TBL) : (w.onTables && w.keeps) = true ∨ ∃ ty, w = .arrayClass ty := good_of_word (List.mem_filter.mp h).2
theorem go_O {Ts : List Cond} (hT : ∀ w ∈ TBL, w ∈ Ts) {y : MethodName} {cc : ByteArray} {n : Nat} {r : Option FieldType} (h : Cond.code y cc n r ∈ TBL) : GoodIn Ts (wsO y cc n r) := fun w hw => by
  rcases List.mem_cons.mp hw with rfl | hw
  · exact ⟨hT _ h, tb_g h⟩
  · exact ⟨hT _ hw, tb_g hw⟩
theorem go_V {Ts : List Cond} (hT : ∀ w ∈ TBL, w ∈ Ts) {own C : String} {idx : Nat} {y : MethodName} {cc : ByteArray} {n : Nat} {r : Option FieldType} (h1 : Cond.methodLink own idx y ∈ TBL) (h2 : Cond.instanceMethod y ∈ TBL) (h3 : Cond.selects C y y ∈ TBL) (h4 : Cond.initialized C ∈ TBL) (h : Cond.code y cc n r ∈ TBL) : GoodIn Ts (wsV own idx C y (wsO y cc n r)) := fun w hw => by
  rcases List.mem_append.mp hw with hw | hw
  · rcases List.mem_cons.mp hw with rfl | hw
    · exact ⟨hT _ h1, tb_g h1⟩
    rcases List.mem_cons.mp hw with rfl | hw
    · exact ⟨hT _ h2, tb_g h2⟩
    rcases List.mem_cons.mp hw with rfl | hw
    · exact ⟨hT _ h3, tb_g h3⟩
    rcases List.mem_cons.mp hw with rfl | hw
    · exact ⟨hT _ h4, tb_g h4⟩
    exact absurd hw List.not_mem_nil
  · exact go_O hT h w hw
theorem go_S {Ts : List Cond} (hT : ∀ w ∈ TBL, w ∈ Ts) {own : String} {idx : Nat} {y : MethodName} {cc : ByteArray} {n : Nat} {r : Option FieldType} (h1 : Cond.methodLink own idx y ∈ TBL) (h2 : Cond.static y ∈ TBL) (h4 : Cond.initialized y.cls ∈ TBL) (h : Cond.code y cc n r ∈ TBL) : GoodIn Ts (va_wsS own idx y (wsO y cc n r)) := fun w hw => by
  rcases List.mem_append.mp hw with hw | hw
  · rcases List.mem_cons.mp hw with rfl | hw
    · exact ⟨hT _ h1, tb_g h1⟩
    rcases List.mem_cons.mp hw with rfl | hw
    · exact ⟨hT _ h2, tb_g h2⟩
    rcases List.mem_cons.mp hw with rfl | hw
    · exact ⟨hT _ h4, tb_g h4⟩
    exact absurd hw List.not_mem_nil
  · exact go_O hT h w hw
theorem nmX0 : ∀ a, a < 6 → ∀ b, b < 6 → a ≠ b → (TX0 a).2.1 ≠ (TX0 b).2.1 := by decide +kernel
theorem okX0 : ∀ k, k < 6 → parseFieldDescriptor (TX0 k).2.2.1 = some (tyX0 k) := by decide +kernel
theorem inX0 : ∀ w ∈ u_ws RX0 TX0 6, w ∈ TBL := fun w h => List.mem_filter.mpr ((show ∀ w ∈ u_ws RX0 TX0 6, w ∈ lw_tbl ∧ goodWord w = true by decide +kernel) w h)
theorem iniX0 : Cond.initialized RX0 ∈ TBL := tb_of 22 (by decide +kernel) (by decide +kernel)
theorem instX0 : Cond.instantiable RX0 6 ∈ TBL := tb_of 94 (by decide +kernel) (by decide +kernel)
theorem nmX1 : ∀ a, a < 3 → ∀ b, b < 3 → a ≠ b → (TX1 a).2.1 ≠ (TX1 b).2.1 := by decide +kernel
theorem okX1 : ∀ k, k < 3 → parseFieldDescriptor (TX1 k).2.2.1 = some (tyX1 k) := by decide +kernel
theorem inX1 : ∀ w ∈ u_ws RX1 TX1 3, w ∈ TBL := fun w h => List.mem_filter.mpr ((show ∀ w ∈ u_ws RX1 TX1 3, w ∈ lw_tbl ∧ goodWord w = true by decide +kernel) w h)
theorem iniX1 : Cond.initialized RX1 ∈ TBL := tb_of 20 (by decide +kernel) (by decide +kernel)
theorem instX1 : Cond.instantiable RX1 3 ∈ TBL := tb_of 56 (by decide +kernel) (by decide +kernel)
theorem nmX2 : ∀ a, a < 3 → ∀ b, b < 3 → a ≠ b → (TX2 a).2.1 ≠ (TX2 b).2.1 := by decide +kernel
theorem okX2 : ∀ k, k < 3 → parseFieldDescriptor (TX2 k).2.2.1 = some (tyX2 k) := by decide +kernel
theorem inX2 : ∀ w ∈ u_ws RX2 TX2 3, w ∈ TBL := fun w h => List.mem_filter.mpr ((show ∀ w ∈ u_ws RX2 TX2 3, w ∈ lw_tbl ∧ goodWord w = true by decide +kernel) w h)
theorem iniX2 : Cond.initialized RX2 ∈ TBL := tb_of 18 (by decide +kernel) (by decide +kernel)
theorem instX2 : Cond.instantiable RX2 3 ∈ TBL := tb_of 35 (by decide +kernel) (by decide +kernel)
theorem nmX3 : ∀ a, a < 5 → ∀ b, b < 5 → a ≠ b → (TX3 a).2.1 ≠ (TX3 b).2.1 := by decide +kernel
theorem okX3 : ∀ k, k < 5 → parseFieldDescriptor (TX3 k).2.2.1 = some (tyX3 k) := by decide +kernel
theorem inX3 : ∀ w ∈ u_ws RX3 TX3 5, w ∈ TBL := fun w h => List.mem_filter.mpr ((show ∀ w ∈ u_ws RX3 TX3 5, w ∈ lw_tbl ∧ goodWord w = true by decide +kernel) w h)
theorem iniX3 : Cond.initialized RX3 ∈ TBL := tb_of 17 (by decide +kernel) (by decide +kernel)
theorem instX3 : Cond.instantiable RX3 5 ∈ TBL := tb_of 25 (by decide +kernel) (by decide +kernel)
theorem nmX4 : ∀ a, a < 14 → ∀ b, b < 14 → a ≠ b → (TX4 a).2.1 ≠ (TX4 b).2.1 := by decide +kernel
theorem okX4 : ∀ k, k < 14 → parseFieldDescriptor (TX4 k).2.2.1 = some (tyX4 k) := by decide +kernel
theorem inX4 : ∀ w ∈ u_ws RX4 TX4 14, w ∈ TBL := fun w h => List.mem_filter.mpr ((show ∀ w ∈ u_ws RX4 TX4 14, w ∈ lw_tbl ∧ goodWord w = true by decide +kernel) w h)
theorem iniX4 : Cond.initialized RX4 ∈ TBL := tb_of 21 (by decide +kernel) (by decide +kernel)
theorem instX4 : Cond.instantiable RX4 14 ∈ TBL := tb_of 271 (by decide +kernel) (by decide +kernel)
theorem iniJ7 : Cond.initialized RJ7 ∈ TBL := tb_of 19 (by decide +kernel) (by decide +kernel)
theorem iniMath : Cond.initialized "java/lang/Math" ∈ TBL := tb_of 23 (by decide +kernel) (by decide +kernel)
theorem arrI : Cond.arrayClass .int ∈ TBL := tb_of 54 (by decide +kernel) (by decide +kernel)
theorem arrZ : Cond.arrayClass .boolean ∈ TBL := tb_of 323 (by decide +kernel) (by decide +kernel)
theorem objI : Cond.instanceMethod objectInit ∈ TBL := tb_of 30 (by decide +kernel) (by decide +kernel)
theorem objC : Cond.code objectInit ⟨#[0xb1]⟩ 1 none ∈ TBL := tb_of 31 (by decide +kernel) (by decide +kernel)
theorem st_max : Cond.static Lib.Math.max.name ∈ TBL := tb_of 164 (by decide +kernel) (by decide +kernel)
theorem cd_max : Cond.code Lib.Math.max.name Lib.Math.max.code 2 (some .int) ∈ TBL := tb_of 165 (by decide +kernel) (by decide +kernel)
theorem st_min : Cond.static Lib.Math.min.name ∈ TBL := tb_of 202 (by decide +kernel) (by decide +kernel)
theorem cd_min : Cond.code Lib.Math.min.name Lib.Math.min.code 2 (some .int) ∈ TBL := tb_of 203 (by decide +kernel) (by decide +kernel)
theorem cdX3_init : Cond.code yX3_init cX3_init 1 none ∈ TBL := tb_of 28 (by decide +kernel) (by decide +kernel)
theorem imX3_init : Cond.instanceMethod yX3_init ∈ TBL := tb_of 27 (by decide +kernel) (by decide +kernel)
theorem cdX2_init : Cond.code yX2_init cX2_init 1 none ∈ TBL := tb_of 38 (by decide +kernel) (by decide +kernel)
theorem imX2_init : Cond.instanceMethod yX2_init ∈ TBL := tb_of 37 (by decide +kernel) (by decide +kernel)
theorem cdJ7_fill : Cond.code yJ7_fill cJ7_fill 4 none ∈ TBL := tb_of 42 (by decide +kernel) (by decide +kernel)
theorem stJ7_fill : Cond.static yJ7_fill ∈ TBL := tb_of 41 (by decide +kernel) (by decide +kernel)
theorem cdX1_init : Cond.code yX1_init cX1_init 1 none ∈ TBL := tb_of 59 (by decide +kernel) (by decide +kernel)
theorem imX1_init : Cond.instanceMethod yX1_init ∈ TBL := tb_of 58 (by decide +kernel) (by decide +kernel)
theorem cdX3_entry : Cond.code yX3_entry cX3_entry 1 (some .int) ∈ TBL := tb_of 93 (by decide +kernel) (by decide +kernel)
theorem imX3_entry : Cond.instanceMethod yX3_entry ∈ TBL := tb_of 91 (by decide +kernel) (by decide +kernel)
theorem seX3_entry : Cond.selects RX3 yX3_entry yX3_entry ∈ TBL := tb_of 92 (by decide +kernel) (by decide +kernel)
theorem cdX0_init : Cond.code yX0_init cX0_init 1 none ∈ TBL := tb_of 97 (by decide +kernel) (by decide +kernel)
theorem imX0_init : Cond.instanceMethod yX0_init ∈ TBL := tb_of 96 (by decide +kernel) (by decide +kernel)
theorem cdX3_letter : Cond.code yX3_letter cX3_letter 4 (some .int) ∈ TBL := tb_of 127 (by decide +kernel) (by decide +kernel)
theorem imX3_letter : Cond.instanceMethod yX3_letter ∈ TBL := tb_of 125 (by decide +kernel) (by decide +kernel)
theorem seX3_letter : Cond.selects RX3 yX3_letter yX3_letter ∈ TBL := tb_of 126 (by decide +kernel) (by decide +kernel)
theorem cdX3_living : Cond.code yX3_living cX3_living 3 (some (.object "WordTrees$Entry")) ∈ TBL := tb_of 131 (by decide +kernel) (by decide +kernel)
theorem imX3_living : Cond.instanceMethod yX3_living ∈ TBL := tb_of 130 (by decide +kernel) (by decide +kernel)
theorem seX3_living : Cond.selects RX3 yX3_living yX3_living ∈ TBL := tb_of 0 (by decide +kernel) (by decide +kernel)
theorem cdX3_isSign : Cond.code yX3_isSign cX3_isSign 1 (some .boolean) ∈ TBL := tb_of 134 (by decide +kernel) (by decide +kernel)
theorem stX3_isSign : Cond.static yX3_isSign ∈ TBL := tb_of 133 (by decide +kernel) (by decide +kernel)
theorem cdX0_append : Cond.code yX0_append cX0_append 2 (some .boolean) ∈ TBL := tb_of 138 (by decide +kernel) (by decide +kernel)
theorem imX0_append : Cond.instanceMethod yX0_append ∈ TBL := tb_of 136 (by decide +kernel) (by decide +kernel)
theorem seX0_append : Cond.selects RX0 yX0_append yX0_append ∈ TBL := tb_of 137 (by decide +kernel) (by decide +kernel)
theorem cdX3_drop : Cond.code yX3_drop cX3_drop 5 (some .int) ∈ TBL := tb_of 142 (by decide +kernel) (by decide +kernel)
theorem imX3_drop : Cond.instanceMethod yX3_drop ∈ TBL := tb_of 140 (by decide +kernel) (by decide +kernel)
theorem seX3_drop : Cond.selects RX3 yX3_drop yX3_drop ∈ TBL := tb_of 141 (by decide +kernel) (by decide +kernel)
theorem cdX3_countWithin : Cond.code yX3_countWithin cX3_countWithin 5 (some .int) ∈ TBL := tb_of 146 (by decide +kernel) (by decide +kernel)
theorem imX3_countWithin : Cond.instanceMethod yX3_countWithin ∈ TBL := tb_of 145 (by decide +kernel) (by decide +kernel)
theorem seX3_countWithin : Cond.selects RX3 yX3_countWithin yX3_countWithin ∈ TBL := tb_of 1 (by decide +kernel) (by decide +kernel)
theorem cdX0_isWithin : Cond.code yX0_isWithin cX0_isWithin 2 (some .boolean) ∈ TBL := tb_of 150 (by decide +kernel) (by decide +kernel)
theorem imX0_isWithin : Cond.instanceMethod yX0_isWithin ∈ TBL := tb_of 148 (by decide +kernel) (by decide +kernel)
theorem seX0_isWithin : Cond.selects RX0 yX0_isWithin yX0_isWithin ∈ TBL := tb_of 149 (by decide +kernel) (by decide +kernel)
theorem cdX3_cost : Cond.code yX3_cost cX3_cost 4 (some .int) ∈ TBL := tb_of 154 (by decide +kernel) (by decide +kernel)
theorem imX3_cost : Cond.instanceMethod yX3_cost ∈ TBL := tb_of 152 (by decide +kernel) (by decide +kernel)
theorem seX3_cost : Cond.selects RX3 yX3_cost yX3_cost ∈ TBL := tb_of 153 (by decide +kernel) (by decide +kernel)
theorem cdX2_tell : Cond.code yX2_tell cX2_tell 5 none ∈ TBL := tb_of 158 (by decide +kernel) (by decide +kernel)
theorem imX2_tell : Cond.instanceMethod yX2_tell ∈ TBL := tb_of 156 (by decide +kernel) (by decide +kernel)
theorem seX2_tell : Cond.selects RX2 yX2_tell yX2_tell ∈ TBL := tb_of 157 (by decide +kernel) (by decide +kernel)
theorem cdX2_indexOf : Cond.code yX2_indexOf cX2_indexOf 2 (some .int) ∈ TBL := tb_of 161 (by decide +kernel) (by decide +kernel)
theorem stX2_indexOf : Cond.static yX2_indexOf ∈ TBL := tb_of 160 (by decide +kernel) (by decide +kernel)
theorem cdX3_clear : Cond.code yX3_clear cX3_clear 2 (some .int) ∈ TBL := tb_of 169 (by decide +kernel) (by decide +kernel)
theorem imX3_clear : Cond.instanceMethod yX3_clear ∈ TBL := tb_of 167 (by decide +kernel) (by decide +kernel)
theorem seX3_clear : Cond.selects RX3 yX3_clear yX3_clear ∈ TBL := tb_of 168 (by decide +kernel) (by decide +kernel)
theorem cdX2_forget : Cond.code yX2_forget cX2_forget 1 none ∈ TBL := tb_of 173 (by decide +kernel) (by decide +kernel)
theorem imX2_forget : Cond.instanceMethod yX2_forget ∈ TBL := tb_of 171 (by decide +kernel) (by decide +kernel)
theorem seX2_forget : Cond.selects RX2 yX2_forget yX2_forget ∈ TBL := tb_of 172 (by decide +kernel) (by decide +kernel)
theorem cdX3_find : Cond.code yX3_find cX3_find 4 (some .int) ∈ TBL := tb_of 177 (by decide +kernel) (by decide +kernel)
theorem imX3_find : Cond.instanceMethod yX3_find ∈ TBL := tb_of 175 (by decide +kernel) (by decide +kernel)
theorem seX3_find : Cond.selects RX3 yX3_find yX3_find ∈ TBL := tb_of 176 (by decide +kernel) (by decide +kernel)
theorem cdX3_mayBeAsked : Cond.code yX3_mayBeAsked cX3_mayBeAsked 1 (some .boolean) ∈ TBL := tb_of 180 (by decide +kernel) (by decide +kernel)
theorem stX3_mayBeAsked : Cond.static yX3_mayBeAsked ∈ TBL := tb_of 179 (by decide +kernel) (by decide +kernel)
theorem cdX3_reckonSums : Cond.code yX3_reckonSums cX3_reckonSums 3 none ∈ TBL := tb_of 184 (by decide +kernel) (by decide +kernel)
theorem imX3_reckonSums : Cond.instanceMethod yX3_reckonSums ∈ TBL := tb_of 183 (by decide +kernel) (by decide +kernel)
theorem seX3_reckonSums : Cond.selects RX3 yX3_reckonSums yX3_reckonSums ∈ TBL := tb_of 2 (by decide +kernel) (by decide +kernel)
theorem cdX2_leastCostOf : Cond.code yX2_leastCostOf cX2_leastCostOf 3 (some .int) ∈ TBL := tb_of 188 (by decide +kernel) (by decide +kernel)
theorem imX2_leastCostOf : Cond.instanceMethod yX2_leastCostOf ∈ TBL := tb_of 186 (by decide +kernel) (by decide +kernel)
theorem seX2_leastCostOf : Cond.selects RX2 yX2_leastCostOf yX2_leastCostOf ∈ TBL := tb_of 187 (by decide +kernel) (by decide +kernel)
theorem cdX2_addSign : Cond.code yX2_addSign cX2_addSign 7 none ∈ TBL := tb_of 192 (by decide +kernel) (by decide +kernel)
theorem imX2_addSign : Cond.instanceMethod yX2_addSign ∈ TBL := tb_of 191 (by decide +kernel) (by decide +kernel)
theorem seX2_addSign : Cond.selects RX2 yX2_addSign yX2_addSign ∈ TBL := tb_of 3 (by decide +kernel) (by decide +kernel)
theorem cdX2_costAs : Cond.code yX2_costAs cX2_costAs 4 (some .int) ∈ TBL := tb_of 196 (by decide +kernel) (by decide +kernel)
theorem imX2_costAs : Cond.instanceMethod yX2_costAs ∈ TBL := tb_of 195 (by decide +kernel) (by decide +kernel)
theorem seX2_costAs : Cond.selects RX2 yX2_costAs yX2_costAs ∈ TBL := tb_of 4 (by decide +kernel) (by decide +kernel)
theorem cdX2_told : Cond.code yX2_told cX2_told 4 (some .int) ∈ TBL := tb_of 200 (by decide +kernel) (by decide +kernel)
theorem imX2_told : Cond.instanceMethod yX2_told ∈ TBL := tb_of 199 (by decide +kernel) (by decide +kernel)
theorem seX2_told : Cond.selects RX2 yX2_told yX2_told ∈ TBL := tb_of 5 (by decide +kernel) (by decide +kernel)
theorem cdX1_forget : Cond.code yX1_forget cX1_forget 1 none ∈ TBL := tb_of 208 (by decide +kernel) (by decide +kernel)
theorem imX1_forget : Cond.instanceMethod yX1_forget ∈ TBL := tb_of 206 (by decide +kernel) (by decide +kernel)
theorem seX1_forget : Cond.selects RX1 yX1_forget yX1_forget ∈ TBL := tb_of 207 (by decide +kernel) (by decide +kernel)
theorem cdX3_mayBeFound : Cond.code yX3_mayBeFound cX3_mayBeFound 2 (some .boolean) ∈ TBL := tb_of 212 (by decide +kernel) (by decide +kernel)
theorem imX3_mayBeFound : Cond.instanceMethod yX3_mayBeFound ∈ TBL := tb_of 211 (by decide +kernel) (by decide +kernel)
theorem seX3_mayBeFound : Cond.selects RX3 yX3_mayBeFound yX3_mayBeFound ∈ TBL := tb_of 6 (by decide +kernel) (by decide +kernel)
theorem cdX1_addBySum : Cond.code yX1_addBySum cX1_addBySum 4 none ∈ TBL := tb_of 216 (by decide +kernel) (by decide +kernel)
theorem imX1_addBySum : Cond.instanceMethod yX1_addBySum ∈ TBL := tb_of 214 (by decide +kernel) (by decide +kernel)
theorem seX1_addBySum : Cond.selects RX1 yX1_addBySum yX1_addBySum ∈ TBL := tb_of 215 (by decide +kernel) (by decide +kernel)
theorem cdX1_keepFirst : Cond.code yX1_keepFirst cX1_keepFirst 2 none ∈ TBL := tb_of 220 (by decide +kernel) (by decide +kernel)
theorem imX1_keepFirst : Cond.instanceMethod yX1_keepFirst ∈ TBL := tb_of 218 (by decide +kernel) (by decide +kernel)
theorem seX1_keepFirst : Cond.selects RX1 yX1_keepFirst yX1_keepFirst ∈ TBL := tb_of 219 (by decide +kernel) (by decide +kernel)
theorem cdX3_word : Cond.code yX3_word cX3_word 2 (some .int) ∈ TBL := tb_of 225 (by decide +kernel) (by decide +kernel)
theorem imX3_word : Cond.instanceMethod yX3_word ∈ TBL := tb_of 223 (by decide +kernel) (by decide +kernel)
theorem seX3_word : Cond.selects RX3 yX3_word yX3_word ∈ TBL := tb_of 224 (by decide +kernel) (by decide +kernel)
theorem cdX1_has : Cond.code yX1_has cX1_has 2 (some .boolean) ∈ TBL := tb_of 229 (by decide +kernel) (by decide +kernel)
theorem imX1_has : Cond.instanceMethod yX1_has ∈ TBL := tb_of 227 (by decide +kernel) (by decide +kernel)
theorem seX1_has : Cond.selects RX1 yX1_has yX1_has ∈ TBL := tb_of 228 (by decide +kernel) (by decide +kernel)
theorem cdX3_sum : Cond.code yX3_sum cX3_sum 2 (some .long) ∈ TBL := tb_of 233 (by decide +kernel) (by decide +kernel)
theorem imX3_sum : Cond.instanceMethod yX3_sum ∈ TBL := tb_of 231 (by decide +kernel) (by decide +kernel)
theorem seX3_sum : Cond.selects RX3 yX3_sum yX3_sum ∈ TBL := tb_of 232 (by decide +kernel) (by decide +kernel)
theorem cdX3_within : Cond.code yX3_within cX3_within 4 (some .int) ∈ TBL := tb_of 238 (by decide +kernel) (by decide +kernel)
theorem imX3_within : Cond.instanceMethod yX3_within ∈ TBL := tb_of 236 (by decide +kernel) (by decide +kernel)
theorem seX3_within : Cond.selects RX3 yX3_within yX3_within ∈ TBL := tb_of 237 (by decide +kernel) (by decide +kernel)
theorem cdX3_lookAt : Cond.code yX3_lookAt cX3_lookAt 2 (some .int) ∈ TBL := tb_of 242 (by decide +kernel) (by decide +kernel)
theorem imX3_lookAt : Cond.instanceMethod yX3_lookAt ∈ TBL := tb_of 241 (by decide +kernel) (by decide +kernel)
theorem seX3_lookAt : Cond.selects RX3 yX3_lookAt yX3_lookAt ∈ TBL := tb_of 7 (by decide +kernel) (by decide +kernel)
theorem cdX3_isGroup : Cond.code yX3_isGroup cX3_isGroup 1 (some .boolean) ∈ TBL := tb_of 245 (by decide +kernel) (by decide +kernel)
theorem stX3_isGroup : Cond.static yX3_isGroup ∈ TBL := tb_of 244 (by decide +kernel) (by decide +kernel)
theorem cdX0_join : Cond.code yX0_join cX0_join 2 none ∈ TBL := tb_of 249 (by decide +kernel) (by decide +kernel)
theorem imX0_join : Cond.instanceMethod yX0_join ∈ TBL := tb_of 247 (by decide +kernel) (by decide +kernel)
theorem seX0_join : Cond.selects RX0 yX0_join yX0_join ∈ TBL := tb_of 248 (by decide +kernel) (by decide +kernel)
theorem cdX3_abbreviation : Cond.code yX3_abbreviation cX3_abbreviation 5 (some .int) ∈ TBL := tb_of 253 (by decide +kernel) (by decide +kernel)
theorem imX3_abbreviation : Cond.instanceMethod yX3_abbreviation ∈ TBL := tb_of 251 (by decide +kernel) (by decide +kernel)
theorem seX3_abbreviation : Cond.selects RX3 yX3_abbreviation yX3_abbreviation ∈ TBL := tb_of 252 (by decide +kernel) (by decide +kernel)
theorem cdX3_countAbbreviations : Cond.code yX3_countAbbreviations cX3_countAbbreviations 5 (some .int) ∈ TBL := tb_of 257 (by decide +kernel) (by decide +kernel)
theorem imX3_countAbbreviations : Cond.instanceMethod yX3_countAbbreviations ∈ TBL := tb_of 256 (by decide +kernel) (by decide +kernel)
theorem seX3_countAbbreviations : Cond.selects RX3 yX3_countAbbreviations yX3_countAbbreviations ∈ TBL := tb_of 8 (by decide +kernel) (by decide +kernel)
theorem cdX3_plain : Cond.code yX3_plain cX3_plain 4 (some .int) ∈ TBL := tb_of 261 (by decide +kernel) (by decide +kernel)
theorem imX3_plain : Cond.instanceMethod yX3_plain ∈ TBL := tb_of 259 (by decide +kernel) (by decide +kernel)
theorem seX3_plain : Cond.selects RX3 yX3_plain yX3_plain ∈ TBL := tb_of 260 (by decide +kernel) (by decide +kernel)
theorem cdX2_spells : Cond.code yX2_spells cX2_spells 3 (some .boolean) ∈ TBL := tb_of 265 (by decide +kernel) (by decide +kernel)
theorem imX2_spells : Cond.instanceMethod yX2_spells ∈ TBL := tb_of 263 (by decide +kernel) (by decide +kernel)
theorem seX2_spells : Cond.selects RX2 yX2_spells yX2_spells ∈ TBL := tb_of 264 (by decide +kernel) (by decide +kernel)
theorem cdX1_addLast : Cond.code yX1_addLast cX1_addLast 3 none ∈ TBL := tb_of 269 (by decide +kernel) (by decide +kernel)
theorem imX1_addLast : Cond.instanceMethod yX1_addLast ∈ TBL := tb_of 267 (by decide +kernel) (by decide +kernel)
theorem seX1_addLast : Cond.selects RX1 yX1_addLast yX1_addLast ∈ TBL := tb_of 268 (by decide +kernel) (by decide +kernel)
theorem cdX4_init : Cond.code yX4_init cX4_init 1 none ∈ TBL := tb_of 274 (by decide +kernel) (by decide +kernel)
theorem imX4_init : Cond.instanceMethod yX4_init ∈ TBL := tb_of 273 (by decide +kernel) (by decide +kernel)
theorem cdX4_forget : Cond.code yX4_forget cX4_forget 2 none ∈ TBL := tb_of 279 (by decide +kernel) (by decide +kernel)
theorem imX4_forget : Cond.instanceMethod yX4_forget ∈ TBL := tb_of 278 (by decide +kernel) (by decide +kernel)
theorem seX4_forget : Cond.selects RX4 yX4_forget yX4_forget ∈ TBL := tb_of 9 (by decide +kernel) (by decide +kernel)
theorem cdX4_entry : Cond.code yX4_entry cX4_entry 1 (some .int) ∈ TBL := tb_of 327 (by decide +kernel) (by decide +kernel)
theorem imX4_entry : Cond.instanceMethod yX4_entry ∈ TBL := tb_of 325 (by decide +kernel) (by decide +kernel)
theorem seX4_entry : Cond.selects RX4 yX4_entry yX4_entry ∈ TBL := tb_of 326 (by decide +kernel) (by decide +kernel)
theorem cdX4_letter : Cond.code yX4_letter cX4_letter 3 (some .int) ∈ TBL := tb_of 331 (by decide +kernel) (by decide +kernel)
theorem imX4_letter : Cond.instanceMethod yX4_letter ∈ TBL := tb_of 329 (by decide +kernel) (by decide +kernel)
theorem seX4_letter : Cond.selects RX4 yX4_letter yX4_letter ∈ TBL := tb_of 330 (by decide +kernel) (by decide +kernel)
theorem cdX4_isEntry : Cond.code yX4_isEntry cX4_isEntry 2 (some .boolean) ∈ TBL := tb_of 335 (by decide +kernel) (by decide +kernel)
theorem imX4_isEntry : Cond.instanceMethod yX4_isEntry ∈ TBL := tb_of 334 (by decide +kernel) (by decide +kernel)
theorem seX4_isEntry : Cond.selects RX4 yX4_isEntry yX4_isEntry ∈ TBL := tb_of 10 (by decide +kernel) (by decide +kernel)
theorem cdX4_between : Cond.code yX4_between cX4_between 3 (some .boolean) ∈ TBL := tb_of 338 (by decide +kernel) (by decide +kernel)
theorem stX4_between : Cond.static yX4_between ∈ TBL := tb_of 337 (by decide +kernel) (by decide +kernel)
theorem cdX4_drop : Cond.code yX4_drop cX4_drop 3 (some .int) ∈ TBL := tb_of 342 (by decide +kernel) (by decide +kernel)
theorem imX4_drop : Cond.instanceMethod yX4_drop ∈ TBL := tb_of 340 (by decide +kernel) (by decide +kernel)
theorem seX4_drop : Cond.selects RX4 yX4_drop yX4_drop ∈ TBL := tb_of 341 (by decide +kernel) (by decide +kernel)
theorem cdX4_count : Cond.code yX4_count cX4_count 3 (some .int) ∈ TBL := tb_of 346 (by decide +kernel) (by decide +kernel)
theorem imX4_count : Cond.instanceMethod yX4_count ∈ TBL := tb_of 345 (by decide +kernel) (by decide +kernel)
theorem seX4_count : Cond.selects RX4 yX4_count yX4_count ∈ TBL := tb_of 11 (by decide +kernel) (by decide +kernel)
theorem cdX4_cost : Cond.code yX4_cost cX4_cost 4 (some .int) ∈ TBL := tb_of 350 (by decide +kernel) (by decide +kernel)
theorem imX4_cost : Cond.instanceMethod yX4_cost ∈ TBL := tb_of 348 (by decide +kernel) (by decide +kernel)
theorem seX4_cost : Cond.selects RX4 yX4_cost yX4_cost ∈ TBL := tb_of 349 (by decide +kernel) (by decide +kernel)
theorem cdX4_clear : Cond.code yX4_clear cX4_clear 2 (some .int) ∈ TBL := tb_of 354 (by decide +kernel) (by decide +kernel)
theorem imX4_clear : Cond.instanceMethod yX4_clear ∈ TBL := tb_of 352 (by decide +kernel) (by decide +kernel)
theorem seX4_clear : Cond.selects RX4 yX4_clear yX4_clear ∈ TBL := tb_of 353 (by decide +kernel) (by decide +kernel)
theorem cdX4_find : Cond.code yX4_find cX4_find 10 (some .int) ∈ TBL := tb_of 358 (by decide +kernel) (by decide +kernel)
theorem imX4_find : Cond.instanceMethod yX4_find ∈ TBL := tb_of 356 (by decide +kernel) (by decide +kernel)
theorem seX4_find : Cond.selects RX4 yX4_find yX4_find ∈ TBL := tb_of 357 (by decide +kernel) (by decide +kernel)
theorem cdX4_mayBeFound : Cond.code yX4_mayBeFound cX4_mayBeFound 2 (some .boolean) ∈ TBL := tb_of 362 (by decide +kernel) (by decide +kernel)
theorem imX4_mayBeFound : Cond.instanceMethod yX4_mayBeFound ∈ TBL := tb_of 361 (by decide +kernel) (by decide +kernel)
theorem seX4_mayBeFound : Cond.selects RX4 yX4_mayBeFound yX4_mayBeFound ∈ TBL := tb_of 12 (by decide +kernel) (by decide +kernel)
theorem cdX4_sumOf : Cond.code yX4_sumOf cX4_sumOf 5 (some .int) ∈ TBL := tb_of 366 (by decide +kernel) (by decide +kernel)
theorem imX4_sumOf : Cond.instanceMethod yX4_sumOf ∈ TBL := tb_of 365 (by decide +kernel) (by decide +kernel)
theorem seX4_sumOf : Cond.selects RX4 yX4_sumOf yX4_sumOf ∈ TBL := tb_of 13 (by decide +kernel) (by decide +kernel)
theorem cdX4_ownSum : Cond.code yX4_ownSum cX4_ownSum 7 (some .int) ∈ TBL := tb_of 370 (by decide +kernel) (by decide +kernel)
theorem imX4_ownSum : Cond.instanceMethod yX4_ownSum ∈ TBL := tb_of 369 (by decide +kernel) (by decide +kernel)
theorem seX4_ownSum : Cond.selects RX4 yX4_ownSum yX4_ownSum ∈ TBL := tb_of 14 (by decide +kernel) (by decide +kernel)
theorem cdX4_word : Cond.code yX4_word cX4_word 2 (some .int) ∈ TBL := tb_of 375 (by decide +kernel) (by decide +kernel)
theorem imX4_word : Cond.instanceMethod yX4_word ∈ TBL := tb_of 373 (by decide +kernel) (by decide +kernel)
theorem seX4_word : Cond.selects RX4 yX4_word yX4_word ∈ TBL := tb_of 374 (by decide +kernel) (by decide +kernel)
theorem cdX4_sum : Cond.code yX4_sum cX4_sum 2 (some .long) ∈ TBL := tb_of 379 (by decide +kernel) (by decide +kernel)
theorem imX4_sum : Cond.instanceMethod yX4_sum ∈ TBL := tb_of 377 (by decide +kernel) (by decide +kernel)
theorem seX4_sum : Cond.selects RX4 yX4_sum yX4_sum ∈ TBL := tb_of 378 (by decide +kernel) (by decide +kernel)
theorem cdX4_within : Cond.code yX4_within cX4_within 5 (some .int) ∈ TBL := tb_of 384 (by decide +kernel) (by decide +kernel)
theorem imX4_within : Cond.instanceMethod yX4_within ∈ TBL := tb_of 382 (by decide +kernel) (by decide +kernel)
theorem seX4_within : Cond.selects RX4 yX4_within yX4_within ∈ TBL := tb_of 383 (by decide +kernel) (by decide +kernel)
theorem cdX4_abbreviation : Cond.code yX4_abbreviation cX4_abbreviation 3 (some .int) ∈ TBL := tb_of 388 (by decide +kernel) (by decide +kernel)
theorem imX4_abbreviation : Cond.instanceMethod yX4_abbreviation ∈ TBL := tb_of 386 (by decide +kernel) (by decide +kernel)
theorem seX4_abbreviation : Cond.selects RX4 yX4_abbreviation yX4_abbreviation ∈ TBL := tb_of 387 (by decide +kernel) (by decide +kernel)
theorem cdX4_abbreviations : Cond.code yX4_abbreviations cX4_abbreviations 4 (some .int) ∈ TBL := tb_of 392 (by decide +kernel) (by decide +kernel)
theorem imX4_abbreviations : Cond.instanceMethod yX4_abbreviations ∈ TBL := tb_of 391 (by decide +kernel) (by decide +kernel)
theorem seX4_abbreviations : Cond.selects RX4 yX4_abbreviations yX4_abbreviations ∈ TBL := tb_of 15 (by decide +kernel) (by decide +kernel)
theorem cdX4_plain : Cond.code yX4_plain cX4_plain 6 (some .int) ∈ TBL := tb_of 396 (by decide +kernel) (by decide +kernel)
theorem imX4_plain : Cond.instanceMethod yX4_plain ∈ TBL := tb_of 394 (by decide +kernel) (by decide +kernel)
theorem seX4_plain : Cond.selects RX4 yX4_plain yX4_plain ∈ TBL := tb_of 395 (by decide +kernel) (by decide +kernel)
theorem mlX3_1 : Cond.methodLink RX3 1 objectInit ∈ TBL := tb_of 29 (by decide +kernel) (by decide +kernel)
theorem clX3_9 : Cond.classLink RX3 9 RX0 ∈ TBL := tb_of 32 (by decide +kernel) (by decide +kernel)
theorem lkX3_11 : Cond.fieldLink RX3 11 (TX3 0).1 (TX3 0).2.1 (TX3 0).2.2.1 ∈ TBL := tb_of 74 (by decide +kernel) (by decide +kernel)
theorem lkX3_15 : Cond.fieldLink RX3 15 (TX3 1).1 (TX3 1).2.1 (TX3 1).2.2.1 ∈ TBL := tb_of 75 (by decide +kernel) (by decide +kernel)
theorem clX3_19 : Cond.classLink RX3 19 RX2 ∈ TBL := tb_of 34 (by decide +kernel) (by decide +kernel)
theorem mlX3_21 : Cond.methodLink RX3 21 yX2_init ∈ TBL := tb_of 36 (by decide +kernel) (by decide +kernel)
theorem lkX3_22 : Cond.fieldLink RX3 22 (TX3 2).1 (TX3 2).2.1 (TX3 2).2.2.1 ∈ TBL := tb_of 76 (by decide +kernel) (by decide +kernel)
theorem clX3_26 : Cond.classLink RX3 26 RX1 ∈ TBL := tb_of 55 (by decide +kernel) (by decide +kernel)
theorem mlX3_28 : Cond.methodLink RX3 28 yX1_init ∈ TBL := tb_of 57 (by decide +kernel) (by decide +kernel)
theorem lkX3_29 : Cond.fieldLink RX3 29 (TX3 3).1 (TX3 3).2.1 (TX3 3).2.2.1 ∈ TBL := tb_of 77 (by decide +kernel) (by decide +kernel)
theorem lkX3_33 : Cond.fieldLink RX3 33 (TX3 4).1 (TX3 4).2.1 (TX3 4).2.2.1 ∈ TBL := tb_of 78 (by decide +kernel) (by decide +kernel)
theorem mlX3_36 : Cond.methodLink RX3 36 yX0_init ∈ TBL := tb_of 95 (by decide +kernel) (by decide +kernel)
theorem mlX3_37 : Cond.methodLink RX3 37 yX3_living ∈ TBL := tb_of 128 (by decide +kernel) (by decide +kernel)
theorem mlX3_41 : Cond.methodLink RX3 41 yX3_isSign ∈ TBL := tb_of 132 (by decide +kernel) (by decide +kernel)
theorem mlX3_45 : Cond.methodLink RX3 45 yX0_append ∈ TBL := tb_of 135 (by decide +kernel) (by decide +kernel)
theorem lkX3_48 : Cond.fieldLink RX3 48 (TX0 1).1 (TX0 1).2.1 (TX0 1).2.2.1 ∈ TBL := tb_of 102 (by decide +kernel) (by decide +kernel)
theorem lkX3_51 : Cond.fieldLink RX3 51 (TX0 3).1 (TX0 3).2.1 (TX0 3).2.2.1 ∈ TBL := tb_of 106 (by decide +kernel) (by decide +kernel)
theorem lkX3_55 : Cond.fieldLink RX3 55 (TX0 4).1 (TX0 4).2.1 (TX0 4).2.2.1 ∈ TBL := tb_of 108 (by decide +kernel) (by decide +kernel)
theorem mlX3_59 : Cond.methodLink RX3 59 yX3_countWithin ∈ TBL := tb_of 143 (by decide +kernel) (by decide +kernel)
theorem mlX3_63 : Cond.methodLink RX3 63 yX2_tell ∈ TBL := tb_of 155 (by decide +kernel) (by decide +kernel)
theorem lkX3_67 : Cond.fieldLink RX3 67 (TX2 2).1 (TX2 2).2.1 (TX2 2).2.2.1 ∈ TBL := tb_of 46 (by decide +kernel) (by decide +kernel)
theorem mlX3_70 : Cond.methodLink RX3 70 yX2_forget ∈ TBL := tb_of 170 (by decide +kernel) (by decide +kernel)
theorem mlX3_73 : Cond.methodLink RX3 73 yX3_mayBeAsked ∈ TBL := tb_of 178 (by decide +kernel) (by decide +kernel)
theorem mlX3_76 : Cond.methodLink RX3 76 yX3_reckonSums ∈ TBL := tb_of 181 (by decide +kernel) (by decide +kernel)
theorem mlX3_79 : Cond.methodLink RX3 79 yX1_forget ∈ TBL := tb_of 205 (by decide +kernel) (by decide +kernel)
theorem mlX3_80 : Cond.methodLink RX3 80 yX3_mayBeFound ∈ TBL := tb_of 209 (by decide +kernel) (by decide +kernel)
theorem lkX3_84 : Cond.fieldLink RX3 84 (TX0 5).1 (TX0 5).2.1 (TX0 5).2.2.1 ∈ TBL := tb_of 110 (by decide +kernel) (by decide +kernel)
theorem mlX3_87 : Cond.methodLink RX3 87 yX1_addBySum ∈ TBL := tb_of 213 (by decide +kernel) (by decide +kernel)
theorem mlX3_91 : Cond.methodLink RX3 91 yX1_keepFirst ∈ TBL := tb_of 217 (by decide +kernel) (by decide +kernel)
theorem lkX3_95 : Cond.fieldLink RX3 95 (TX1 2).1 (TX1 2).2.1 (TX1 2).2.2.1 ∈ TBL := tb_of 66 (by decide +kernel) (by decide +kernel)
theorem mlX3_98 : Cond.methodLink RX3 98 yX1_has ∈ TBL := tb_of 226 (by decide +kernel) (by decide +kernel)
theorem lkX3_101 : Cond.fieldLink RX3 101 (TX1 0).1 (TX1 0).2.1 (TX1 0).2.2.1 ∈ TBL := tb_of 62 (by decide +kernel) (by decide +kernel)
theorem lkX3_105 : Cond.fieldLink RX3 105 (TX1 1).1 (TX1 1).2.1 (TX1 1).2.2.1 ∈ TBL := tb_of 64 (by decide +kernel) (by decide +kernel)
theorem klX3_108 : Cond.constantLong RX3 108 (-1) ∈ TBL := tb_of 234 (by decide +kernel) (by decide +kernel)
theorem mlX3_110 : Cond.methodLink RX3 110 yX3_lookAt ∈ TBL := tb_of 239 (by decide +kernel) (by decide +kernel)
theorem mlX3_113 : Cond.methodLink RX3 113 yX3_isGroup ∈ TBL := tb_of 243 (by decide +kernel) (by decide +kernel)
theorem mlX3_116 : Cond.methodLink RX3 116 yX0_join ∈ TBL := tb_of 246 (by decide +kernel) (by decide +kernel)
theorem mlX3_119 : Cond.methodLink RX3 119 yX3_countAbbreviations ∈ TBL := tb_of 254 (by decide +kernel) (by decide +kernel)
theorem mlX3_123 : Cond.methodLink RX3 123 yX2_spells ∈ TBL := tb_of 262 (by decide +kernel) (by decide +kernel)
theorem mlX3_126 : Cond.methodLink RX3 126 yX1_addLast ∈ TBL := tb_of 266 (by decide +kernel) (by decide +kernel)
theorem mlX3_129 : Cond.methodLink RX3 129 yX0_isWithin ∈ TBL := tb_of 147 (by decide +kernel) (by decide +kernel)
theorem mlX3_132 : Cond.methodLink RX3 132 yX2_leastCostOf ∈ TBL := tb_of 185 (by decide +kernel) (by decide +kernel)
theorem mlX3_135 : Cond.methodLink RX3 135 Lib.Math.min.name ∈ TBL := tb_of 204 (by decide +kernel) (by decide +kernel)
theorem mlX4_1 : Cond.methodLink RX4 1 objectInit ∈ TBL := tb_of 275 (by decide +kernel) (by decide +kernel)
theorem lkX4_7 : Cond.fieldLink RX4 7 (TX4 1).1 (TX4 1).2.1 (TX4 1).2.2.1 ∈ TBL := tb_of 281 (by decide +kernel) (by decide +kernel)
theorem lkX4_13 : Cond.fieldLink RX4 13 (TX4 2).1 (TX4 2).2.1 (TX4 2).2.2.1 ∈ TBL := tb_of 282 (by decide +kernel) (by decide +kernel)
theorem lkX4_17 : Cond.fieldLink RX4 17 (TX4 3).1 (TX4 3).2.1 (TX4 3).2.2.1 ∈ TBL := tb_of 283 (by decide +kernel) (by decide +kernel)
theorem lkX4_20 : Cond.fieldLink RX4 20 (TX4 4).1 (TX4 4).2.1 (TX4 4).2.2.1 ∈ TBL := tb_of 284 (by decide +kernel) (by decide +kernel)
theorem lkX4_23 : Cond.fieldLink RX4 23 (TX4 5).1 (TX4 5).2.1 (TX4 5).2.2.1 ∈ TBL := tb_of 285 (by decide +kernel) (by decide +kernel)
theorem lkX4_26 : Cond.fieldLink RX4 26 (TX4 6).1 (TX4 6).2.1 (TX4 6).2.2.1 ∈ TBL := tb_of 286 (by decide +kernel) (by decide +kernel)
theorem lkX4_30 : Cond.fieldLink RX4 30 (TX4 8).1 (TX4 8).2.1 (TX4 8).2.2.1 ∈ TBL := tb_of 288 (by decide +kernel) (by decide +kernel)
theorem lkX4_33 : Cond.fieldLink RX4 33 (TX4 9).1 (TX4 9).2.1 (TX4 9).2.2.1 ∈ TBL := tb_of 289 (by decide +kernel) (by decide +kernel)
theorem lkX4_36 : Cond.fieldLink RX4 36 (TX4 11).1 (TX4 11).2.1 (TX4 11).2.2.1 ∈ TBL := tb_of 291 (by decide +kernel) (by decide +kernel)
theorem lkX4_39 : Cond.fieldLink RX4 39 (TX4 12).1 (TX4 12).2.1 (TX4 12).2.2.1 ∈ TBL := tb_of 292 (by decide +kernel) (by decide +kernel)
theorem lkX4_42 : Cond.fieldLink RX4 42 (TX4 13).1 (TX4 13).2.1 (TX4 13).2.2.1 ∈ TBL := tb_of 293 (by decide +kernel) (by decide +kernel)
theorem mlX4_45 : Cond.methodLink RX4 45 yX4_forget ∈ TBL := tb_of 276 (by decide +kernel) (by decide +kernel)
theorem lkX4_48 : Cond.fieldLink RX4 48 (TX4 7).1 (TX4 7).2.1 (TX4 7).2.2.1 ∈ TBL := tb_of 287 (by decide +kernel) (by decide +kernel)
theorem lkX4_51 : Cond.fieldLink RX4 51 (TX4 0).1 (TX4 0).2.1 (TX4 0).2.2.1 ∈ TBL := tb_of 280 (by decide +kernel) (by decide +kernel)
theorem mlX4_54 : Cond.methodLink RX4 54 yX4_between ∈ TBL := tb_of 336 (by decide +kernel) (by decide +kernel)
theorem mlX4_58 : Cond.methodLink RX4 58 yX4_isEntry ∈ TBL := tb_of 332 (by decide +kernel) (by decide +kernel)
theorem mlX4_62 : Cond.methodLink RX4 62 yX4_count ∈ TBL := tb_of 343 (by decide +kernel) (by decide +kernel)
theorem kcX4_66 : Cond.constant RX4 66 (nI 1000000) ∈ TBL := tb_of 371 (by decide +kernel) (by decide +kernel)
theorem mlX4_67 : Cond.methodLink RX4 67 yX4_ownSum ∈ TBL := tb_of 367 (by decide +kernel) (by decide +kernel)
theorem lkX4_71 : Cond.fieldLink RX4 71 (TX4 10).1 (TX4 10).2.1 (TX4 10).2.2.1 ∈ TBL := tb_of 290 (by decide +kernel) (by decide +kernel)
theorem mlX4_74 : Cond.methodLink RX4 74 yX4_mayBeFound ∈ TBL := tb_of 359 (by decide +kernel) (by decide +kernel)
theorem mlX4_77 : Cond.methodLink RX4 77 yX4_sumOf ∈ TBL := tb_of 363 (by decide +kernel) (by decide +kernel)
theorem klX4_80 : Cond.constantLong RX4 80 (-1) ∈ TBL := tb_of 380 (by decide +kernel) (by decide +kernel)
theorem mlX4_82 : Cond.methodLink RX4 82 yX4_abbreviations ∈ TBL := tb_of 389 (by decide +kernel) (by decide +kernel)
theorem mlX0_3 : Cond.methodLink RX0 3 objectInit ∈ TBL := tb_of 98 (by decide +kernel) (by decide +kernel)
theorem lkX0_9 : Cond.fieldLink RX0 9 (TX0 0).1 (TX0 0).2.1 (TX0 0).2.2.1 ∈ TBL := tb_of 99 (by decide +kernel) (by decide +kernel)
theorem lkX0_15 : Cond.fieldLink RX0 15 (TX0 1).1 (TX0 1).2.1 (TX0 1).2.2.1 ∈ TBL := tb_of 101 (by decide +kernel) (by decide +kernel)
theorem lkX0_19 : Cond.fieldLink RX0 19 (TX0 2).1 (TX0 2).2.1 (TX0 2).2.2.1 ∈ TBL := tb_of 104 (by decide +kernel) (by decide +kernel)
theorem lkX0_22 : Cond.fieldLink RX0 22 (TX0 3).1 (TX0 3).2.1 (TX0 3).2.2.1 ∈ TBL := tb_of 105 (by decide +kernel) (by decide +kernel)
theorem lkX0_26 : Cond.fieldLink RX0 26 (TX0 4).1 (TX0 4).2.1 (TX0 4).2.2.1 ∈ TBL := tb_of 107 (by decide +kernel) (by decide +kernel)
theorem lkX0_30 : Cond.fieldLink RX0 30 (TX0 5).1 (TX0 5).2.1 (TX0 5).2.2.1 ∈ TBL := tb_of 109 (by decide +kernel) (by decide +kernel)
theorem mlX1_3 : Cond.methodLink RX1 3 objectInit ∈ TBL := tb_of 60 (by decide +kernel) (by decide +kernel)
theorem lkX1_9 : Cond.fieldLink RX1 9 (TX1 0).1 (TX1 0).2.1 (TX1 0).2.2.1 ∈ TBL := tb_of 61 (by decide +kernel) (by decide +kernel)
theorem lkX1_15 : Cond.fieldLink RX1 15 (TX1 1).1 (TX1 1).2.1 (TX1 1).2.2.1 ∈ TBL := tb_of 63 (by decide +kernel) (by decide +kernel)
theorem lkX1_18 : Cond.fieldLink RX1 18 (TX1 2).1 (TX1 2).2.1 (TX1 2).2.2.1 ∈ TBL := tb_of 65 (by decide +kernel) (by decide +kernel)
theorem mlX1_22 : Cond.methodLink RX1 22 Lib.Math.min.name ∈ TBL := tb_of 221 (by decide +kernel) (by decide +kernel)
theorem mlX2_3 : Cond.methodLink RX2 3 objectInit ∈ TBL := tb_of 39 (by decide +kernel) (by decide +kernel)
theorem lkX2_11 : Cond.fieldLink RX2 11 (TX2 0).1 (TX2 0).2.1 (TX2 0).2.2.1 ∈ TBL := tb_of 43 (by decide +kernel) (by decide +kernel)
theorem mlX2_15 : Cond.methodLink RX2 15 yJ7_fill ∈ TBL := tb_of 40 (by decide +kernel) (by decide +kernel)
theorem lkX2_21 : Cond.fieldLink RX2 21 (TX2 1).1 (TX2 1).2.1 (TX2 1).2.2.1 ∈ TBL := tb_of 44 (by decide +kernel) (by decide +kernel)
theorem lkX2_24 : Cond.fieldLink RX2 24 (TX2 2).1 (TX2 2).2.1 (TX2 2).2.2.1 ∈ TBL := tb_of 45 (by decide +kernel) (by decide +kernel)
theorem mlX2_28 : Cond.methodLink RX2 28 yX2_indexOf ∈ TBL := tb_of 159 (by decide +kernel) (by decide +kernel)
theorem mlX2_32 : Cond.methodLink RX2 32 Lib.Math.max.name ∈ TBL := tb_of 163 (by decide +kernel) (by decide +kernel)
theorem lkX2_37 : Cond.fieldLink RX2 37 (TX0 1).1 (TX0 1).2.1 (TX0 1).2.2.1 ∈ TBL := tb_of 103 (by decide +kernel) (by decide +kernel)
theorem lkX2_42 : Cond.fieldLink RX2 42 (TX0 0).1 (TX0 0).2.1 (TX0 0).2.2.1 ∈ TBL := tb_of 100 (by decide +kernel) (by decide +kernel)
theorem mlX2_45 : Cond.methodLink RX2 45 yX2_told ∈ TBL := tb_of 197 (by decide +kernel) (by decide +kernel)
theorem mlX2_48 : Cond.methodLink RX2 48 yX2_addSign ∈ TBL := tb_of 189 (by decide +kernel) (by decide +kernel)
theorem mlX2_52 : Cond.methodLink RX2 52 yX2_costAs ∈ TBL := tb_of 193 (by decide +kernel) (by decide +kernel)
theorem mlX2_55 : Cond.methodLink RX2 55 Lib.Math.min.name ∈ TBL := tb_of 201 (by decide +kernel) (by decide +kernel)
theorem clL_7 : Cond.classLink RL 7 RX3 ∈ TBL := tb_of 24 (by decide +kernel) (by decide +kernel)
theorem mlL_9 : Cond.methodLink RL 9 yX3_init ∈ TBL := tb_of 26 (by decide +kernel) (by decide +kernel)
theorem clL_10 : Cond.classLink RL 10 RX4 ∈ TBL := tb_of 270 (by decide +kernel) (by decide +kernel)
theorem mlL_12 : Cond.methodLink RL 12 yX4_init ∈ TBL := tb_of 272 (by decide +kernel) (by decide +kernel)
theorem mlL_13 : Cond.methodLink RL 13 yX3_entry ∈ TBL := tb_of 90 (by decide +kernel) (by decide +kernel)
theorem mlL_17 : Cond.methodLink RL 17 yX4_entry ∈ TBL := tb_of 324 (by decide +kernel) (by decide +kernel)
theorem mlL_18 : Cond.methodLink RL 18 yX3_letter ∈ TBL := tb_of 124 (by decide +kernel) (by decide +kernel)
theorem mlL_22 : Cond.methodLink RL 22 yX4_letter ∈ TBL := tb_of 328 (by decide +kernel) (by decide +kernel)
theorem mlL_23 : Cond.methodLink RL 23 yX3_drop ∈ TBL := tb_of 139 (by decide +kernel) (by decide +kernel)
theorem mlL_27 : Cond.methodLink RL 27 yX4_drop ∈ TBL := tb_of 339 (by decide +kernel) (by decide +kernel)
theorem mlL_28 : Cond.methodLink RL 28 yX3_cost ∈ TBL := tb_of 151 (by decide +kernel) (by decide +kernel)
theorem mlL_32 : Cond.methodLink RL 32 yX4_cost ∈ TBL := tb_of 347 (by decide +kernel) (by decide +kernel)
theorem mlL_33 : Cond.methodLink RL 33 yX3_clear ∈ TBL := tb_of 166 (by decide +kernel) (by decide +kernel)
theorem mlL_36 : Cond.methodLink RL 36 yX4_clear ∈ TBL := tb_of 351 (by decide +kernel) (by decide +kernel)
theorem mlL_37 : Cond.methodLink RL 37 yX3_find ∈ TBL := tb_of 174 (by decide +kernel) (by decide +kernel)
theorem mlL_40 : Cond.methodLink RL 40 yX4_find ∈ TBL := tb_of 355 (by decide +kernel) (by decide +kernel)
theorem mlL_41 : Cond.methodLink RL 41 yX3_word ∈ TBL := tb_of 222 (by decide +kernel) (by decide +kernel)
theorem mlL_44 : Cond.methodLink RL 44 yX4_word ∈ TBL := tb_of 372 (by decide +kernel) (by decide +kernel)
theorem mlL_45 : Cond.methodLink RL 45 yX3_sum ∈ TBL := tb_of 230 (by decide +kernel) (by decide +kernel)
theorem mlL_49 : Cond.methodLink RL 49 yX4_sum ∈ TBL := tb_of 376 (by decide +kernel) (by decide +kernel)
theorem mlL_50 : Cond.methodLink RL 50 yX3_within ∈ TBL := tb_of 235 (by decide +kernel) (by decide +kernel)
theorem mlL_53 : Cond.methodLink RL 53 yX4_within ∈ TBL := tb_of 381 (by decide +kernel) (by decide +kernel)
theorem mlL_54 : Cond.methodLink RL 54 yX3_abbreviation ∈ TBL := tb_of 250 (by decide +kernel) (by decide +kernel)
theorem mlL_57 : Cond.methodLink RL 57 yX4_abbreviation ∈ TBL := tb_of 385 (by decide +kernel) (by decide +kernel)
theorem mlL_58 : Cond.methodLink RL 58 yX3_plain ∈ TBL := tb_of 258 (by decide +kernel) (by decide +kernel)
theorem mlL_61 : Cond.methodLink RL 61 yX4_plain ∈ TBL := tb_of 393 (by decide +kernel) (by decide +kernel)
end
section
theorem dX3_init_0 : decode cX3_init 0 = .ok (.aload_n 0, 1) := by decide +kernel
theorem dX3_init_1 : decode cX3_init 1 = .ok (.invokespecial 1, 3) := by decide +kernel
theorem dX3_init_4 : decode cX3_init 4 = .ok (.aload_n 0, 1) := by decide +kernel
theorem dX3_init_5 : decode cX3_init 5 = .ok (.sipush 201, 3) := by decide +kernel
theorem dX3_init_8 : decode cX3_init 8 = .ok (.anewarray 9, 3) := by decide +kernel
theorem dX3_init_11 : decode cX3_init 11 = .ok (.putfield 11, 3) := by decide +kernel
theorem dX3_init_14 : decode cX3_init 14 = .ok (.aload_n 0, 1) := by decide +kernel
theorem dX3_init_15 : decode cX3_init 15 = .ok (.iconst 0, 1) := by decide +kernel
theorem dX3_init_16 : decode cX3_init 16 = .ok (.putfield 15, 3) := by decide +kernel
theorem dX3_init_19 : decode cX3_init 19 = .ok (.aload_n 0, 1) := by decide +kernel
theorem dX3_init_20 : decode cX3_init 20 = .ok (.new 19, 3) := by decide +kernel
theorem dX3_init_23 : decode cX3_init 23 = .ok (.dup, 1) := by decide +kernel
theorem dX3_init_24 : decode cX3_init 24 = .ok (.invokespecial 21, 3) := by decide +kernel
theorem dX3_init_27 : decode cX3_init 27 = .ok (.putfield 22, 3) := by decide +kernel
theorem dX3_init_30 : decode cX3_init 30 = .ok (.aload_n 0, 1) := by decide +kernel
theorem dX3_init_31 : decode cX3_init 31 = .ok (.new 26, 3) := by decide +kernel
theorem dX3_init_34 : decode cX3_init 34 = .ok (.dup, 1) := by decide +kernel
theorem dX3_init_35 : decode cX3_init 35 = .ok (.invokespecial 28, 3) := by decide +kernel
theorem dX3_init_38 : decode cX3_init 38 = .ok (.putfield 29, 3) := by decide +kernel
theorem dX3_init_41 : decode cX3_init 41 = .ok (.aload_n 0, 1) := by decide +kernel
theorem dX3_init_42 : decode cX3_init 42 = .ok (.iconst (-1), 1) := by decide +kernel
theorem dX3_init_43 : decode cX3_init 43 = .ok (.putfield 33, 3) := by decide +kernel
theorem dX3_init_46 : decode cX3_init 46 = .ok (.return_, 1) := by decide +kernel
theorem dX3_entry_0 : decode cX3_entry 0 = .ok (.aload_n 0, 1) := by decide +kernel
theorem dX3_entry_1 : decode cX3_entry 1 = .ok (.getfield 15, 3) := by decide +kernel
theorem dX3_entry_4 : decode cX3_entry 4 = .ok (.sipush 200, 3) := by decide +kernel
theorem dX3_entry_7 : decode cX3_entry 7 = .ok (.if_icmp .lt 6, 3) := by decide +kernel
theorem dX3_entry_10 : decode cX3_entry 10 = .ok (.bipush (-4), 2) := by decide +kernel
theorem dX3_entry_12 : decode cX3_entry 12 = .ok (.ireturn, 1) := by decide +kernel
theorem dX3_entry_13 : decode cX3_entry 13 = .ok (.aload_n 0, 1) := by decide +kernel
theorem dX3_entry_14 : decode cX3_entry 14 = .ok (.dup, 1) := by decide +kernel
theorem dX3_entry_15 : decode cX3_entry 15 = .ok (.getfield 15, 3) := by decide +kernel
theorem dX3_entry_18 : decode cX3_entry 18 = .ok (.iconst 1, 1) := by decide +kernel
theorem dX3_entry_19 : decode cX3_entry 19 = .ok (.iadd, 1) := by decide +kernel
theorem dX3_entry_20 : decode cX3_entry 20 = .ok (.putfield 15, 3) := by decide +kernel
theorem dX3_entry_23 : decode cX3_entry 23 = .ok (.aload_n 0, 1) := by decide +kernel
theorem dX3_entry_24 : decode cX3_entry 24 = .ok (.getfield 11, 3) := by decide +kernel
theorem dX3_entry_27 : decode cX3_entry 27 = .ok (.aload_n 0, 1) := by decide +kernel
theorem dX3_entry_28 : decode cX3_entry 28 = .ok (.getfield 15, 3) := by decide +kernel
theorem dX3_entry_31 : decode cX3_entry 31 = .ok (.new 9, 3) := by decide +kernel
theorem dX3_entry_34 : decode cX3_entry 34 = .ok (.dup, 1) := by decide +kernel
theorem dX3_entry_35 : decode cX3_entry 35 = .ok (.invokespecial 36, 3) := by decide +kernel
theorem dX3_entry_38 : decode cX3_entry 38 = .ok (.aastore, 1) := by decide +kernel
theorem dX3_entry_39 : decode cX3_entry 39 = .ok (.aload_n 0, 1) := by decide +kernel
theorem dX3_entry_40 : decode cX3_entry 40 = .ok (.getfield 15, 3) := by decide +kernel
theorem dX3_entry_43 : decode cX3_entry 43 = .ok (.ireturn, 1) := by decide +kernel
theorem dX3_letter_0 : decode cX3_letter 0 = .ok (.aload_n 0, 1) := by decide +kernel
theorem dX3_letter_1 : decode cX3_letter 1 = .ok (.iload_n 1, 1) := by decide +kernel
theorem dX3_letter_2 : decode cX3_letter 2 = .ok (.invokevirtual 37, 3) := by decide +kernel
theorem dX3_letter_5 : decode cX3_letter 5 = .ok (.astore_n 3, 1) := by decide +kernel
theorem dX3_letter_6 : decode cX3_letter 6 = .ok (.aload_n 3, 1) := by decide +kernel
theorem dX3_letter_7 : decode cX3_letter 7 = .ok (.ifnonnull 5, 3) := by decide +kernel
theorem dX3_letter_10 : decode cX3_letter 10 = .ok (.iconst (-1), 1) := by decide +kernel
theorem dX3_letter_11 : decode cX3_letter 11 = .ok (.ireturn, 1) := by decide +kernel
theorem dX3_letter_12 : decode cX3_letter 12 = .ok (.iload_n 2, 1) := by decide +kernel
theorem dX3_letter_13 : decode cX3_letter 13 = .ok (.invokestatic 41, 3) := by decide +kernel
theorem dX3_letter_16 : decode cX3_letter 16 = .ok (.ifCond .ne 6, 3) := by decide +kernel
theorem dX3_letter_19 : decode cX3_letter 19 = .ok (.bipush (-2), 2) := by decide +kernel
theorem dX3_letter_21 : decode cX3_letter 21 = .ok (.ireturn, 1) := by decide +kernel
theorem dX3_letter_22 : decode cX3_letter 22 = .ok (.aload_n 3, 1) := by decide +kernel
theorem dX3_letter_23 : decode cX3_letter 23 = .ok (.iload_n 2, 1) := by decide +kernel
theorem dX3_letter_24 : decode cX3_letter 24 = .ok (.invokevirtual 45, 3) := by decide +kernel
theorem dX3_letter_27 : decode cX3_letter 27 = .ok (.ifCond .eq 10, 3) := by decide +kernel
theorem dX3_letter_30 : decode cX3_letter 30 = .ok (.aload_n 3, 1) := by decide +kernel
theorem dX3_letter_31 : decode cX3_letter 31 = .ok (.getfield 48, 3) := by decide +kernel
theorem dX3_letter_34 : decode cX3_letter 34 = .ok (.goto 5, 3) := by decide +kernel
theorem dX3_letter_37 : decode cX3_letter 37 = .ok (.bipush (-4), 2) := by decide +kernel
theorem dX3_letter_39 : decode cX3_letter 39 = .ok (.ireturn, 1) := by decide +kernel
theorem dX3_drop_0 : decode cX3_drop 0 = .ok (.aload_n 0, 1) := by decide +kernel
theorem dX3_drop_1 : decode cX3_drop 1 = .ok (.iload_n 1, 1) := by decide +kernel
theorem dX3_drop_2 : decode cX3_drop 2 = .ok (.invokevirtual 37, 3) := by decide +kernel
theorem dX3_drop_5 : decode cX3_drop 5 = .ok (.astore_n 2, 1) := by decide +kernel
theorem dX3_drop_6 : decode cX3_drop 6 = .ok (.aload_n 2, 1) := by decide +kernel
theorem dX3_drop_7 : decode cX3_drop 7 = .ok (.ifnonnull 5, 3) := by decide +kernel
theorem dX3_drop_10 : decode cX3_drop 10 = .ok (.iconst (-1), 1) := by decide +kernel
theorem dX3_drop_11 : decode cX3_drop 11 = .ok (.ireturn, 1) := by decide +kernel
theorem dX3_drop_12 : decode cX3_drop 12 = .ok (.aload_n 2, 1) := by decide +kernel
theorem dX3_drop_13 : decode cX3_drop 13 = .ok (.iconst 1, 1) := by decide +kernel
theorem dX3_drop_14 : decode cX3_drop 14 = .ok (.putfield 51, 3) := by decide +kernel
theorem dX3_drop_17 : decode cX3_drop 17 = .ok (.aload_n 2, 1) := by decide +kernel
theorem dX3_drop_18 : decode cX3_drop 18 = .ok (.aconst_null, 1) := by decide +kernel
theorem dX3_drop_19 : decode cX3_drop 19 = .ok (.putfield 55, 3) := by decide +kernel
theorem dX3_drop_22 : decode cX3_drop 22 = .ok (.iconst 1, 1) := by decide +kernel
theorem dX3_drop_23 : decode cX3_drop 23 = .ok (.istore_n 3, 1) := by decide +kernel
theorem dX3_drop_24 : decode cX3_drop 24 = .ok (.iload_n 3, 1) := by decide +kernel
theorem dX3_drop_25 : decode cX3_drop 25 = .ok (.aload_n 0, 1) := by decide +kernel
theorem dX3_drop_26 : decode cX3_drop 26 = .ok (.getfield 15, 3) := by decide +kernel
theorem dX3_drop_29 : decode cX3_drop 29 = .ok (.if_icmp .gt 36, 3) := by decide +kernel
theorem dX3_drop_32 : decode cX3_drop 32 = .ok (.aload_n 0, 1) := by decide +kernel
theorem dX3_drop_33 : decode cX3_drop 33 = .ok (.iload_n 3, 1) := by decide +kernel
theorem dX3_drop_34 : decode cX3_drop 34 = .ok (.invokevirtual 37, 3) := by decide +kernel
theorem dX3_drop_37 : decode cX3_drop 37 = .ok (.astore 4, 2) := by decide +kernel
theorem dX3_drop_39 : decode cX3_drop 39 = .ok (.aload 4, 2) := by decide +kernel
theorem dX3_drop_41 : decode cX3_drop 41 = .ok (.ifnull 18, 3) := by decide +kernel
theorem dX3_drop_44 : decode cX3_drop 44 = .ok (.aload 4, 2) := by decide +kernel
theorem dX3_drop_46 : decode cX3_drop 46 = .ok (.getfield 55, 3) := by decide +kernel
theorem dX3_drop_49 : decode cX3_drop 49 = .ok (.aload_n 2, 1) := by decide +kernel
theorem dX3_drop_50 : decode cX3_drop 50 = .ok (.if_acmp .ne 9, 3) := by decide +kernel
theorem dX3_drop_53 : decode cX3_drop 53 = .ok (.aload 4, 2) := by decide +kernel
theorem dX3_drop_55 : decode cX3_drop 55 = .ok (.aconst_null, 1) := by decide +kernel
theorem dX3_drop_56 : decode cX3_drop 56 = .ok (.putfield 55, 3) := by decide +kernel
theorem dX3_drop_59 : decode cX3_drop 59 = .ok (.iinc 3 1, 3) := by decide +kernel
theorem dX3_drop_62 : decode cX3_drop 62 = .ok (.goto (-38), 3) := by decide +kernel
theorem dX3_drop_65 : decode cX3_drop 65 = .ok (.aload_n 0, 1) := by decide +kernel
theorem dX3_drop_66 : decode cX3_drop 66 = .ok (.iconst (-1), 1) := by decide +kernel
theorem dX3_drop_67 : decode cX3_drop 67 = .ok (.invokevirtual 59, 3) := by decide +kernel
theorem dX3_drop_70 : decode cX3_drop 70 = .ok (.ireturn, 1) := by decide +kernel
theorem dX3_cost_0 : decode cX3_cost 0 = .ok (.iload_n 1, 1) := by decide +kernel
theorem dX3_cost_1 : decode cX3_cost 1 = .ok (.ifCond .lt 27, 3) := by decide +kernel
theorem dX3_cost_4 : decode cX3_cost 4 = .ok (.iload_n 1, 1) := by decide +kernel
theorem dX3_cost_5 : decode cX3_cost 5 = .ok (.bipush 20, 2) := by decide +kernel
theorem dX3_cost_7 : decode cX3_cost 7 = .ok (.if_icmp .ge 21, 3) := by decide +kernel
theorem dX3_cost_10 : decode cX3_cost 10 = .ok (.iload_n 2, 1) := by decide +kernel
theorem dX3_cost_11 : decode cX3_cost 11 = .ok (.invokestatic 41, 3) := by decide +kernel
theorem dX3_cost_14 : decode cX3_cost 14 = .ok (.ifCond .eq 14, 3) := by decide +kernel
theorem dX3_cost_17 : decode cX3_cost 17 = .ok (.iload_n 3, 1) := by decide +kernel
theorem dX3_cost_18 : decode cX3_cost 18 = .ok (.ifCond .lt 10, 3) := by decide +kernel
theorem dX3_cost_21 : decode cX3_cost 21 = .ok (.iload_n 3, 1) := by decide +kernel
theorem dX3_cost_22 : decode cX3_cost 22 = .ok (.sipush 1000, 3) := by decide +kernel
theorem dX3_cost_25 : decode cX3_cost 25 = .ok (.if_icmp .le 6, 3) := by decide +kernel
theorem dX3_cost_28 : decode cX3_cost 28 = .ok (.bipush (-2), 2) := by decide +kernel
theorem dX3_cost_30 : decode cX3_cost 30 = .ok (.ireturn, 1) := by decide +kernel
theorem dX3_cost_31 : decode cX3_cost 31 = .ok (.aload_n 0, 1) := by decide +kernel
theorem dX3_cost_32 : decode cX3_cost 32 = .ok (.getfield 22, 3) := by decide +kernel
theorem dX3_cost_35 : decode cX3_cost 35 = .ok (.iload_n 1, 1) := by decide +kernel
theorem dX3_cost_36 : decode cX3_cost 36 = .ok (.iload_n 2, 1) := by decide +kernel
theorem dX3_cost_37 : decode cX3_cost 37 = .ok (.iload_n 3, 1) := by decide +kernel
theorem dX3_cost_38 : decode cX3_cost 38 = .ok (.invokevirtual 63, 3) := by decide +kernel
theorem dX3_cost_41 : decode cX3_cost 41 = .ok (.aload_n 0, 1) := by decide +kernel
theorem dX3_cost_42 : decode cX3_cost 42 = .ok (.getfield 22, 3) := by decide +kernel
theorem dX3_cost_45 : decode cX3_cost 45 = .ok (.getfield 67, 3) := by decide +kernel
theorem dX3_cost_48 : decode cX3_cost 48 = .ok (.ireturn, 1) := by decide +kernel
theorem dX3_clear_0 : decode cX3_clear 0 = .ok (.aload_n 0, 1) := by decide +kernel
theorem dX3_clear_1 : decode cX3_clear 1 = .ok (.getfield 22, 3) := by decide +kernel
theorem dX3_clear_4 : decode cX3_clear 4 = .ok (.getfield 67, 3) := by decide +kernel
theorem dX3_clear_7 : decode cX3_clear 7 = .ok (.istore_n 1, 1) := by decide +kernel
theorem dX3_clear_8 : decode cX3_clear 8 = .ok (.aload_n 0, 1) := by decide +kernel
theorem dX3_clear_9 : decode cX3_clear 9 = .ok (.getfield 22, 3) := by decide +kernel
theorem dX3_clear_12 : decode cX3_clear 12 = .ok (.invokevirtual 70, 3) := by decide +kernel
theorem dX3_clear_15 : decode cX3_clear 15 = .ok (.iload_n 1, 1) := by decide +kernel
theorem dX3_clear_16 : decode cX3_clear 16 = .ok (.ireturn, 1) := by decide +kernel
theorem dX3_find_0 : decode cX3_find 0 = .ok (.iload_n 1, 1) := by decide +kernel
theorem dX3_find_1 : decode cX3_find 1 = .ok (.invokestatic 73, 3) := by decide +kernel
theorem dX3_find_4 : decode cX3_find 4 = .ok (.ifCond .ne 6, 3) := by decide +kernel
theorem dX3_find_7 : decode cX3_find 7 = .ok (.bipush (-2), 2) := by decide +kernel
theorem dX3_find_9 : decode cX3_find 9 = .ok (.ireturn, 1) := by decide +kernel
theorem dX3_find_10 : decode cX3_find 10 = .ok (.aload_n 0, 1) := by decide +kernel
theorem dX3_find_11 : decode cX3_find 11 = .ok (.invokevirtual 76, 3) := by decide +kernel
theorem dX3_find_14 : decode cX3_find 14 = .ok (.aload_n 0, 1) := by decide +kernel
theorem dX3_find_15 : decode cX3_find 15 = .ok (.getfield 29, 3) := by decide +kernel
theorem dX3_find_18 : decode cX3_find 18 = .ok (.invokevirtual 79, 3) := by decide +kernel
theorem dX3_find_21 : decode cX3_find 21 = .ok (.iconst 1, 1) := by decide +kernel
theorem dX3_find_22 : decode cX3_find 22 = .ok (.istore_n 2, 1) := by decide +kernel
theorem dX3_find_23 : decode cX3_find 23 = .ok (.iload_n 2, 1) := by decide +kernel
theorem dX3_find_24 : decode cX3_find 24 = .ok (.aload_n 0, 1) := by decide +kernel
theorem dX3_find_25 : decode cX3_find 25 = .ok (.getfield 15, 3) := by decide +kernel
theorem dX3_find_28 : decode cX3_find 28 = .ok (.if_icmp .gt 49, 3) := by decide +kernel
theorem dX3_find_31 : decode cX3_find 31 = .ok (.aload_n 0, 1) := by decide +kernel
theorem dX3_find_32 : decode cX3_find 32 = .ok (.iload_n 2, 1) := by decide +kernel
theorem dX3_find_33 : decode cX3_find 33 = .ok (.invokevirtual 37, 3) := by decide +kernel
theorem dX3_find_36 : decode cX3_find 36 = .ok (.astore_n 3, 1) := by decide +kernel
theorem dX3_find_37 : decode cX3_find 37 = .ok (.aload_n 3, 1) := by decide +kernel
theorem dX3_find_38 : decode cX3_find 38 = .ok (.ifnull 33, 3) := by decide +kernel
theorem dX3_find_41 : decode cX3_find 41 = .ok (.aload_n 0, 1) := by decide +kernel
theorem dX3_find_42 : decode cX3_find 42 = .ok (.aload_n 3, 1) := by decide +kernel
theorem dX3_find_43 : decode cX3_find 43 = .ok (.invokevirtual 80, 3) := by decide +kernel
theorem dX3_find_46 : decode cX3_find 46 = .ok (.ifCond .eq 25, 3) := by decide +kernel
theorem dX3_find_49 : decode cX3_find 49 = .ok (.aload_n 3, 1) := by decide +kernel
theorem dX3_find_50 : decode cX3_find 50 = .ok (.getfield 84, 3) := by decide +kernel
theorem dX3_find_53 : decode cX3_find 53 = .ok (.sipush 400, 3) := by decide +kernel
theorem dX3_find_56 : decode cX3_find 56 = .ok (.if_icmp .gt 15, 3) := by decide +kernel
theorem dX3_find_59 : decode cX3_find 59 = .ok (.aload_n 0, 1) := by decide +kernel
theorem dX3_find_60 : decode cX3_find 60 = .ok (.getfield 29, 3) := by decide +kernel
theorem dX3_find_63 : decode cX3_find 63 = .ok (.iload_n 2, 1) := by decide +kernel
theorem dX3_find_64 : decode cX3_find 64 = .ok (.aload_n 3, 1) := by decide +kernel
theorem dX3_find_65 : decode cX3_find 65 = .ok (.getfield 84, 3) := by decide +kernel
theorem dX3_find_68 : decode cX3_find 68 = .ok (.invokevirtual 87, 3) := by decide +kernel
theorem dX3_find_71 : decode cX3_find 71 = .ok (.iinc 2 1, 3) := by decide +kernel
theorem dX3_find_74 : decode cX3_find 74 = .ok (.goto (-51), 3) := by decide +kernel
theorem dX3_find_77 : decode cX3_find 77 = .ok (.aload_n 0, 1) := by decide +kernel
theorem dX3_find_78 : decode cX3_find 78 = .ok (.getfield 29, 3) := by decide +kernel
theorem dX3_find_81 : decode cX3_find 81 = .ok (.iload_n 1, 1) := by decide +kernel
theorem dX3_find_82 : decode cX3_find 82 = .ok (.invokevirtual 91, 3) := by decide +kernel
theorem dX3_find_85 : decode cX3_find 85 = .ok (.aload_n 0, 1) := by decide +kernel
theorem dX3_find_86 : decode cX3_find 86 = .ok (.getfield 29, 3) := by decide +kernel
theorem dX3_find_89 : decode cX3_find 89 = .ok (.getfield 95, 3) := by decide +kernel
theorem dX3_find_92 : decode cX3_find 92 = .ok (.ireturn, 1) := by decide +kernel
theorem dX3_word_0 : decode cX3_word 0 = .ok (.aload_n 0, 1) := by decide +kernel
theorem dX3_word_1 : decode cX3_word 1 = .ok (.getfield 29, 3) := by decide +kernel
theorem dX3_word_4 : decode cX3_word 4 = .ok (.iload_n 1, 1) := by decide +kernel
theorem dX3_word_5 : decode cX3_word 5 = .ok (.invokevirtual 98, 3) := by decide +kernel
theorem dX3_word_8 : decode cX3_word 8 = .ok (.ifCond .eq 15, 3) := by decide +kernel
theorem dX3_word_11 : decode cX3_word 11 = .ok (.aload_n 0, 1) := by decide +kernel
theorem dX3_word_12 : decode cX3_word 12 = .ok (.getfield 29, 3) := by decide +kernel
theorem dX3_word_15 : decode cX3_word 15 = .ok (.getfield 101, 3) := by decide +kernel
theorem dX3_word_18 : decode cX3_word 18 = .ok (.iload_n 1, 1) := by decide +kernel
theorem dX3_word_19 : decode cX3_word 19 = .ok (.iaload, 1) := by decide +kernel
theorem dX3_word_20 : decode cX3_word 20 = .ok (.goto 4, 3) := by decide +kernel
theorem dX3_word_23 : decode cX3_word 23 = .ok (.iconst (-1), 1) := by decide +kernel
theorem dX3_word_24 : decode cX3_word 24 = .ok (.ireturn, 1) := by decide +kernel
theorem dX3_sum_0 : decode cX3_sum 0 = .ok (.aload_n 0, 1) := by decide +kernel
theorem dX3_sum_1 : decode cX3_sum 1 = .ok (.getfield 29, 3) := by decide +kernel
theorem dX3_sum_4 : decode cX3_sum 4 = .ok (.iload_n 1, 1) := by decide +kernel
theorem dX3_sum_5 : decode cX3_sum 5 = .ok (.invokevirtual 98, 3) := by decide +kernel
theorem dX3_sum_8 : decode cX3_sum 8 = .ok (.ifCond .eq 16, 3) := by decide +kernel
theorem dX3_sum_11 : decode cX3_sum 11 = .ok (.aload_n 0, 1) := by decide +kernel
theorem dX3_sum_12 : decode cX3_sum 12 = .ok (.getfield 29, 3) := by decide +kernel
theorem dX3_sum_15 : decode cX3_sum 15 = .ok (.getfield 105, 3) := by decide +kernel
theorem dX3_sum_18 : decode cX3_sum 18 = .ok (.iload_n 1, 1) := by decide +kernel
theorem dX3_sum_19 : decode cX3_sum 19 = .ok (.iaload, 1) := by decide +kernel
theorem dX3_sum_20 : decode cX3_sum 20 = .ok (.i2l, 1) := by decide +kernel
theorem dX3_sum_21 : decode cX3_sum 21 = .ok (.goto 6, 3) := by decide +kernel
theorem dX3_sum_24 : decode cX3_sum 24 = .ok (.ldc2_w 108, 3) := by decide +kernel
theorem dX3_sum_27 : decode cX3_sum 27 = .ok (.lreturn, 1) := by decide +kernel
theorem dX3_within_0 : decode cX3_within 0 = .ok (.iload_n 2, 1) := by decide +kernel
theorem dX3_within_1 : decode cX3_within 1 = .ok (.ifCond .ne 9, 3) := by decide +kernel
theorem dX3_within_4 : decode cX3_within 4 = .ok (.aload_n 0, 1) := by decide +kernel
theorem dX3_within_5 : decode cX3_within 5 = .ok (.iload_n 1, 1) := by decide +kernel
theorem dX3_within_6 : decode cX3_within 6 = .ok (.invokevirtual 110, 3) := by decide +kernel
theorem dX3_within_9 : decode cX3_within 9 = .ok (.ireturn, 1) := by decide +kernel
theorem dX3_within_10 : decode cX3_within 10 = .ok (.aload_n 0, 1) := by decide +kernel
theorem dX3_within_11 : decode cX3_within 11 = .ok (.iload_n 2, 1) := by decide +kernel
theorem dX3_within_12 : decode cX3_within 12 = .ok (.invokevirtual 37, 3) := by decide +kernel
theorem dX3_within_15 : decode cX3_within 15 = .ok (.astore_n 3, 1) := by decide +kernel
theorem dX3_within_16 : decode cX3_within 16 = .ok (.aload_n 3, 1) := by decide +kernel
theorem dX3_within_17 : decode cX3_within 17 = .ok (.ifnonnull 5, 3) := by decide +kernel
theorem dX3_within_20 : decode cX3_within 20 = .ok (.iconst (-1), 1) := by decide +kernel
theorem dX3_within_21 : decode cX3_within 21 = .ok (.ireturn, 1) := by decide +kernel
theorem dX3_within_22 : decode cX3_within 22 = .ok (.iload_n 1, 1) := by decide +kernel
theorem dX3_within_23 : decode cX3_within 23 = .ok (.invokestatic 113, 3) := by decide +kernel
theorem dX3_within_26 : decode cX3_within 26 = .ok (.ifCond .ne 6, 3) := by decide +kernel
theorem dX3_within_29 : decode cX3_within 29 = .ok (.bipush (-2), 2) := by decide +kernel
theorem dX3_within_31 : decode cX3_within 31 = .ok (.ireturn, 1) := by decide +kernel
theorem dX3_within_32 : decode cX3_within 32 = .ok (.aload_n 3, 1) := by decide +kernel
theorem dX3_within_33 : decode cX3_within 33 = .ok (.iload_n 1, 1) := by decide +kernel
theorem dX3_within_34 : decode cX3_within 34 = .ok (.invokevirtual 116, 3) := by decide +kernel
theorem dX3_within_37 : decode cX3_within 37 = .ok (.aload_n 0, 1) := by decide +kernel
theorem dX3_within_38 : decode cX3_within 38 = .ok (.iload_n 1, 1) := by decide +kernel
theorem dX3_within_39 : decode cX3_within 39 = .ok (.invokevirtual 59, 3) := by decide +kernel
theorem dX3_within_42 : decode cX3_within 42 = .ok (.ireturn, 1) := by decide +kernel
theorem dX3_abbreviation_0 : decode cX3_abbreviation 0 = .ok (.aload_n 0, 1) := by decide +kernel
theorem dX3_abbreviation_1 : decode cX3_abbreviation 1 = .ok (.iload_n 1, 1) := by decide +kernel
theorem dX3_abbreviation_2 : decode cX3_abbreviation 2 = .ok (.invokevirtual 37, 3) := by decide +kernel
theorem dX3_abbreviation_5 : decode cX3_abbreviation 5 = .ok (.astore_n 3, 1) := by decide +kernel
theorem dX3_abbreviation_6 : decode cX3_abbreviation 6 = .ok (.aload_n 0, 1) := by decide +kernel
theorem dX3_abbreviation_7 : decode cX3_abbreviation 7 = .ok (.iload_n 2, 1) := by decide +kernel
theorem dX3_abbreviation_8 : decode cX3_abbreviation 8 = .ok (.invokevirtual 37, 3) := by decide +kernel
theorem dX3_abbreviation_11 : decode cX3_abbreviation 11 = .ok (.astore 4, 2) := by decide +kernel
theorem dX3_abbreviation_13 : decode cX3_abbreviation 13 = .ok (.aload_n 3, 1) := by decide +kernel
theorem dX3_abbreviation_14 : decode cX3_abbreviation 14 = .ok (.ifnull 8, 3) := by decide +kernel
theorem dX3_abbreviation_17 : decode cX3_abbreviation 17 = .ok (.aload 4, 2) := by decide +kernel
theorem dX3_abbreviation_19 : decode cX3_abbreviation 19 = .ok (.ifnonnull 5, 3) := by decide +kernel
theorem dX3_abbreviation_22 : decode cX3_abbreviation 22 = .ok (.iconst (-1), 1) := by decide +kernel
theorem dX3_abbreviation_23 : decode cX3_abbreviation 23 = .ok (.ireturn, 1) := by decide +kernel
theorem dX3_abbreviation_24 : decode cX3_abbreviation 24 = .ok (.aload_n 3, 1) := by decide +kernel
theorem dX3_abbreviation_25 : decode cX3_abbreviation 25 = .ok (.aload 4, 2) := by decide +kernel
theorem dX3_abbreviation_27 : decode cX3_abbreviation 27 = .ok (.if_acmp .eq 19, 3) := by decide +kernel
theorem dX3_abbreviation_30 : decode cX3_abbreviation 30 = .ok (.aload 4, 2) := by decide +kernel
theorem dX3_abbreviation_32 : decode cX3_abbreviation 32 = .ok (.getfield 55, 3) := by decide +kernel
theorem dX3_abbreviation_35 : decode cX3_abbreviation 35 = .ok (.ifnonnull 11, 3) := by decide +kernel
theorem dX3_abbreviation_38 : decode cX3_abbreviation 38 = .ok (.aload_n 0, 1) := by decide +kernel
theorem dX3_abbreviation_39 : decode cX3_abbreviation 39 = .ok (.aload_n 3, 1) := by decide +kernel
theorem dX3_abbreviation_40 : decode cX3_abbreviation 40 = .ok (.invokevirtual 119, 3) := by decide +kernel
theorem dX3_abbreviation_43 : decode cX3_abbreviation 43 = .ok (.ifCond .le 6, 3) := by decide +kernel
theorem dX3_abbreviation_46 : decode cX3_abbreviation 46 = .ok (.bipush (-3), 2) := by decide +kernel
theorem dX3_abbreviation_48 : decode cX3_abbreviation 48 = .ok (.ireturn, 1) := by decide +kernel
theorem dX3_abbreviation_49 : decode cX3_abbreviation 49 = .ok (.aload_n 3, 1) := by decide +kernel
theorem dX3_abbreviation_50 : decode cX3_abbreviation 50 = .ok (.aload 4, 2) := by decide +kernel
theorem dX3_abbreviation_52 : decode cX3_abbreviation 52 = .ok (.putfield 55, 3) := by decide +kernel
theorem dX3_abbreviation_55 : decode cX3_abbreviation 55 = .ok (.aload_n 0, 1) := by decide +kernel
theorem dX3_abbreviation_56 : decode cX3_abbreviation 56 = .ok (.aload 4, 2) := by decide +kernel
theorem dX3_abbreviation_58 : decode cX3_abbreviation 58 = .ok (.invokevirtual 119, 3) := by decide +kernel
theorem dX3_abbreviation_61 : decode cX3_abbreviation 61 = .ok (.ireturn, 1) := by decide +kernel
theorem dX3_plain_0 : decode cX3_plain 0 = .ok (.iload_n 1, 1) := by decide +kernel
theorem dX3_plain_1 : decode cX3_plain 1 = .ok (.invokestatic 73, 3) := by decide +kernel
theorem dX3_plain_4 : decode cX3_plain 4 = .ok (.ifCond .ne 6, 3) := by decide +kernel
theorem dX3_plain_7 : decode cX3_plain 7 = .ok (.bipush (-2), 2) := by decide +kernel
theorem dX3_plain_9 : decode cX3_plain 9 = .ok (.ireturn, 1) := by decide +kernel
theorem dX3_plain_10 : decode cX3_plain 10 = .ok (.aload_n 0, 1) := by decide +kernel
theorem dX3_plain_11 : decode cX3_plain 11 = .ok (.invokevirtual 76, 3) := by decide +kernel
theorem dX3_plain_14 : decode cX3_plain 14 = .ok (.aload_n 0, 1) := by decide +kernel
theorem dX3_plain_15 : decode cX3_plain 15 = .ok (.getfield 29, 3) := by decide +kernel
theorem dX3_plain_18 : decode cX3_plain 18 = .ok (.invokevirtual 79, 3) := by decide +kernel
theorem dX3_plain_21 : decode cX3_plain 21 = .ok (.iconst 1, 1) := by decide +kernel
theorem dX3_plain_22 : decode cX3_plain 22 = .ok (.istore_n 2, 1) := by decide +kernel
theorem dX3_plain_23 : decode cX3_plain 23 = .ok (.iload_n 2, 1) := by decide +kernel
theorem dX3_plain_24 : decode cX3_plain 24 = .ok (.aload_n 0, 1) := by decide +kernel
theorem dX3_plain_25 : decode cX3_plain 25 = .ok (.getfield 15, 3) := by decide +kernel
theorem dX3_plain_28 : decode cX3_plain 28 = .ok (.if_icmp .gt 50, 3) := by decide +kernel
theorem dX3_plain_31 : decode cX3_plain 31 = .ok (.aload_n 0, 1) := by decide +kernel
theorem dX3_plain_32 : decode cX3_plain 32 = .ok (.iload_n 2, 1) := by decide +kernel
theorem dX3_plain_33 : decode cX3_plain 33 = .ok (.invokevirtual 37, 3) := by decide +kernel
theorem dX3_plain_36 : decode cX3_plain 36 = .ok (.astore_n 3, 1) := by decide +kernel
theorem dX3_plain_37 : decode cX3_plain 37 = .ok (.aload_n 3, 1) := by decide +kernel
theorem dX3_plain_38 : decode cX3_plain 38 = .ok (.ifnull 34, 3) := by decide +kernel
theorem dX3_plain_41 : decode cX3_plain 41 = .ok (.aload_n 0, 1) := by decide +kernel
theorem dX3_plain_42 : decode cX3_plain 42 = .ok (.aload_n 3, 1) := by decide +kernel
theorem dX3_plain_43 : decode cX3_plain 43 = .ok (.invokevirtual 80, 3) := by decide +kernel
theorem dX3_plain_46 : decode cX3_plain 46 = .ok (.ifCond .eq 26, 3) := by decide +kernel
theorem dX3_plain_49 : decode cX3_plain 49 = .ok (.aload_n 0, 1) := by decide +kernel
theorem dX3_plain_50 : decode cX3_plain 50 = .ok (.getfield 22, 3) := by decide +kernel
theorem dX3_plain_53 : decode cX3_plain 53 = .ok (.aload_n 3, 1) := by decide +kernel
theorem dX3_plain_54 : decode cX3_plain 54 = .ok (.invokevirtual 123, 3) := by decide +kernel
theorem dX3_plain_57 : decode cX3_plain 57 = .ok (.ifCond .eq 15, 3) := by decide +kernel
theorem dX3_plain_60 : decode cX3_plain 60 = .ok (.aload_n 0, 1) := by decide +kernel
theorem dX3_plain_61 : decode cX3_plain 61 = .ok (.getfield 29, 3) := by decide +kernel
theorem dX3_plain_64 : decode cX3_plain 64 = .ok (.iload_n 2, 1) := by decide +kernel
theorem dX3_plain_65 : decode cX3_plain 65 = .ok (.aload_n 3, 1) := by decide +kernel
theorem dX3_plain_66 : decode cX3_plain 66 = .ok (.getfield 84, 3) := by decide +kernel
theorem dX3_plain_69 : decode cX3_plain 69 = .ok (.invokevirtual 126, 3) := by decide +kernel
theorem dX3_plain_72 : decode cX3_plain 72 = .ok (.iinc 2 1, 3) := by decide +kernel
theorem dX3_plain_75 : decode cX3_plain 75 = .ok (.goto (-52), 3) := by decide +kernel
theorem dX3_plain_78 : decode cX3_plain 78 = .ok (.aload_n 0, 1) := by decide +kernel
theorem dX3_plain_79 : decode cX3_plain 79 = .ok (.getfield 29, 3) := by decide +kernel
theorem dX3_plain_82 : decode cX3_plain 82 = .ok (.getfield 95, 3) := by decide +kernel
theorem dX3_plain_85 : decode cX3_plain 85 = .ok (.istore_n 2, 1) := by decide +kernel
theorem dX3_plain_86 : decode cX3_plain 86 = .ok (.aload_n 0, 1) := by decide +kernel
theorem dX3_plain_87 : decode cX3_plain 87 = .ok (.getfield 29, 3) := by decide +kernel
theorem dX3_plain_90 : decode cX3_plain 90 = .ok (.iload_n 1, 1) := by decide +kernel
theorem dX3_plain_91 : decode cX3_plain 91 = .ok (.invokevirtual 91, 3) := by decide +kernel
theorem dX3_plain_94 : decode cX3_plain 94 = .ok (.iload_n 2, 1) := by decide +kernel
theorem dX3_plain_95 : decode cX3_plain 95 = .ok (.ireturn, 1) := by decide +kernel
theorem dX3_isSign_0 : decode cX3_isSign 0 = .ok (.iload_n 0, 1) := by decide +kernel
theorem dX3_isSign_1 : decode cX3_isSign 1 = .ok (.bipush 33, 2) := by decide +kernel
theorem dX3_isSign_3 : decode cX3_isSign 3 = .ok (.if_icmp .lt 13, 3) := by decide +kernel
theorem dX3_isSign_6 : decode cX3_isSign 6 = .ok (.iload_n 0, 1) := by decide +kernel
theorem dX3_isSign_7 : decode cX3_isSign 7 = .ok (.bipush 126, 2) := by decide +kernel
theorem dX3_isSign_9 : decode cX3_isSign 9 = .ok (.if_icmp .gt 7, 3) := by decide +kernel
theorem dX3_isSign_12 : decode cX3_isSign 12 = .ok (.iconst 1, 1) := by decide +kernel
theorem dX3_isSign_13 : decode cX3_isSign 13 = .ok (.goto 4, 3) := by decide +kernel
theorem dX3_isSign_16 : decode cX3_isSign 16 = .ok (.iconst 0, 1) := by decide +kernel
theorem dX3_isSign_17 : decode cX3_isSign 17 = .ok (.ireturn, 1) := by decide +kernel
theorem dX3_isGroup_0 : decode cX3_isGroup 0 = .ok (.iload_n 0, 1) := by decide +kernel
theorem dX3_isGroup_1 : decode cX3_isGroup 1 = .ok (.ifCond .lt 13, 3) := by decide +kernel
theorem dX3_isGroup_4 : decode cX3_isGroup 4 = .ok (.iload_n 0, 1) := by decide +kernel
theorem dX3_isGroup_5 : decode cX3_isGroup 5 = .ok (.bipush 8, 2) := by decide +kernel
theorem dX3_isGroup_7 : decode cX3_isGroup 7 = .ok (.if_icmp .ge 7, 3) := by decide +kernel
theorem dX3_isGroup_10 : decode cX3_isGroup 10 = .ok (.iconst 1, 1) := by decide +kernel
theorem dX3_isGroup_11 : decode cX3_isGroup 11 = .ok (.goto 4, 3) := by decide +kernel
theorem dX3_isGroup_14 : decode cX3_isGroup 14 = .ok (.iconst 0, 1) := by decide +kernel
theorem dX3_isGroup_15 : decode cX3_isGroup 15 = .ok (.ireturn, 1) := by decide +kernel
theorem dX3_mayBeAsked_0 : decode cX3_mayBeAsked 0 = .ok (.iload_n 0, 1) := by decide +kernel
theorem dX3_mayBeAsked_1 : decode cX3_mayBeAsked 1 = .ok (.iconst 1, 1) := by decide +kernel
theorem dX3_mayBeAsked_2 : decode cX3_mayBeAsked 2 = .ok (.if_icmp .lt 14, 3) := by decide +kernel
theorem dX3_mayBeAsked_5 : decode cX3_mayBeAsked 5 = .ok (.iload_n 0, 1) := by decide +kernel
theorem dX3_mayBeAsked_6 : decode cX3_mayBeAsked 6 = .ok (.sipush 1000, 3) := by decide +kernel
theorem dX3_mayBeAsked_9 : decode cX3_mayBeAsked 9 = .ok (.if_icmp .gt 7, 3) := by decide +kernel
theorem dX3_mayBeAsked_12 : decode cX3_mayBeAsked 12 = .ok (.iconst 1, 1) := by decide +kernel
theorem dX3_mayBeAsked_13 : decode cX3_mayBeAsked 13 = .ok (.goto 4, 3) := by decide +kernel
theorem dX3_mayBeAsked_16 : decode cX3_mayBeAsked 16 = .ok (.iconst 0, 1) := by decide +kernel
theorem dX3_mayBeAsked_17 : decode cX3_mayBeAsked 17 = .ok (.ireturn, 1) := by decide +kernel
theorem dX3_living_0 : decode cX3_living 0 = .ok (.iload_n 1, 1) := by decide +kernel
theorem dX3_living_1 : decode cX3_living 1 = .ok (.iconst 1, 1) := by decide +kernel
theorem dX3_living_2 : decode cX3_living 2 = .ok (.if_icmp .lt 20, 3) := by decide +kernel
theorem dX3_living_5 : decode cX3_living 5 = .ok (.iload_n 1, 1) := by decide +kernel
theorem dX3_living_6 : decode cX3_living 6 = .ok (.aload_n 0, 1) := by decide +kernel
theorem dX3_living_7 : decode cX3_living 7 = .ok (.getfield 15, 3) := by decide +kernel
theorem dX3_living_10 : decode cX3_living 10 = .ok (.if_icmp .gt 12, 3) := by decide +kernel
theorem dX3_living_13 : decode cX3_living 13 = .ok (.iload_n 1, 1) := by decide +kernel
theorem dX3_living_14 : decode cX3_living 14 = .ok (.aload_n 0, 1) := by decide +kernel
theorem dX3_living_15 : decode cX3_living 15 = .ok (.getfield 11, 3) := by decide +kernel
theorem dX3_living_18 : decode cX3_living 18 = .ok (.arraylength, 1) := by decide +kernel
theorem dX3_living_19 : decode cX3_living 19 = .ok (.if_icmp .lt 5, 3) := by decide +kernel
theorem dX3_living_22 : decode cX3_living 22 = .ok (.aconst_null, 1) := by decide +kernel
theorem dX3_living_23 : decode cX3_living 23 = .ok (.areturn, 1) := by decide +kernel
theorem dX3_living_24 : decode cX3_living 24 = .ok (.aload_n 0, 1) := by decide +kernel
theorem dX3_living_25 : decode cX3_living 25 = .ok (.getfield 11, 3) := by decide +kernel
theorem dX3_living_28 : decode cX3_living 28 = .ok (.iload_n 1, 1) := by decide +kernel
theorem dX3_living_29 : decode cX3_living 29 = .ok (.aaload, 1) := by decide +kernel
theorem dX3_living_30 : decode cX3_living 30 = .ok (.astore_n 2, 1) := by decide +kernel
theorem dX3_living_31 : decode cX3_living 31 = .ok (.aload_n 2, 1) := by decide +kernel
theorem dX3_living_32 : decode cX3_living 32 = .ok (.ifnull 10, 3) := by decide +kernel
theorem dX3_living_35 : decode cX3_living 35 = .ok (.aload_n 2, 1) := by decide +kernel
theorem dX3_living_36 : decode cX3_living 36 = .ok (.getfield 51, 3) := by decide +kernel
theorem dX3_living_39 : decode cX3_living 39 = .ok (.ifCond .eq 7, 3) := by decide +kernel
theorem dX3_living_42 : decode cX3_living 42 = .ok (.aconst_null, 1) := by decide +kernel
theorem dX3_living_43 : decode cX3_living 43 = .ok (.goto 4, 3) := by decide +kernel
theorem dX3_living_46 : decode cX3_living 46 = .ok (.aload_n 2, 1) := by decide +kernel
theorem dX3_living_47 : decode cX3_living 47 = .ok (.areturn, 1) := by decide +kernel
theorem dX3_mayBeFound_0 : decode cX3_mayBeFound 0 = .ok (.aload_n 1, 1) := by decide +kernel
theorem dX3_mayBeFound_1 : decode cX3_mayBeFound 1 = .ok (.getfield 55, 3) := by decide +kernel
theorem dX3_mayBeFound_4 : decode cX3_mayBeFound 4 = .ok (.ifnonnull 18, 3) := by decide +kernel
theorem dX3_mayBeFound_7 : decode cX3_mayBeFound 7 = .ok (.aload_n 1, 1) := by decide +kernel
theorem dX3_mayBeFound_8 : decode cX3_mayBeFound 8 = .ok (.aload_n 0, 1) := by decide +kernel
theorem dX3_mayBeFound_9 : decode cX3_mayBeFound 9 = .ok (.getfield 33, 3) := by decide +kernel
theorem dX3_mayBeFound_12 : decode cX3_mayBeFound 12 = .ok (.invokevirtual 129, 3) := by decide +kernel
theorem dX3_mayBeFound_15 : decode cX3_mayBeFound 15 = .ok (.ifCond .eq 7, 3) := by decide +kernel
theorem dX3_mayBeFound_18 : decode cX3_mayBeFound 18 = .ok (.iconst 1, 1) := by decide +kernel
theorem dX3_mayBeFound_19 : decode cX3_mayBeFound 19 = .ok (.goto 4, 3) := by decide +kernel
theorem dX3_mayBeFound_22 : decode cX3_mayBeFound 22 = .ok (.iconst 0, 1) := by decide +kernel
theorem dX3_mayBeFound_23 : decode cX3_mayBeFound 23 = .ok (.ireturn, 1) := by decide +kernel
theorem dX3_lookAt_0 : decode cX3_lookAt 0 = .ok (.iload_n 1, 1) := by decide +kernel
theorem dX3_lookAt_1 : decode cX3_lookAt 1 = .ok (.iconst (-1), 1) := by decide +kernel
theorem dX3_lookAt_2 : decode cX3_lookAt 2 = .ok (.if_icmp .eq 13, 3) := by decide +kernel
theorem dX3_lookAt_5 : decode cX3_lookAt 5 = .ok (.iload_n 1, 1) := by decide +kernel
theorem dX3_lookAt_6 : decode cX3_lookAt 6 = .ok (.invokestatic 113, 3) := by decide +kernel
theorem dX3_lookAt_9 : decode cX3_lookAt 9 = .ok (.ifCond .ne 6, 3) := by decide +kernel
theorem dX3_lookAt_12 : decode cX3_lookAt 12 = .ok (.bipush (-2), 2) := by decide +kernel
theorem dX3_lookAt_14 : decode cX3_lookAt 14 = .ok (.ireturn, 1) := by decide +kernel
theorem dX3_lookAt_15 : decode cX3_lookAt 15 = .ok (.aload_n 0, 1) := by decide +kernel
theorem dX3_lookAt_16 : decode cX3_lookAt 16 = .ok (.iload_n 1, 1) := by decide +kernel
theorem dX3_lookAt_17 : decode cX3_lookAt 17 = .ok (.putfield 33, 3) := by decide +kernel
theorem dX3_lookAt_20 : decode cX3_lookAt 20 = .ok (.aload_n 0, 1) := by decide +kernel
theorem dX3_lookAt_21 : decode cX3_lookAt 21 = .ok (.iload_n 1, 1) := by decide +kernel
theorem dX3_lookAt_22 : decode cX3_lookAt 22 = .ok (.invokevirtual 59, 3) := by decide +kernel
theorem dX3_lookAt_25 : decode cX3_lookAt 25 = .ok (.ireturn, 1) := by decide +kernel
theorem dX3_countWithin_0 : decode cX3_countWithin 0 = .ok (.iconst 0, 1) := by decide +kernel
theorem dX3_countWithin_1 : decode cX3_countWithin 1 = .ok (.istore_n 2, 1) := by decide +kernel
theorem dX3_countWithin_2 : decode cX3_countWithin 2 = .ok (.iconst 1, 1) := by decide +kernel
theorem dX3_countWithin_3 : decode cX3_countWithin 3 = .ok (.istore_n 3, 1) := by decide +kernel
theorem dX3_countWithin_4 : decode cX3_countWithin 4 = .ok (.iload_n 3, 1) := by decide +kernel
theorem dX3_countWithin_5 : decode cX3_countWithin 5 = .ok (.aload_n 0, 1) := by decide +kernel
theorem dX3_countWithin_6 : decode cX3_countWithin 6 = .ok (.getfield 15, 3) := by decide +kernel
theorem dX3_countWithin_9 : decode cX3_countWithin 9 = .ok (.if_icmp .gt 33, 3) := by decide +kernel
theorem dX3_countWithin_12 : decode cX3_countWithin 12 = .ok (.aload_n 0, 1) := by decide +kernel
theorem dX3_countWithin_13 : decode cX3_countWithin 13 = .ok (.iload_n 3, 1) := by decide +kernel
theorem dX3_countWithin_14 : decode cX3_countWithin 14 = .ok (.invokevirtual 37, 3) := by decide +kernel
theorem dX3_countWithin_17 : decode cX3_countWithin 17 = .ok (.astore 4, 2) := by decide +kernel
theorem dX3_countWithin_19 : decode cX3_countWithin 19 = .ok (.aload 4, 2) := by decide +kernel
theorem dX3_countWithin_21 : decode cX3_countWithin 21 = .ok (.ifnull 15, 3) := by decide +kernel
end
section
theorem dX3_countWithin_24 : decode cX3_countWithin 24 = .ok (.aload 4, 2) := by decide +kernel
theorem dX3_countWithin_26 : decode cX3_countWithin 26 = .ok (.iload_n 1, 1) := by decide +kernel
theorem dX3_countWithin_27 : decode cX3_countWithin 27 = .ok (.invokevirtual 129, 3) := by decide +kernel
theorem dX3_countWithin_30 : decode cX3_countWithin 30 = .ok (.ifCond .eq 6, 3) := by decide +kernel
theorem dX3_countWithin_33 : decode cX3_countWithin 33 = .ok (.iinc 2 1, 3) := by decide +kernel
theorem dX3_countWithin_36 : decode cX3_countWithin 36 = .ok (.iinc 3 1, 3) := by decide +kernel
theorem dX3_countWithin_39 : decode cX3_countWithin 39 = .ok (.goto (-35), 3) := by decide +kernel
theorem dX3_countWithin_42 : decode cX3_countWithin 42 = .ok (.iload_n 2, 1) := by decide +kernel
theorem dX3_countWithin_43 : decode cX3_countWithin 43 = .ok (.ireturn, 1) := by decide +kernel
theorem dX3_countAbbreviations_0 : decode cX3_countAbbreviations 0 = .ok (.iconst 0, 1) := by decide +kernel
theorem dX3_countAbbreviations_1 : decode cX3_countAbbreviations 1 = .ok (.istore_n 2, 1) := by decide +kernel
theorem dX3_countAbbreviations_2 : decode cX3_countAbbreviations 2 = .ok (.iconst 1, 1) := by decide +kernel
theorem dX3_countAbbreviations_3 : decode cX3_countAbbreviations 3 = .ok (.istore_n 3, 1) := by decide +kernel
theorem dX3_countAbbreviations_4 : decode cX3_countAbbreviations 4 = .ok (.iload_n 3, 1) := by decide +kernel
theorem dX3_countAbbreviations_5 : decode cX3_countAbbreviations 5 = .ok (.aload_n 0, 1) := by decide +kernel
theorem dX3_countAbbreviations_6 : decode cX3_countAbbreviations 6 = .ok (.getfield 15, 3) := by decide +kernel
theorem dX3_countAbbreviations_9 : decode cX3_countAbbreviations 9 = .ok (.if_icmp .gt 33, 3) := by decide +kernel
theorem dX3_countAbbreviations_12 : decode cX3_countAbbreviations 12 = .ok (.aload_n 0, 1) := by decide +kernel
theorem dX3_countAbbreviations_13 : decode cX3_countAbbreviations 13 = .ok (.iload_n 3, 1) := by decide +kernel
theorem dX3_countAbbreviations_14 : decode cX3_countAbbreviations 14 = .ok (.invokevirtual 37, 3) := by decide +kernel
theorem dX3_countAbbreviations_17 : decode cX3_countAbbreviations 17 = .ok (.astore 4, 2) := by decide +kernel
theorem dX3_countAbbreviations_19 : decode cX3_countAbbreviations 19 = .ok (.aload 4, 2) := by decide +kernel
theorem dX3_countAbbreviations_21 : decode cX3_countAbbreviations 21 = .ok (.ifnull 15, 3) := by decide +kernel
theorem dX3_countAbbreviations_24 : decode cX3_countAbbreviations 24 = .ok (.aload 4, 2) := by decide +kernel
theorem dX3_countAbbreviations_26 : decode cX3_countAbbreviations 26 = .ok (.getfield 55, 3) := by decide +kernel
theorem dX3_countAbbreviations_29 : decode cX3_countAbbreviations 29 = .ok (.aload_n 1, 1) := by decide +kernel
theorem dX3_countAbbreviations_30 : decode cX3_countAbbreviations 30 = .ok (.if_acmp .ne 6, 3) := by decide +kernel
theorem dX3_countAbbreviations_33 : decode cX3_countAbbreviations 33 = .ok (.iinc 2 1, 3) := by decide +kernel
theorem dX3_countAbbreviations_36 : decode cX3_countAbbreviations 36 = .ok (.iinc 3 1, 3) := by decide +kernel
theorem dX3_countAbbreviations_39 : decode cX3_countAbbreviations 39 = .ok (.goto (-35), 3) := by decide +kernel
theorem dX3_countAbbreviations_42 : decode cX3_countAbbreviations 42 = .ok (.iload_n 2, 1) := by decide +kernel
theorem dX3_countAbbreviations_43 : decode cX3_countAbbreviations 43 = .ok (.ireturn, 1) := by decide +kernel
theorem dX3_reckonSums_0 : decode cX3_reckonSums 0 = .ok (.iconst 1, 1) := by decide +kernel
theorem dX3_reckonSums_1 : decode cX3_reckonSums 1 = .ok (.istore_n 1, 1) := by decide +kernel
theorem dX3_reckonSums_2 : decode cX3_reckonSums 2 = .ok (.iload_n 1, 1) := by decide +kernel
theorem dX3_reckonSums_3 : decode cX3_reckonSums 3 = .ok (.aload_n 0, 1) := by decide +kernel
theorem dX3_reckonSums_4 : decode cX3_reckonSums 4 = .ok (.getfield 15, 3) := by decide +kernel
theorem dX3_reckonSums_7 : decode cX3_reckonSums 7 = .ok (.if_icmp .gt 31, 3) := by decide +kernel
theorem dX3_reckonSums_10 : decode cX3_reckonSums 10 = .ok (.aload_n 0, 1) := by decide +kernel
theorem dX3_reckonSums_11 : decode cX3_reckonSums 11 = .ok (.iload_n 1, 1) := by decide +kernel
theorem dX3_reckonSums_12 : decode cX3_reckonSums 12 = .ok (.invokevirtual 37, 3) := by decide +kernel
theorem dX3_reckonSums_15 : decode cX3_reckonSums 15 = .ok (.astore_n 2, 1) := by decide +kernel
theorem dX3_reckonSums_16 : decode cX3_reckonSums 16 = .ok (.aload_n 2, 1) := by decide +kernel
theorem dX3_reckonSums_17 : decode cX3_reckonSums 17 = .ok (.ifnull 15, 3) := by decide +kernel
theorem dX3_reckonSums_20 : decode cX3_reckonSums 20 = .ok (.aload_n 2, 1) := by decide +kernel
theorem dX3_reckonSums_21 : decode cX3_reckonSums 21 = .ok (.aload_n 0, 1) := by decide +kernel
theorem dX3_reckonSums_22 : decode cX3_reckonSums 22 = .ok (.getfield 22, 3) := by decide +kernel
theorem dX3_reckonSums_25 : decode cX3_reckonSums 25 = .ok (.aload_n 2, 1) := by decide +kernel
theorem dX3_reckonSums_26 : decode cX3_reckonSums 26 = .ok (.invokevirtual 132, 3) := by decide +kernel
theorem dX3_reckonSums_29 : decode cX3_reckonSums 29 = .ok (.putfield 84, 3) := by decide +kernel
theorem dX3_reckonSums_32 : decode cX3_reckonSums 32 = .ok (.iinc 1 1, 3) := by decide +kernel
theorem dX3_reckonSums_35 : decode cX3_reckonSums 35 = .ok (.goto (-33), 3) := by decide +kernel
theorem dX3_reckonSums_38 : decode cX3_reckonSums 38 = .ok (.iconst 1, 1) := by decide +kernel
theorem dX3_reckonSums_39 : decode cX3_reckonSums 39 = .ok (.istore_n 1, 1) := by decide +kernel
theorem dX3_reckonSums_40 : decode cX3_reckonSums 40 = .ok (.iload_n 1, 1) := by decide +kernel
theorem dX3_reckonSums_41 : decode cX3_reckonSums 41 = .ok (.aload_n 0, 1) := by decide +kernel
theorem dX3_reckonSums_42 : decode cX3_reckonSums 42 = .ok (.getfield 15, 3) := by decide +kernel
theorem dX3_reckonSums_45 : decode cX3_reckonSums 45 = .ok (.if_icmp .gt 47, 3) := by decide +kernel
theorem dX3_reckonSums_48 : decode cX3_reckonSums 48 = .ok (.aload_n 0, 1) := by decide +kernel
theorem dX3_reckonSums_49 : decode cX3_reckonSums 49 = .ok (.iload_n 1, 1) := by decide +kernel
theorem dX3_reckonSums_50 : decode cX3_reckonSums 50 = .ok (.invokevirtual 37, 3) := by decide +kernel
theorem dX3_reckonSums_53 : decode cX3_reckonSums 53 = .ok (.astore_n 2, 1) := by decide +kernel
theorem dX3_reckonSums_54 : decode cX3_reckonSums 54 = .ok (.aload_n 2, 1) := by decide +kernel
theorem dX3_reckonSums_55 : decode cX3_reckonSums 55 = .ok (.ifnull 31, 3) := by decide +kernel
theorem dX3_reckonSums_58 : decode cX3_reckonSums 58 = .ok (.aload_n 2, 1) := by decide +kernel
theorem dX3_reckonSums_59 : decode cX3_reckonSums 59 = .ok (.getfield 55, 3) := by decide +kernel
theorem dX3_reckonSums_62 : decode cX3_reckonSums 62 = .ok (.ifnull 24, 3) := by decide +kernel
theorem dX3_reckonSums_65 : decode cX3_reckonSums 65 = .ok (.aload_n 2, 1) := by decide +kernel
theorem dX3_reckonSums_66 : decode cX3_reckonSums 66 = .ok (.getfield 55, 3) := by decide +kernel
theorem dX3_reckonSums_69 : decode cX3_reckonSums 69 = .ok (.aload_n 2, 1) := by decide +kernel
theorem dX3_reckonSums_70 : decode cX3_reckonSums 70 = .ok (.getfield 55, 3) := by decide +kernel
theorem dX3_reckonSums_73 : decode cX3_reckonSums 73 = .ok (.getfield 84, 3) := by decide +kernel
theorem dX3_reckonSums_76 : decode cX3_reckonSums 76 = .ok (.aload_n 2, 1) := by decide +kernel
theorem dX3_reckonSums_77 : decode cX3_reckonSums 77 = .ok (.getfield 84, 3) := by decide +kernel
theorem dX3_reckonSums_80 : decode cX3_reckonSums 80 = .ok (.invokestatic 135, 3) := by decide +kernel
theorem dX3_reckonSums_83 : decode cX3_reckonSums 83 = .ok (.putfield 84, 3) := by decide +kernel
theorem dX3_reckonSums_86 : decode cX3_reckonSums 86 = .ok (.iinc 1 1, 3) := by decide +kernel
theorem dX3_reckonSums_89 : decode cX3_reckonSums 89 = .ok (.goto (-49), 3) := by decide +kernel
theorem dX3_reckonSums_92 : decode cX3_reckonSums 92 = .ok (.return_, 1) := by decide +kernel
theorem dX4_init_0 : decode cX4_init 0 = .ok (.aload_n 0, 1) := by decide +kernel
theorem dX4_init_1 : decode cX4_init 1 = .ok (.invokespecial 1, 3) := by decide +kernel
theorem dX4_init_4 : decode cX4_init 4 = .ok (.aload_n 0, 1) := by decide +kernel
theorem dX4_init_5 : decode cX4_init 5 = .ok (.sipush 201, 3) := by decide +kernel
theorem dX4_init_8 : decode cX4_init 8 = .ok (.newarray .boolean, 2) := by decide +kernel
theorem dX4_init_10 : decode cX4_init 10 = .ok (.putfield 7, 3) := by decide +kernel
theorem dX4_init_13 : decode cX4_init 13 = .ok (.aload_n 0, 1) := by decide +kernel
theorem dX4_init_14 : decode cX4_init 14 = .ok (.sipush 201, 3) := by decide +kernel
theorem dX4_init_17 : decode cX4_init 17 = .ok (.newarray .int, 2) := by decide +kernel
theorem dX4_init_19 : decode cX4_init 19 = .ok (.putfield 13, 3) := by decide +kernel
theorem dX4_init_22 : decode cX4_init 22 = .ok (.aload_n 0, 1) := by decide +kernel
theorem dX4_init_23 : decode cX4_init 23 = .ok (.sipush 4020, 3) := by decide +kernel
theorem dX4_init_26 : decode cX4_init 26 = .ok (.newarray .int, 2) := by decide +kernel
theorem dX4_init_28 : decode cX4_init 28 = .ok (.putfield 17, 3) := by decide +kernel
theorem dX4_init_31 : decode cX4_init 31 = .ok (.aload_n 0, 1) := by decide +kernel
theorem dX4_init_32 : decode cX4_init 32 = .ok (.sipush 201, 3) := by decide +kernel
theorem dX4_init_35 : decode cX4_init 35 = .ok (.newarray .int, 2) := by decide +kernel
theorem dX4_init_37 : decode cX4_init 37 = .ok (.putfield 20, 3) := by decide +kernel
theorem dX4_init_40 : decode cX4_init 40 = .ok (.aload_n 0, 1) := by decide +kernel
theorem dX4_init_41 : decode cX4_init 41 = .ok (.sipush 201, 3) := by decide +kernel
theorem dX4_init_44 : decode cX4_init 44 = .ok (.newarray .int, 2) := by decide +kernel
theorem dX4_init_46 : decode cX4_init 46 = .ok (.putfield 23, 3) := by decide +kernel
theorem dX4_init_49 : decode cX4_init 49 = .ok (.aload_n 0, 1) := by decide +kernel
theorem dX4_init_50 : decode cX4_init 50 = .ok (.iconst (-1), 1) := by decide +kernel
theorem dX4_init_51 : decode cX4_init 51 = .ok (.putfield 26, 3) := by decide +kernel
theorem dX4_init_54 : decode cX4_init 54 = .ok (.aload_n 0, 1) := by decide +kernel
theorem dX4_init_55 : decode cX4_init 55 = .ok (.sipush 2560, 3) := by decide +kernel
theorem dX4_init_58 : decode cX4_init 58 = .ok (.newarray .int, 2) := by decide +kernel
theorem dX4_init_60 : decode cX4_init 60 = .ok (.putfield 30, 3) := by decide +kernel
theorem dX4_init_63 : decode cX4_init 63 = .ok (.aload_n 0, 1) := by decide +kernel
theorem dX4_init_64 : decode cX4_init 64 = .ok (.sipush 441, 3) := by decide +kernel
theorem dX4_init_67 : decode cX4_init 67 = .ok (.newarray .int, 2) := by decide +kernel
theorem dX4_init_69 : decode cX4_init 69 = .ok (.putfield 33, 3) := by decide +kernel
theorem dX4_init_72 : decode cX4_init 72 = .ok (.aload_n 0, 1) := by decide +kernel
theorem dX4_init_73 : decode cX4_init 73 = .ok (.sipush 200, 3) := by decide +kernel
theorem dX4_init_76 : decode cX4_init 76 = .ok (.newarray .int, 2) := by decide +kernel
theorem dX4_init_78 : decode cX4_init 78 = .ok (.putfield 36, 3) := by decide +kernel
theorem dX4_init_81 : decode cX4_init 81 = .ok (.aload_n 0, 1) := by decide +kernel
theorem dX4_init_82 : decode cX4_init 82 = .ok (.sipush 200, 3) := by decide +kernel
theorem dX4_init_85 : decode cX4_init 85 = .ok (.newarray .int, 2) := by decide +kernel
theorem dX4_init_87 : decode cX4_init 87 = .ok (.putfield 39, 3) := by decide +kernel
theorem dX4_init_90 : decode cX4_init 90 = .ok (.aload_n 0, 1) := by decide +kernel
theorem dX4_init_91 : decode cX4_init 91 = .ok (.sipush 201, 3) := by decide +kernel
theorem dX4_init_94 : decode cX4_init 94 = .ok (.newarray .int, 2) := by decide +kernel
theorem dX4_init_96 : decode cX4_init 96 = .ok (.putfield 42, 3) := by decide +kernel
theorem dX4_init_99 : decode cX4_init 99 = .ok (.aload_n 0, 1) := by decide +kernel
theorem dX4_init_100 : decode cX4_init 100 = .ok (.invokevirtual 45, 3) := by decide +kernel
theorem dX4_init_103 : decode cX4_init 103 = .ok (.return_, 1) := by decide +kernel
theorem dX4_forget_0 : decode cX4_forget 0 = .ok (.aload_n 0, 1) := by decide +kernel
theorem dX4_forget_1 : decode cX4_forget 1 = .ok (.iconst 0, 1) := by decide +kernel
theorem dX4_forget_2 : decode cX4_forget 2 = .ok (.putfield 48, 3) := by decide +kernel
theorem dX4_forget_5 : decode cX4_forget 5 = .ok (.iconst 0, 1) := by decide +kernel
theorem dX4_forget_6 : decode cX4_forget 6 = .ok (.istore_n 1, 1) := by decide +kernel
theorem dX4_forget_7 : decode cX4_forget 7 = .ok (.iload_n 1, 1) := by decide +kernel
theorem dX4_forget_8 : decode cX4_forget 8 = .ok (.sipush 2560, 3) := by decide +kernel
theorem dX4_forget_11 : decode cX4_forget 11 = .ok (.if_icmp .ge 16, 3) := by decide +kernel
theorem dX4_forget_14 : decode cX4_forget 14 = .ok (.aload_n 0, 1) := by decide +kernel
theorem dX4_forget_15 : decode cX4_forget 15 = .ok (.getfield 30, 3) := by decide +kernel
theorem dX4_forget_18 : decode cX4_forget 18 = .ok (.iload_n 1, 1) := by decide +kernel
theorem dX4_forget_19 : decode cX4_forget 19 = .ok (.iconst (-1), 1) := by decide +kernel
theorem dX4_forget_20 : decode cX4_forget 20 = .ok (.iastore, 1) := by decide +kernel
theorem dX4_forget_21 : decode cX4_forget 21 = .ok (.iinc 1 1, 3) := by decide +kernel
theorem dX4_forget_24 : decode cX4_forget 24 = .ok (.goto (-17), 3) := by decide +kernel
theorem dX4_forget_27 : decode cX4_forget 27 = .ok (.return_, 1) := by decide +kernel
theorem dX4_between_0 : decode cX4_between 0 = .ok (.iload_n 0, 1) := by decide +kernel
theorem dX4_between_1 : decode cX4_between 1 = .ok (.iload_n 1, 1) := by decide +kernel
theorem dX4_between_2 : decode cX4_between 2 = .ok (.if_icmp .lt 12, 3) := by decide +kernel
theorem dX4_between_5 : decode cX4_between 5 = .ok (.iload_n 0, 1) := by decide +kernel
theorem dX4_between_6 : decode cX4_between 6 = .ok (.iload_n 2, 1) := by decide +kernel
theorem dX4_between_7 : decode cX4_between 7 = .ok (.if_icmp .gt 7, 3) := by decide +kernel
theorem dX4_between_10 : decode cX4_between 10 = .ok (.iconst 1, 1) := by decide +kernel
theorem dX4_between_11 : decode cX4_between 11 = .ok (.goto 4, 3) := by decide +kernel
theorem dX4_between_14 : decode cX4_between 14 = .ok (.iconst 0, 1) := by decide +kernel
theorem dX4_between_15 : decode cX4_between 15 = .ok (.ireturn, 1) := by decide +kernel
theorem dX4_isEntry_0 : decode cX4_isEntry 0 = .ok (.iload_n 1, 1) := by decide +kernel
theorem dX4_isEntry_1 : decode cX4_isEntry 1 = .ok (.iconst 1, 1) := by decide +kernel
theorem dX4_isEntry_2 : decode cX4_isEntry 2 = .ok (.aload_n 0, 1) := by decide +kernel
theorem dX4_isEntry_3 : decode cX4_isEntry 3 = .ok (.getfield 51, 3) := by decide +kernel
theorem dX4_isEntry_6 : decode cX4_isEntry 6 = .ok (.invokestatic 54, 3) := by decide +kernel
theorem dX4_isEntry_9 : decode cX4_isEntry 9 = .ok (.ifCond .eq 16, 3) := by decide +kernel
theorem dX4_isEntry_12 : decode cX4_isEntry 12 = .ok (.aload_n 0, 1) := by decide +kernel
theorem dX4_isEntry_13 : decode cX4_isEntry 13 = .ok (.getfield 7, 3) := by decide +kernel
theorem dX4_isEntry_16 : decode cX4_isEntry 16 = .ok (.iload_n 1, 1) := by decide +kernel
theorem dX4_isEntry_17 : decode cX4_isEntry 17 = .ok (.baload, 1) := by decide +kernel
theorem dX4_isEntry_18 : decode cX4_isEntry 18 = .ok (.ifCond .eq 7, 3) := by decide +kernel
theorem dX4_isEntry_21 : decode cX4_isEntry 21 = .ok (.iconst 1, 1) := by decide +kernel
theorem dX4_isEntry_22 : decode cX4_isEntry 22 = .ok (.goto 4, 3) := by decide +kernel
theorem dX4_isEntry_25 : decode cX4_isEntry 25 = .ok (.iconst 0, 1) := by decide +kernel
theorem dX4_isEntry_26 : decode cX4_isEntry 26 = .ok (.ireturn, 1) := by decide +kernel
theorem dX4_entry_0 : decode cX4_entry 0 = .ok (.aload_n 0, 1) := by decide +kernel
theorem dX4_entry_1 : decode cX4_entry 1 = .ok (.getfield 51, 3) := by decide +kernel
theorem dX4_entry_4 : decode cX4_entry 4 = .ok (.sipush 200, 3) := by decide +kernel
theorem dX4_entry_7 : decode cX4_entry 7 = .ok (.if_icmp .ne 6, 3) := by decide +kernel
theorem dX4_entry_10 : decode cX4_entry 10 = .ok (.bipush (-4), 2) := by decide +kernel
theorem dX4_entry_12 : decode cX4_entry 12 = .ok (.ireturn, 1) := by decide +kernel
theorem dX4_entry_13 : decode cX4_entry 13 = .ok (.aload_n 0, 1) := by decide +kernel
theorem dX4_entry_14 : decode cX4_entry 14 = .ok (.dup, 1) := by decide +kernel
theorem dX4_entry_15 : decode cX4_entry 15 = .ok (.getfield 51, 3) := by decide +kernel
theorem dX4_entry_18 : decode cX4_entry 18 = .ok (.iconst 1, 1) := by decide +kernel
theorem dX4_entry_19 : decode cX4_entry 19 = .ok (.iadd, 1) := by decide +kernel
theorem dX4_entry_20 : decode cX4_entry 20 = .ok (.putfield 51, 3) := by decide +kernel
theorem dX4_entry_23 : decode cX4_entry 23 = .ok (.aload_n 0, 1) := by decide +kernel
theorem dX4_entry_24 : decode cX4_entry 24 = .ok (.getfield 7, 3) := by decide +kernel
theorem dX4_entry_27 : decode cX4_entry 27 = .ok (.aload_n 0, 1) := by decide +kernel
theorem dX4_entry_28 : decode cX4_entry 28 = .ok (.getfield 51, 3) := by decide +kernel
theorem dX4_entry_31 : decode cX4_entry 31 = .ok (.iconst 1, 1) := by decide +kernel
theorem dX4_entry_32 : decode cX4_entry 32 = .ok (.bastore, 1) := by decide +kernel
theorem dX4_entry_33 : decode cX4_entry 33 = .ok (.aload_n 0, 1) := by decide +kernel
theorem dX4_entry_34 : decode cX4_entry 34 = .ok (.getfield 51, 3) := by decide +kernel
theorem dX4_entry_37 : decode cX4_entry 37 = .ok (.ireturn, 1) := by decide +kernel
theorem dX4_letter_0 : decode cX4_letter 0 = .ok (.aload_n 0, 1) := by decide +kernel
theorem dX4_letter_1 : decode cX4_letter 1 = .ok (.iload_n 1, 1) := by decide +kernel
theorem dX4_letter_2 : decode cX4_letter 2 = .ok (.invokevirtual 58, 3) := by decide +kernel
theorem dX4_letter_5 : decode cX4_letter 5 = .ok (.ifCond .ne 5, 3) := by decide +kernel
theorem dX4_letter_8 : decode cX4_letter 8 = .ok (.iconst (-1), 1) := by decide +kernel
theorem dX4_letter_9 : decode cX4_letter 9 = .ok (.ireturn, 1) := by decide +kernel
theorem dX4_letter_10 : decode cX4_letter 10 = .ok (.iload_n 2, 1) := by decide +kernel
theorem dX4_letter_11 : decode cX4_letter 11 = .ok (.bipush 33, 2) := by decide +kernel
theorem dX4_letter_13 : decode cX4_letter 13 = .ok (.bipush 126, 2) := by decide +kernel
theorem dX4_letter_15 : decode cX4_letter 15 = .ok (.invokestatic 54, 3) := by decide +kernel
theorem dX4_letter_18 : decode cX4_letter 18 = .ok (.ifCond .ne 6, 3) := by decide +kernel
theorem dX4_letter_21 : decode cX4_letter 21 = .ok (.bipush (-2), 2) := by decide +kernel
theorem dX4_letter_23 : decode cX4_letter 23 = .ok (.ireturn, 1) := by decide +kernel
theorem dX4_letter_24 : decode cX4_letter 24 = .ok (.aload_n 0, 1) := by decide +kernel
theorem dX4_letter_25 : decode cX4_letter 25 = .ok (.getfield 13, 3) := by decide +kernel
theorem dX4_letter_28 : decode cX4_letter 28 = .ok (.iload_n 1, 1) := by decide +kernel
theorem dX4_letter_29 : decode cX4_letter 29 = .ok (.iaload, 1) := by decide +kernel
theorem dX4_letter_30 : decode cX4_letter 30 = .ok (.bipush 20, 2) := by decide +kernel
theorem dX4_letter_32 : decode cX4_letter 32 = .ok (.if_icmp .ne 6, 3) := by decide +kernel
theorem dX4_letter_35 : decode cX4_letter 35 = .ok (.bipush (-4), 2) := by decide +kernel
theorem dX4_letter_37 : decode cX4_letter 37 = .ok (.ireturn, 1) := by decide +kernel
theorem dX4_letter_38 : decode cX4_letter 38 = .ok (.aload_n 0, 1) := by decide +kernel
theorem dX4_letter_39 : decode cX4_letter 39 = .ok (.getfield 17, 3) := by decide +kernel
theorem dX4_letter_42 : decode cX4_letter 42 = .ok (.bipush 20, 2) := by decide +kernel
theorem dX4_letter_44 : decode cX4_letter 44 = .ok (.iload_n 1, 1) := by decide +kernel
theorem dX4_letter_45 : decode cX4_letter 45 = .ok (.imul, 1) := by decide +kernel
theorem dX4_letter_46 : decode cX4_letter 46 = .ok (.aload_n 0, 1) := by decide +kernel
theorem dX4_letter_47 : decode cX4_letter 47 = .ok (.getfield 13, 3) := by decide +kernel
theorem dX4_letter_50 : decode cX4_letter 50 = .ok (.iload_n 1, 1) := by decide +kernel
theorem dX4_letter_51 : decode cX4_letter 51 = .ok (.iaload, 1) := by decide +kernel
theorem dX4_letter_52 : decode cX4_letter 52 = .ok (.iadd, 1) := by decide +kernel
theorem dX4_letter_53 : decode cX4_letter 53 = .ok (.iload_n 2, 1) := by decide +kernel
theorem dX4_letter_54 : decode cX4_letter 54 = .ok (.iastore, 1) := by decide +kernel
theorem dX4_letter_55 : decode cX4_letter 55 = .ok (.aload_n 0, 1) := by decide +kernel
theorem dX4_letter_56 : decode cX4_letter 56 = .ok (.getfield 13, 3) := by decide +kernel
theorem dX4_letter_59 : decode cX4_letter 59 = .ok (.iload_n 1, 1) := by decide +kernel
theorem dX4_letter_60 : decode cX4_letter 60 = .ok (.dup2, 1) := by decide +kernel
theorem dX4_letter_61 : decode cX4_letter 61 = .ok (.iaload, 1) := by decide +kernel
theorem dX4_letter_62 : decode cX4_letter 62 = .ok (.iconst 1, 1) := by decide +kernel
theorem dX4_letter_63 : decode cX4_letter 63 = .ok (.iadd, 1) := by decide +kernel
theorem dX4_letter_64 : decode cX4_letter 64 = .ok (.iastore, 1) := by decide +kernel
theorem dX4_letter_65 : decode cX4_letter 65 = .ok (.aload_n 0, 1) := by decide +kernel
theorem dX4_letter_66 : decode cX4_letter 66 = .ok (.getfield 13, 3) := by decide +kernel
theorem dX4_letter_69 : decode cX4_letter 69 = .ok (.iload_n 1, 1) := by decide +kernel
theorem dX4_letter_70 : decode cX4_letter 70 = .ok (.iaload, 1) := by decide +kernel
theorem dX4_letter_71 : decode cX4_letter 71 = .ok (.ireturn, 1) := by decide +kernel
theorem dX4_count_0 : decode cX4_count 0 = .ok (.iconst 0, 1) := by decide +kernel
theorem dX4_count_1 : decode cX4_count 1 = .ok (.istore_n 1, 1) := by decide +kernel
theorem dX4_count_2 : decode cX4_count 2 = .ok (.iconst 1, 1) := by decide +kernel
theorem dX4_count_3 : decode cX4_count 3 = .ok (.istore_n 2, 1) := by decide +kernel
theorem dX4_count_4 : decode cX4_count 4 = .ok (.iload_n 2, 1) := by decide +kernel
theorem dX4_count_5 : decode cX4_count 5 = .ok (.aload_n 0, 1) := by decide +kernel
theorem dX4_count_6 : decode cX4_count 6 = .ok (.getfield 51, 3) := by decide +kernel
theorem dX4_count_9 : decode cX4_count 9 = .ok (.if_icmp .gt 26, 3) := by decide +kernel
theorem dX4_count_12 : decode cX4_count 12 = .ok (.aload_n 0, 1) := by decide +kernel
theorem dX4_count_13 : decode cX4_count 13 = .ok (.getfield 7, 3) := by decide +kernel
theorem dX4_count_16 : decode cX4_count 16 = .ok (.iload_n 2, 1) := by decide +kernel
theorem dX4_count_17 : decode cX4_count 17 = .ok (.baload, 1) := by decide +kernel
theorem dX4_count_18 : decode cX4_count 18 = .ok (.ifCond .eq 9, 3) := by decide +kernel
theorem dX4_count_21 : decode cX4_count 21 = .ok (.iload_n 1, 1) := by decide +kernel
theorem dX4_count_22 : decode cX4_count 22 = .ok (.iconst 1, 1) := by decide +kernel
theorem dX4_count_23 : decode cX4_count 23 = .ok (.iadd, 1) := by decide +kernel
theorem dX4_count_24 : decode cX4_count 24 = .ok (.goto 4, 3) := by decide +kernel
theorem dX4_count_27 : decode cX4_count 27 = .ok (.iload_n 1, 1) := by decide +kernel
theorem dX4_count_28 : decode cX4_count 28 = .ok (.istore_n 1, 1) := by decide +kernel
theorem dX4_count_29 : decode cX4_count 29 = .ok (.iinc 2 1, 3) := by decide +kernel
theorem dX4_count_32 : decode cX4_count 32 = .ok (.goto (-28), 3) := by decide +kernel
theorem dX4_count_35 : decode cX4_count 35 = .ok (.iload_n 1, 1) := by decide +kernel
theorem dX4_count_36 : decode cX4_count 36 = .ok (.ireturn, 1) := by decide +kernel
theorem dX4_drop_0 : decode cX4_drop 0 = .ok (.aload_n 0, 1) := by decide +kernel
theorem dX4_drop_1 : decode cX4_drop 1 = .ok (.iload_n 1, 1) := by decide +kernel
theorem dX4_drop_2 : decode cX4_drop 2 = .ok (.invokevirtual 58, 3) := by decide +kernel
theorem dX4_drop_5 : decode cX4_drop 5 = .ok (.ifCond .ne 5, 3) := by decide +kernel
theorem dX4_drop_8 : decode cX4_drop 8 = .ok (.iconst (-1), 1) := by decide +kernel
theorem dX4_drop_9 : decode cX4_drop 9 = .ok (.ireturn, 1) := by decide +kernel
theorem dX4_drop_10 : decode cX4_drop 10 = .ok (.aload_n 0, 1) := by decide +kernel
theorem dX4_drop_11 : decode cX4_drop 11 = .ok (.getfield 7, 3) := by decide +kernel
theorem dX4_drop_14 : decode cX4_drop 14 = .ok (.iload_n 1, 1) := by decide +kernel
theorem dX4_drop_15 : decode cX4_drop 15 = .ok (.iconst 0, 1) := by decide +kernel
theorem dX4_drop_16 : decode cX4_drop 16 = .ok (.bastore, 1) := by decide +kernel
theorem dX4_drop_17 : decode cX4_drop 17 = .ok (.iconst 1, 1) := by decide +kernel
theorem dX4_drop_18 : decode cX4_drop 18 = .ok (.istore_n 2, 1) := by decide +kernel
theorem dX4_drop_19 : decode cX4_drop 19 = .ok (.iload_n 2, 1) := by decide +kernel
theorem dX4_drop_20 : decode cX4_drop 20 = .ok (.aload_n 0, 1) := by decide +kernel
theorem dX4_drop_21 : decode cX4_drop 21 = .ok (.getfield 51, 3) := by decide +kernel
theorem dX4_drop_24 : decode cX4_drop 24 = .ok (.if_icmp .gt 35, 3) := by decide +kernel
theorem dX4_drop_27 : decode cX4_drop 27 = .ok (.aload_n 0, 1) := by decide +kernel
theorem dX4_drop_28 : decode cX4_drop 28 = .ok (.getfield 20, 3) := by decide +kernel
theorem dX4_drop_31 : decode cX4_drop 31 = .ok (.iload_n 2, 1) := by decide +kernel
theorem dX4_drop_32 : decode cX4_drop 32 = .ok (.aload_n 0, 1) := by decide +kernel
theorem dX4_drop_33 : decode cX4_drop 33 = .ok (.getfield 20, 3) := by decide +kernel
theorem dX4_drop_36 : decode cX4_drop 36 = .ok (.iload_n 2, 1) := by decide +kernel
theorem dX4_drop_37 : decode cX4_drop 37 = .ok (.iaload, 1) := by decide +kernel
theorem dX4_drop_38 : decode cX4_drop 38 = .ok (.iload_n 1, 1) := by decide +kernel
theorem dX4_drop_39 : decode cX4_drop 39 = .ok (.if_icmp .ne 7, 3) := by decide +kernel
theorem dX4_drop_42 : decode cX4_drop 42 = .ok (.iconst 0, 1) := by decide +kernel
theorem dX4_drop_43 : decode cX4_drop 43 = .ok (.goto 9, 3) := by decide +kernel
theorem dX4_drop_46 : decode cX4_drop 46 = .ok (.aload_n 0, 1) := by decide +kernel
theorem dX4_drop_47 : decode cX4_drop 47 = .ok (.getfield 20, 3) := by decide +kernel
theorem dX4_drop_50 : decode cX4_drop 50 = .ok (.iload_n 2, 1) := by decide +kernel
theorem dX4_drop_51 : decode cX4_drop 51 = .ok (.iaload, 1) := by decide +kernel
theorem dX4_drop_52 : decode cX4_drop 52 = .ok (.iastore, 1) := by decide +kernel
theorem dX4_drop_53 : decode cX4_drop 53 = .ok (.iinc 2 1, 3) := by decide +kernel
theorem dX4_drop_56 : decode cX4_drop 56 = .ok (.goto (-37), 3) := by decide +kernel
theorem dX4_drop_59 : decode cX4_drop 59 = .ok (.aload_n 0, 1) := by decide +kernel
theorem dX4_drop_60 : decode cX4_drop 60 = .ok (.invokevirtual 62, 3) := by decide +kernel
theorem dX4_drop_63 : decode cX4_drop 63 = .ok (.ireturn, 1) := by decide +kernel
theorem dX4_cost_0 : decode cX4_cost 0 = .ok (.iload_n 1, 1) := by decide +kernel
theorem dX4_cost_1 : decode cX4_cost 1 = .ok (.iconst 0, 1) := by decide +kernel
theorem dX4_cost_2 : decode cX4_cost 2 = .ok (.bipush 19, 2) := by decide +kernel
theorem dX4_cost_4 : decode cX4_cost 4 = .ok (.invokestatic 54, 3) := by decide +kernel
theorem dX4_cost_7 : decode cX4_cost 7 = .ok (.ifCond .eq 25, 3) := by decide +kernel
theorem dX4_cost_10 : decode cX4_cost 10 = .ok (.iload_n 2, 1) := by decide +kernel
theorem dX4_cost_11 : decode cX4_cost 11 = .ok (.bipush 33, 2) := by decide +kernel
theorem dX4_cost_13 : decode cX4_cost 13 = .ok (.bipush 126, 2) := by decide +kernel
theorem dX4_cost_15 : decode cX4_cost 15 = .ok (.invokestatic 54, 3) := by decide +kernel
theorem dX4_cost_18 : decode cX4_cost 18 = .ok (.ifCond .eq 14, 3) := by decide +kernel
theorem dX4_cost_21 : decode cX4_cost 21 = .ok (.iload_n 3, 1) := by decide +kernel
theorem dX4_cost_22 : decode cX4_cost 22 = .ok (.iconst 0, 1) := by decide +kernel
theorem dX4_cost_23 : decode cX4_cost 23 = .ok (.sipush 1000, 3) := by decide +kernel
theorem dX4_cost_26 : decode cX4_cost 26 = .ok (.invokestatic 54, 3) := by decide +kernel
theorem dX4_cost_29 : decode cX4_cost 29 = .ok (.ifCond .ne 6, 3) := by decide +kernel
theorem dX4_cost_32 : decode cX4_cost 32 = .ok (.bipush (-2), 2) := by decide +kernel
theorem dX4_cost_34 : decode cX4_cost 34 = .ok (.ireturn, 1) := by decide +kernel
theorem dX4_cost_35 : decode cX4_cost 35 = .ok (.aload_n 0, 1) := by decide +kernel
theorem dX4_cost_36 : decode cX4_cost 36 = .ok (.getfield 30, 3) := by decide +kernel
theorem dX4_cost_39 : decode cX4_cost 39 = .ok (.sipush 128, 3) := by decide +kernel
theorem dX4_cost_42 : decode cX4_cost 42 = .ok (.iload_n 1, 1) := by decide +kernel
theorem dX4_cost_43 : decode cX4_cost 43 = .ok (.imul, 1) := by decide +kernel
theorem dX4_cost_44 : decode cX4_cost 44 = .ok (.iload_n 2, 1) := by decide +kernel
theorem dX4_cost_45 : decode cX4_cost 45 = .ok (.iadd, 1) := by decide +kernel
theorem dX4_cost_46 : decode cX4_cost 46 = .ok (.iload_n 3, 1) := by decide +kernel
theorem dX4_cost_47 : decode cX4_cost 47 = .ok (.iastore, 1) := by decide +kernel
theorem dX4_cost_48 : decode cX4_cost 48 = .ok (.aload_n 0, 1) := by decide +kernel
theorem dX4_cost_49 : decode cX4_cost 49 = .ok (.iload_n 1, 1) := by decide +kernel
theorem dX4_cost_50 : decode cX4_cost 50 = .ok (.aload_n 0, 1) := by decide +kernel
theorem dX4_cost_51 : decode cX4_cost 51 = .ok (.getfield 48, 3) := by decide +kernel
theorem dX4_cost_54 : decode cX4_cost 54 = .ok (.if_icmp .ge 10, 3) := by decide +kernel
theorem dX4_cost_57 : decode cX4_cost 57 = .ok (.aload_n 0, 1) := by decide +kernel
theorem dX4_cost_58 : decode cX4_cost 58 = .ok (.getfield 48, 3) := by decide +kernel
theorem dX4_cost_61 : decode cX4_cost 61 = .ok (.goto 6, 3) := by decide +kernel
theorem dX4_cost_64 : decode cX4_cost 64 = .ok (.iload_n 1, 1) := by decide +kernel
theorem dX4_cost_65 : decode cX4_cost 65 = .ok (.iconst 1, 1) := by decide +kernel
theorem dX4_cost_66 : decode cX4_cost 66 = .ok (.iadd, 1) := by decide +kernel
theorem dX4_cost_67 : decode cX4_cost 67 = .ok (.putfield 48, 3) := by decide +kernel
theorem dX4_cost_70 : decode cX4_cost 70 = .ok (.aload_n 0, 1) := by decide +kernel
theorem dX4_cost_71 : decode cX4_cost 71 = .ok (.getfield 48, 3) := by decide +kernel
theorem dX4_cost_74 : decode cX4_cost 74 = .ok (.ireturn, 1) := by decide +kernel
theorem dX4_clear_0 : decode cX4_clear 0 = .ok (.aload_n 0, 1) := by decide +kernel
theorem dX4_clear_1 : decode cX4_clear 1 = .ok (.getfield 48, 3) := by decide +kernel
theorem dX4_clear_4 : decode cX4_clear 4 = .ok (.istore_n 1, 1) := by decide +kernel
theorem dX4_clear_5 : decode cX4_clear 5 = .ok (.aload_n 0, 1) := by decide +kernel
theorem dX4_clear_6 : decode cX4_clear 6 = .ok (.invokevirtual 45, 3) := by decide +kernel
theorem dX4_clear_9 : decode cX4_clear 9 = .ok (.iload_n 1, 1) := by decide +kernel
theorem dX4_clear_10 : decode cX4_clear 10 = .ok (.ireturn, 1) := by decide +kernel
theorem dX4_ownSum_0 : decode cX4_ownSum 0 = .ok (.iconst 0, 1) := by decide +kernel
theorem dX4_ownSum_1 : decode cX4_ownSum 1 = .ok (.istore_n 2, 1) := by decide +kernel
theorem dX4_ownSum_2 : decode cX4_ownSum 2 = .ok (.iload_n 2, 1) := by decide +kernel
theorem dX4_ownSum_3 : decode cX4_ownSum 3 = .ok (.aload_n 0, 1) := by decide +kernel
theorem dX4_ownSum_4 : decode cX4_ownSum 4 = .ok (.getfield 48, 3) := by decide +kernel
theorem dX4_ownSum_7 : decode cX4_ownSum 7 = .ok (.if_icmp .gt 227, 3) := by decide +kernel
theorem dX4_ownSum_10 : decode cX4_ownSum 10 = .ok (.iconst 0, 1) := by decide +kernel
theorem dX4_ownSum_11 : decode cX4_ownSum 11 = .ok (.istore_n 3, 1) := by decide +kernel
theorem dX4_ownSum_12 : decode cX4_ownSum 12 = .ok (.iload_n 3, 1) := by decide +kernel
theorem dX4_ownSum_13 : decode cX4_ownSum 13 = .ok (.aload_n 0, 1) := by decide +kernel
theorem dX4_ownSum_14 : decode cX4_ownSum 14 = .ok (.getfield 13, 3) := by decide +kernel
theorem dX4_ownSum_17 : decode cX4_ownSum 17 = .ok (.iload_n 1, 1) := by decide +kernel
theorem dX4_ownSum_18 : decode cX4_ownSum 18 = .ok (.iaload, 1) := by decide +kernel
theorem dX4_ownSum_19 : decode cX4_ownSum 19 = .ok (.if_icmp .gt 209, 3) := by decide +kernel
theorem dX4_ownSum_22 : decode cX4_ownSum 22 = .ok (.iload_n 2, 1) := by decide +kernel
theorem dX4_ownSum_23 : decode cX4_ownSum 23 = .ok (.ifCond .ne 11, 3) := by decide +kernel
theorem dX4_ownSum_26 : decode cX4_ownSum 26 = .ok (.iload_n 3, 1) := by decide +kernel
theorem dX4_ownSum_27 : decode cX4_ownSum 27 = .ok (.ifCond .ne 7, 3) := by decide +kernel
theorem dX4_ownSum_30 : decode cX4_ownSum 30 = .ok (.iconst 0, 1) := by decide +kernel
theorem dX4_ownSum_31 : decode cX4_ownSum 31 = .ok (.goto 5, 3) := by decide +kernel
theorem dX4_ownSum_34 : decode cX4_ownSum 34 = .ok (.ldc 66, 2) := by decide +kernel
theorem dX4_ownSum_36 : decode cX4_ownSum 36 = .ok (.istore 4, 2) := by decide +kernel
theorem dX4_ownSum_38 : decode cX4_ownSum 38 = .ok (.iload_n 3, 1) := by decide +kernel
theorem dX4_ownSum_39 : decode cX4_ownSum 39 = .ok (.ifCond .le 42, 3) := by decide +kernel
theorem dX4_ownSum_42 : decode cX4_ownSum 42 = .ok (.aload_n 0, 1) := by decide +kernel
theorem dX4_ownSum_43 : decode cX4_ownSum 43 = .ok (.getfield 33, 3) := by decide +kernel
theorem dX4_ownSum_46 : decode cX4_ownSum 46 = .ok (.bipush 21, 2) := by decide +kernel
theorem dX4_ownSum_48 : decode cX4_ownSum 48 = .ok (.iload_n 2, 1) := by decide +kernel
theorem dX4_ownSum_49 : decode cX4_ownSum 49 = .ok (.imul, 1) := by decide +kernel
theorem dX4_ownSum_50 : decode cX4_ownSum 50 = .ok (.iload_n 3, 1) := by decide +kernel
theorem dX4_ownSum_51 : decode cX4_ownSum 51 = .ok (.iadd, 1) := by decide +kernel
theorem dX4_ownSum_52 : decode cX4_ownSum 52 = .ok (.iconst 1, 1) := by decide +kernel
theorem dX4_ownSum_53 : decode cX4_ownSum 53 = .ok (.isub, 1) := by decide +kernel
theorem dX4_ownSum_54 : decode cX4_ownSum 54 = .ok (.iaload, 1) := by decide +kernel
theorem dX4_ownSum_55 : decode cX4_ownSum 55 = .ok (.bipush 30, 2) := by decide +kernel
theorem dX4_ownSum_57 : decode cX4_ownSum 57 = .ok (.iadd, 1) := by decide +kernel
theorem dX4_ownSum_58 : decode cX4_ownSum 58 = .ok (.iload 4, 2) := by decide +kernel
theorem dX4_ownSum_60 : decode cX4_ownSum 60 = .ok (.if_icmp .ge 21, 3) := by decide +kernel
theorem dX4_ownSum_63 : decode cX4_ownSum 63 = .ok (.aload_n 0, 1) := by decide +kernel
theorem dX4_ownSum_64 : decode cX4_ownSum 64 = .ok (.getfield 33, 3) := by decide +kernel
theorem dX4_ownSum_67 : decode cX4_ownSum 67 = .ok (.bipush 21, 2) := by decide +kernel
theorem dX4_ownSum_69 : decode cX4_ownSum 69 = .ok (.iload_n 2, 1) := by decide +kernel
theorem dX4_ownSum_70 : decode cX4_ownSum 70 = .ok (.imul, 1) := by decide +kernel
theorem dX4_ownSum_71 : decode cX4_ownSum 71 = .ok (.iload_n 3, 1) := by decide +kernel
theorem dX4_ownSum_72 : decode cX4_ownSum 72 = .ok (.iadd, 1) := by decide +kernel
theorem dX4_ownSum_73 : decode cX4_ownSum 73 = .ok (.iconst 1, 1) := by decide +kernel
theorem dX4_ownSum_74 : decode cX4_ownSum 74 = .ok (.isub, 1) := by decide +kernel
theorem dX4_ownSum_75 : decode cX4_ownSum 75 = .ok (.iaload, 1) := by decide +kernel
theorem dX4_ownSum_76 : decode cX4_ownSum 76 = .ok (.bipush 30, 2) := by decide +kernel
theorem dX4_ownSum_78 : decode cX4_ownSum 78 = .ok (.iadd, 1) := by decide +kernel
theorem dX4_ownSum_79 : decode cX4_ownSum 79 = .ok (.istore 4, 2) := by decide +kernel
theorem dX4_ownSum_81 : decode cX4_ownSum 81 = .ok (.iload_n 2, 1) := by decide +kernel
theorem dX4_ownSum_82 : decode cX4_ownSum 82 = .ok (.ifCond .le 44, 3) := by decide +kernel
theorem dX4_ownSum_85 : decode cX4_ownSum 85 = .ok (.aload_n 0, 1) := by decide +kernel
theorem dX4_ownSum_86 : decode cX4_ownSum 86 = .ok (.getfield 33, 3) := by decide +kernel
theorem dX4_ownSum_89 : decode cX4_ownSum 89 = .ok (.bipush 21, 2) := by decide +kernel
theorem dX4_ownSum_91 : decode cX4_ownSum 91 = .ok (.iload_n 2, 1) := by decide +kernel
theorem dX4_ownSum_92 : decode cX4_ownSum 92 = .ok (.imul, 1) := by decide +kernel
theorem dX4_ownSum_93 : decode cX4_ownSum 93 = .ok (.bipush 21, 2) := by decide +kernel
theorem dX4_ownSum_95 : decode cX4_ownSum 95 = .ok (.isub, 1) := by decide +kernel
theorem dX4_ownSum_96 : decode cX4_ownSum 96 = .ok (.iload_n 3, 1) := by decide +kernel
theorem dX4_ownSum_97 : decode cX4_ownSum 97 = .ok (.iadd, 1) := by decide +kernel
theorem dX4_ownSum_98 : decode cX4_ownSum 98 = .ok (.iaload, 1) := by decide +kernel
theorem dX4_ownSum_99 : decode cX4_ownSum 99 = .ok (.bipush 25, 2) := by decide +kernel
theorem dX4_ownSum_101 : decode cX4_ownSum 101 = .ok (.iadd, 1) := by decide +kernel
theorem dX4_ownSum_102 : decode cX4_ownSum 102 = .ok (.iload 4, 2) := by decide +kernel
theorem dX4_ownSum_104 : decode cX4_ownSum 104 = .ok (.if_icmp .ge 22, 3) := by decide +kernel
theorem dX4_ownSum_107 : decode cX4_ownSum 107 = .ok (.aload_n 0, 1) := by decide +kernel
theorem dX4_ownSum_108 : decode cX4_ownSum 108 = .ok (.getfield 33, 3) := by decide +kernel
theorem dX4_ownSum_111 : decode cX4_ownSum 111 = .ok (.bipush 21, 2) := by decide +kernel
theorem dX4_ownSum_113 : decode cX4_ownSum 113 = .ok (.iload_n 2, 1) := by decide +kernel
theorem dX4_ownSum_114 : decode cX4_ownSum 114 = .ok (.imul, 1) := by decide +kernel
theorem dX4_ownSum_115 : decode cX4_ownSum 115 = .ok (.bipush 21, 2) := by decide +kernel
theorem dX4_ownSum_117 : decode cX4_ownSum 117 = .ok (.isub, 1) := by decide +kernel
theorem dX4_ownSum_118 : decode cX4_ownSum 118 = .ok (.iload_n 3, 1) := by decide +kernel
theorem dX4_ownSum_119 : decode cX4_ownSum 119 = .ok (.iadd, 1) := by decide +kernel
end
section
theorem dX4_ownSum_120 : decode cX4_ownSum 120 = .ok (.iaload, 1) := by decide +kernel
theorem dX4_ownSum_121 : decode cX4_ownSum 121 = .ok (.bipush 25, 2) := by decide +kernel
theorem dX4_ownSum_123 : decode cX4_ownSum 123 = .ok (.iadd, 1) := by decide +kernel
theorem dX4_ownSum_124 : decode cX4_ownSum 124 = .ok (.istore 4, 2) := by decide +kernel
theorem dX4_ownSum_126 : decode cX4_ownSum 126 = .ok (.iload_n 2, 1) := by decide +kernel
theorem dX4_ownSum_127 : decode cX4_ownSum 127 = .ok (.ifCond .le 82, 3) := by decide +kernel
theorem dX4_ownSum_130 : decode cX4_ownSum 130 = .ok (.iload_n 3, 1) := by decide +kernel
theorem dX4_ownSum_131 : decode cX4_ownSum 131 = .ok (.ifCond .le 78, 3) := by decide +kernel
theorem dX4_ownSum_134 : decode cX4_ownSum 134 = .ok (.aload_n 0, 1) := by decide +kernel
theorem dX4_ownSum_135 : decode cX4_ownSum 135 = .ok (.getfield 30, 3) := by decide +kernel
theorem dX4_ownSum_138 : decode cX4_ownSum 138 = .ok (.sipush 128, 3) := by decide +kernel
theorem dX4_ownSum_141 : decode cX4_ownSum 141 = .ok (.iload_n 2, 1) := by decide +kernel
theorem dX4_ownSum_142 : decode cX4_ownSum 142 = .ok (.iconst 1, 1) := by decide +kernel
theorem dX4_ownSum_143 : decode cX4_ownSum 143 = .ok (.isub, 1) := by decide +kernel
theorem dX4_ownSum_144 : decode cX4_ownSum 144 = .ok (.imul, 1) := by decide +kernel
theorem dX4_ownSum_145 : decode cX4_ownSum 145 = .ok (.aload_n 0, 1) := by decide +kernel
theorem dX4_ownSum_146 : decode cX4_ownSum 146 = .ok (.getfield 17, 3) := by decide +kernel
theorem dX4_ownSum_149 : decode cX4_ownSum 149 = .ok (.bipush 20, 2) := by decide +kernel
theorem dX4_ownSum_151 : decode cX4_ownSum 151 = .ok (.iload_n 1, 1) := by decide +kernel
theorem dX4_ownSum_152 : decode cX4_ownSum 152 = .ok (.imul, 1) := by decide +kernel
theorem dX4_ownSum_153 : decode cX4_ownSum 153 = .ok (.iload_n 3, 1) := by decide +kernel
theorem dX4_ownSum_154 : decode cX4_ownSum 154 = .ok (.iadd, 1) := by decide +kernel
theorem dX4_ownSum_155 : decode cX4_ownSum 155 = .ok (.iconst 1, 1) := by decide +kernel
theorem dX4_ownSum_156 : decode cX4_ownSum 156 = .ok (.isub, 1) := by decide +kernel
theorem dX4_ownSum_157 : decode cX4_ownSum 157 = .ok (.iaload, 1) := by decide +kernel
theorem dX4_ownSum_158 : decode cX4_ownSum 158 = .ok (.iadd, 1) := by decide +kernel
theorem dX4_ownSum_159 : decode cX4_ownSum 159 = .ok (.iaload, 1) := by decide +kernel
theorem dX4_ownSum_160 : decode cX4_ownSum 160 = .ok (.istore 5, 2) := by decide +kernel
theorem dX4_ownSum_162 : decode cX4_ownSum 162 = .ok (.aload_n 0, 1) := by decide +kernel
theorem dX4_ownSum_163 : decode cX4_ownSum 163 = .ok (.getfield 33, 3) := by decide +kernel
theorem dX4_ownSum_166 : decode cX4_ownSum 166 = .ok (.bipush 21, 2) := by decide +kernel
theorem dX4_ownSum_168 : decode cX4_ownSum 168 = .ok (.iload_n 2, 1) := by decide +kernel
theorem dX4_ownSum_169 : decode cX4_ownSum 169 = .ok (.imul, 1) := by decide +kernel
theorem dX4_ownSum_170 : decode cX4_ownSum 170 = .ok (.bipush 21, 2) := by decide +kernel
theorem dX4_ownSum_172 : decode cX4_ownSum 172 = .ok (.isub, 1) := by decide +kernel
theorem dX4_ownSum_173 : decode cX4_ownSum 173 = .ok (.iload_n 3, 1) := by decide +kernel
theorem dX4_ownSum_174 : decode cX4_ownSum 174 = .ok (.iadd, 1) := by decide +kernel
theorem dX4_ownSum_175 : decode cX4_ownSum 175 = .ok (.iconst 1, 1) := by decide +kernel
theorem dX4_ownSum_176 : decode cX4_ownSum 176 = .ok (.isub, 1) := by decide +kernel
theorem dX4_ownSum_177 : decode cX4_ownSum 177 = .ok (.iaload, 1) := by decide +kernel
theorem dX4_ownSum_178 : decode cX4_ownSum 178 = .ok (.iload 5, 2) := by decide +kernel
theorem dX4_ownSum_180 : decode cX4_ownSum 180 = .ok (.ifCond .ge 8, 3) := by decide +kernel
theorem dX4_ownSum_183 : decode cX4_ownSum 183 = .ok (.bipush 60, 2) := by decide +kernel
theorem dX4_ownSum_185 : decode cX4_ownSum 185 = .ok (.goto 5, 3) := by decide +kernel
theorem dX4_ownSum_188 : decode cX4_ownSum 188 = .ok (.iload 5, 2) := by decide +kernel
theorem dX4_ownSum_190 : decode cX4_ownSum 190 = .ok (.iadd, 1) := by decide +kernel
theorem dX4_ownSum_191 : decode cX4_ownSum 191 = .ok (.istore 6, 2) := by decide +kernel
theorem dX4_ownSum_193 : decode cX4_ownSum 193 = .ok (.iload 6, 2) := by decide +kernel
theorem dX4_ownSum_195 : decode cX4_ownSum 195 = .ok (.iload 4, 2) := by decide +kernel
theorem dX4_ownSum_197 : decode cX4_ownSum 197 = .ok (.if_icmp .ge 8, 3) := by decide +kernel
theorem dX4_ownSum_200 : decode cX4_ownSum 200 = .ok (.iload 6, 2) := by decide +kernel
theorem dX4_ownSum_202 : decode cX4_ownSum 202 = .ok (.goto 5, 3) := by decide +kernel
theorem dX4_ownSum_205 : decode cX4_ownSum 205 = .ok (.iload 4, 2) := by decide +kernel
theorem dX4_ownSum_207 : decode cX4_ownSum 207 = .ok (.istore 4, 2) := by decide +kernel
theorem dX4_ownSum_209 : decode cX4_ownSum 209 = .ok (.aload_n 0, 1) := by decide +kernel
theorem dX4_ownSum_210 : decode cX4_ownSum 210 = .ok (.getfield 33, 3) := by decide +kernel
theorem dX4_ownSum_213 : decode cX4_ownSum 213 = .ok (.bipush 21, 2) := by decide +kernel
theorem dX4_ownSum_215 : decode cX4_ownSum 215 = .ok (.iload_n 2, 1) := by decide +kernel
theorem dX4_ownSum_216 : decode cX4_ownSum 216 = .ok (.imul, 1) := by decide +kernel
theorem dX4_ownSum_217 : decode cX4_ownSum 217 = .ok (.iload_n 3, 1) := by decide +kernel
theorem dX4_ownSum_218 : decode cX4_ownSum 218 = .ok (.iadd, 1) := by decide +kernel
theorem dX4_ownSum_219 : decode cX4_ownSum 219 = .ok (.iload 4, 2) := by decide +kernel
theorem dX4_ownSum_221 : decode cX4_ownSum 221 = .ok (.iastore, 1) := by decide +kernel
theorem dX4_ownSum_222 : decode cX4_ownSum 222 = .ok (.iinc 3 1, 3) := by decide +kernel
theorem dX4_ownSum_225 : decode cX4_ownSum 225 = .ok (.goto (-213), 3) := by decide +kernel
theorem dX4_ownSum_228 : decode cX4_ownSum 228 = .ok (.iinc 2 1, 3) := by decide +kernel
theorem dX4_ownSum_231 : decode cX4_ownSum 231 = .ok (.goto (-229), 3) := by decide +kernel
theorem dX4_ownSum_234 : decode cX4_ownSum 234 = .ok (.aload_n 0, 1) := by decide +kernel
theorem dX4_ownSum_235 : decode cX4_ownSum 235 = .ok (.getfield 33, 3) := by decide +kernel
theorem dX4_ownSum_238 : decode cX4_ownSum 238 = .ok (.bipush 21, 2) := by decide +kernel
theorem dX4_ownSum_240 : decode cX4_ownSum 240 = .ok (.aload_n 0, 1) := by decide +kernel
theorem dX4_ownSum_241 : decode cX4_ownSum 241 = .ok (.getfield 48, 3) := by decide +kernel
theorem dX4_ownSum_244 : decode cX4_ownSum 244 = .ok (.imul, 1) := by decide +kernel
theorem dX4_ownSum_245 : decode cX4_ownSum 245 = .ok (.aload_n 0, 1) := by decide +kernel
theorem dX4_ownSum_246 : decode cX4_ownSum 246 = .ok (.getfield 13, 3) := by decide +kernel
theorem dX4_ownSum_249 : decode cX4_ownSum 249 = .ok (.iload_n 1, 1) := by decide +kernel
theorem dX4_ownSum_250 : decode cX4_ownSum 250 = .ok (.iaload, 1) := by decide +kernel
theorem dX4_ownSum_251 : decode cX4_ownSum 251 = .ok (.iadd, 1) := by decide +kernel
theorem dX4_ownSum_252 : decode cX4_ownSum 252 = .ok (.iaload, 1) := by decide +kernel
theorem dX4_ownSum_253 : decode cX4_ownSum 253 = .ok (.ireturn, 1) := by decide +kernel
theorem dX4_sumOf_0 : decode cX4_sumOf 0 = .ok (.aload_n 0, 1) := by decide +kernel
theorem dX4_sumOf_1 : decode cX4_sumOf 1 = .ok (.iload_n 1, 1) := by decide +kernel
theorem dX4_sumOf_2 : decode cX4_sumOf 2 = .ok (.invokevirtual 67, 3) := by decide +kernel
theorem dX4_sumOf_5 : decode cX4_sumOf 5 = .ok (.istore_n 2, 1) := by decide +kernel
theorem dX4_sumOf_6 : decode cX4_sumOf 6 = .ok (.iconst 1, 1) := by decide +kernel
theorem dX4_sumOf_7 : decode cX4_sumOf 7 = .ok (.istore_n 3, 1) := by decide +kernel
theorem dX4_sumOf_8 : decode cX4_sumOf 8 = .ok (.iload_n 3, 1) := by decide +kernel
theorem dX4_sumOf_9 : decode cX4_sumOf 9 = .ok (.aload_n 0, 1) := by decide +kernel
theorem dX4_sumOf_10 : decode cX4_sumOf 10 = .ok (.getfield 51, 3) := by decide +kernel
theorem dX4_sumOf_13 : decode cX4_sumOf 13 = .ok (.if_icmp .gt 48, 3) := by decide +kernel
theorem dX4_sumOf_16 : decode cX4_sumOf 16 = .ok (.aload_n 0, 1) := by decide +kernel
theorem dX4_sumOf_17 : decode cX4_sumOf 17 = .ok (.getfield 7, 3) := by decide +kernel
theorem dX4_sumOf_20 : decode cX4_sumOf 20 = .ok (.iload_n 3, 1) := by decide +kernel
theorem dX4_sumOf_21 : decode cX4_sumOf 21 = .ok (.baload, 1) := by decide +kernel
theorem dX4_sumOf_22 : decode cX4_sumOf 22 = .ok (.ifCond .eq 33, 3) := by decide +kernel
theorem dX4_sumOf_25 : decode cX4_sumOf 25 = .ok (.aload_n 0, 1) := by decide +kernel
theorem dX4_sumOf_26 : decode cX4_sumOf 26 = .ok (.getfield 20, 3) := by decide +kernel
theorem dX4_sumOf_29 : decode cX4_sumOf 29 = .ok (.iload_n 3, 1) := by decide +kernel
theorem dX4_sumOf_30 : decode cX4_sumOf 30 = .ok (.iaload, 1) := by decide +kernel
theorem dX4_sumOf_31 : decode cX4_sumOf 31 = .ok (.iload_n 1, 1) := by decide +kernel
theorem dX4_sumOf_32 : decode cX4_sumOf 32 = .ok (.if_icmp .ne 23, 3) := by decide +kernel
theorem dX4_sumOf_35 : decode cX4_sumOf 35 = .ok (.aload_n 0, 1) := by decide +kernel
theorem dX4_sumOf_36 : decode cX4_sumOf 36 = .ok (.iload_n 3, 1) := by decide +kernel
theorem dX4_sumOf_37 : decode cX4_sumOf 37 = .ok (.invokevirtual 67, 3) := by decide +kernel
theorem dX4_sumOf_40 : decode cX4_sumOf 40 = .ok (.istore 4, 2) := by decide +kernel
theorem dX4_sumOf_42 : decode cX4_sumOf 42 = .ok (.iload 4, 2) := by decide +kernel
theorem dX4_sumOf_44 : decode cX4_sumOf 44 = .ok (.iload_n 2, 1) := by decide +kernel
theorem dX4_sumOf_45 : decode cX4_sumOf 45 = .ok (.if_icmp .ge 8, 3) := by decide +kernel
theorem dX4_sumOf_48 : decode cX4_sumOf 48 = .ok (.iload 4, 2) := by decide +kernel
theorem dX4_sumOf_50 : decode cX4_sumOf 50 = .ok (.goto 4, 3) := by decide +kernel
theorem dX4_sumOf_53 : decode cX4_sumOf 53 = .ok (.iload_n 2, 1) := by decide +kernel
theorem dX4_sumOf_54 : decode cX4_sumOf 54 = .ok (.istore_n 2, 1) := by decide +kernel
theorem dX4_sumOf_55 : decode cX4_sumOf 55 = .ok (.iinc 3 1, 3) := by decide +kernel
theorem dX4_sumOf_58 : decode cX4_sumOf 58 = .ok (.goto (-50), 3) := by decide +kernel
theorem dX4_sumOf_61 : decode cX4_sumOf 61 = .ok (.iload_n 2, 1) := by decide +kernel
theorem dX4_sumOf_62 : decode cX4_sumOf 62 = .ok (.ireturn, 1) := by decide +kernel
theorem dX4_mayBeFound_0 : decode cX4_mayBeFound 0 = .ok (.aload_n 0, 1) := by decide +kernel
theorem dX4_mayBeFound_1 : decode cX4_mayBeFound 1 = .ok (.getfield 7, 3) := by decide +kernel
theorem dX4_mayBeFound_4 : decode cX4_mayBeFound 4 = .ok (.iload_n 1, 1) := by decide +kernel
theorem dX4_mayBeFound_5 : decode cX4_mayBeFound 5 = .ok (.baload, 1) := by decide +kernel
theorem dX4_mayBeFound_6 : decode cX4_mayBeFound 6 = .ok (.ifCond .eq 40, 3) := by decide +kernel
theorem dX4_mayBeFound_9 : decode cX4_mayBeFound 9 = .ok (.aload_n 0, 1) := by decide +kernel
theorem dX4_mayBeFound_10 : decode cX4_mayBeFound 10 = .ok (.getfield 20, 3) := by decide +kernel
theorem dX4_mayBeFound_13 : decode cX4_mayBeFound 13 = .ok (.iload_n 1, 1) := by decide +kernel
theorem dX4_mayBeFound_14 : decode cX4_mayBeFound 14 = .ok (.iaload, 1) := by decide +kernel
theorem dX4_mayBeFound_15 : decode cX4_mayBeFound 15 = .ok (.ifCond .ne 31, 3) := by decide +kernel
theorem dX4_mayBeFound_18 : decode cX4_mayBeFound 18 = .ok (.aload_n 0, 1) := by decide +kernel
theorem dX4_mayBeFound_19 : decode cX4_mayBeFound 19 = .ok (.getfield 26, 3) := by decide +kernel
theorem dX4_mayBeFound_22 : decode cX4_mayBeFound 22 = .ok (.ifCond .lt 20, 3) := by decide +kernel
theorem dX4_mayBeFound_25 : decode cX4_mayBeFound 25 = .ok (.aload_n 0, 1) := by decide +kernel
theorem dX4_mayBeFound_26 : decode cX4_mayBeFound 26 = .ok (.getfield 23, 3) := by decide +kernel
theorem dX4_mayBeFound_29 : decode cX4_mayBeFound 29 = .ok (.iload_n 1, 1) := by decide +kernel
theorem dX4_mayBeFound_30 : decode cX4_mayBeFound 30 = .ok (.iaload, 1) := by decide +kernel
theorem dX4_mayBeFound_31 : decode cX4_mayBeFound 31 = .ok (.aload_n 0, 1) := by decide +kernel
theorem dX4_mayBeFound_32 : decode cX4_mayBeFound 32 = .ok (.getfield 26, 3) := by decide +kernel
theorem dX4_mayBeFound_35 : decode cX4_mayBeFound 35 = .ok (.ishr, 1) := by decide +kernel
theorem dX4_mayBeFound_36 : decode cX4_mayBeFound 36 = .ok (.iconst 1, 1) := by decide +kernel
theorem dX4_mayBeFound_37 : decode cX4_mayBeFound 37 = .ok (.iand, 1) := by decide +kernel
theorem dX4_mayBeFound_38 : decode cX4_mayBeFound 38 = .ok (.iconst 1, 1) := by decide +kernel
theorem dX4_mayBeFound_39 : decode cX4_mayBeFound 39 = .ok (.if_icmp .ne 7, 3) := by decide +kernel
theorem dX4_mayBeFound_42 : decode cX4_mayBeFound 42 = .ok (.iconst 1, 1) := by decide +kernel
theorem dX4_mayBeFound_43 : decode cX4_mayBeFound 43 = .ok (.goto 4, 3) := by decide +kernel
theorem dX4_mayBeFound_46 : decode cX4_mayBeFound 46 = .ok (.iconst 0, 1) := by decide +kernel
theorem dX4_mayBeFound_47 : decode cX4_mayBeFound 47 = .ok (.ireturn, 1) := by decide +kernel
theorem dX4_find_0 : decode cX4_find 0 = .ok (.iload_n 1, 1) := by decide +kernel
theorem dX4_find_1 : decode cX4_find 1 = .ok (.iconst 1, 1) := by decide +kernel
theorem dX4_find_2 : decode cX4_find 2 = .ok (.sipush 1000, 3) := by decide +kernel
theorem dX4_find_5 : decode cX4_find 5 = .ok (.invokestatic 54, 3) := by decide +kernel
theorem dX4_find_8 : decode cX4_find 8 = .ok (.ifCond .ne 6, 3) := by decide +kernel
theorem dX4_find_11 : decode cX4_find 11 = .ok (.bipush (-2), 2) := by decide +kernel
theorem dX4_find_13 : decode cX4_find 13 = .ok (.ireturn, 1) := by decide +kernel
theorem dX4_find_14 : decode cX4_find 14 = .ok (.aload_n 0, 1) := by decide +kernel
theorem dX4_find_15 : decode cX4_find 15 = .ok (.iconst 0, 1) := by decide +kernel
theorem dX4_find_16 : decode cX4_find 16 = .ok (.putfield 71, 3) := by decide +kernel
theorem dX4_find_19 : decode cX4_find 19 = .ok (.iconst 1, 1) := by decide +kernel
theorem dX4_find_20 : decode cX4_find 20 = .ok (.istore_n 2, 1) := by decide +kernel
theorem dX4_find_21 : decode cX4_find 21 = .ok (.iload_n 2, 1) := by decide +kernel
theorem dX4_find_22 : decode cX4_find 22 = .ok (.aload_n 0, 1) := by decide +kernel
theorem dX4_find_23 : decode cX4_find 23 = .ok (.getfield 51, 3) := by decide +kernel
theorem dX4_find_26 : decode cX4_find 26 = .ok (.if_icmp .gt 33, 3) := by decide +kernel
theorem dX4_find_29 : decode cX4_find 29 = .ok (.aload_n 0, 1) := by decide +kernel
theorem dX4_find_30 : decode cX4_find 30 = .ok (.getfield 42, 3) := by decide +kernel
theorem dX4_find_33 : decode cX4_find 33 = .ok (.iload_n 2, 1) := by decide +kernel
theorem dX4_find_34 : decode cX4_find 34 = .ok (.aload_n 0, 1) := by decide +kernel
theorem dX4_find_35 : decode cX4_find 35 = .ok (.iload_n 2, 1) := by decide +kernel
theorem dX4_find_36 : decode cX4_find 36 = .ok (.invokevirtual 74, 3) := by decide +kernel
theorem dX4_find_39 : decode cX4_find 39 = .ok (.ifCond .eq 11, 3) := by decide +kernel
theorem dX4_find_42 : decode cX4_find 42 = .ok (.aload_n 0, 1) := by decide +kernel
theorem dX4_find_43 : decode cX4_find 43 = .ok (.iload_n 2, 1) := by decide +kernel
theorem dX4_find_44 : decode cX4_find 44 = .ok (.invokevirtual 77, 3) := by decide +kernel
theorem dX4_find_47 : decode cX4_find 47 = .ok (.goto 5, 3) := by decide +kernel
theorem dX4_find_50 : decode cX4_find 50 = .ok (.ldc 66, 2) := by decide +kernel
theorem dX4_find_52 : decode cX4_find 52 = .ok (.iastore, 1) := by decide +kernel
theorem dX4_find_53 : decode cX4_find 53 = .ok (.iinc 2 1, 3) := by decide +kernel
theorem dX4_find_56 : decode cX4_find 56 = .ok (.goto (-35), 3) := by decide +kernel
theorem dX4_find_59 : decode cX4_find 59 = .ok (.iconst 0, 1) := by decide +kernel
theorem dX4_find_60 : decode cX4_find 60 = .ok (.istore_n 2, 1) := by decide +kernel
theorem dX4_find_61 : decode cX4_find 61 = .ok (.iconst (-1), 1) := by decide +kernel
theorem dX4_find_62 : decode cX4_find 62 = .ok (.istore_n 3, 1) := by decide +kernel
theorem dX4_find_63 : decode cX4_find 63 = .ok (.iconst 1, 1) := by decide +kernel
theorem dX4_find_64 : decode cX4_find 64 = .ok (.istore 4, 2) := by decide +kernel
theorem dX4_find_66 : decode cX4_find 66 = .ok (.iload 4, 2) := by decide +kernel
theorem dX4_find_68 : decode cX4_find 68 = .ok (.ifCond .eq 158, 3) := by decide +kernel
theorem dX4_find_71 : decode cX4_find 71 = .ok (.aload_n 0, 1) := by decide +kernel
theorem dX4_find_72 : decode cX4_find 72 = .ok (.getfield 71, 3) := by decide +kernel
theorem dX4_find_75 : decode cX4_find 75 = .ok (.iload_n 1, 1) := by decide +kernel
theorem dX4_find_76 : decode cX4_find 76 = .ok (.if_icmp .ge 150, 3) := by decide +kernel
theorem dX4_find_79 : decode cX4_find 79 = .ok (.iconst 0, 1) := by decide +kernel
theorem dX4_find_80 : decode cX4_find 80 = .ok (.istore 5, 2) := by decide +kernel
theorem dX4_find_82 : decode cX4_find 82 = .ok (.sipush 401, 3) := by decide +kernel
theorem dX4_find_85 : decode cX4_find 85 = .ok (.istore 6, 2) := by decide +kernel
theorem dX4_find_87 : decode cX4_find 87 = .ok (.iconst 1, 1) := by decide +kernel
theorem dX4_find_88 : decode cX4_find 88 = .ok (.istore 7, 2) := by decide +kernel
theorem dX4_find_90 : decode cX4_find 90 = .ok (.iload 7, 2) := by decide +kernel
theorem dX4_find_92 : decode cX4_find 92 = .ok (.aload_n 0, 1) := by decide +kernel
theorem dX4_find_93 : decode cX4_find 93 = .ok (.getfield 51, 3) := by decide +kernel
theorem dX4_find_96 : decode cX4_find 96 = .ok (.if_icmp .gt 72, 3) := by decide +kernel
theorem dX4_find_99 : decode cX4_find 99 = .ok (.aload_n 0, 1) := by decide +kernel
theorem dX4_find_100 : decode cX4_find 100 = .ok (.iload 7, 2) := by decide +kernel
theorem dX4_find_102 : decode cX4_find 102 = .ok (.invokevirtual 74, 3) := by decide +kernel
theorem dX4_find_105 : decode cX4_find 105 = .ok (.ifCond .eq 57, 3) := by decide +kernel
theorem dX4_find_108 : decode cX4_find 108 = .ok (.aload_n 0, 1) := by decide +kernel
theorem dX4_find_109 : decode cX4_find 109 = .ok (.getfield 42, 3) := by decide +kernel
theorem dX4_find_112 : decode cX4_find 112 = .ok (.iload 7, 2) := by decide +kernel
theorem dX4_find_114 : decode cX4_find 114 = .ok (.iaload, 1) := by decide +kernel
theorem dX4_find_115 : decode cX4_find 115 = .ok (.istore 8, 2) := by decide +kernel
theorem dX4_find_117 : decode cX4_find 117 = .ok (.iload 8, 2) := by decide +kernel
theorem dX4_find_119 : decode cX4_find 119 = .ok (.iload_n 3, 1) := by decide +kernel
theorem dX4_find_120 : decode cX4_find 120 = .ok (.if_icmp .gt 15, 3) := by decide +kernel
theorem dX4_find_123 : decode cX4_find 123 = .ok (.iload 8, 2) := by decide +kernel
theorem dX4_find_125 : decode cX4_find 125 = .ok (.iload_n 3, 1) := by decide +kernel
theorem dX4_find_126 : decode cX4_find 126 = .ok (.if_icmp .ne 13, 3) := by decide +kernel
theorem dX4_find_129 : decode cX4_find 129 = .ok (.iload 7, 2) := by decide +kernel
theorem dX4_find_131 : decode cX4_find 131 = .ok (.iload_n 2, 1) := by decide +kernel
theorem dX4_find_132 : decode cX4_find 132 = .ok (.if_icmp .le 7, 3) := by decide +kernel
theorem dX4_find_135 : decode cX4_find 135 = .ok (.iconst 1, 1) := by decide +kernel
theorem dX4_find_136 : decode cX4_find 136 = .ok (.goto 4, 3) := by decide +kernel
theorem dX4_find_139 : decode cX4_find 139 = .ok (.iconst 0, 1) := by decide +kernel
theorem dX4_find_140 : decode cX4_find 140 = .ok (.istore 9, 2) := by decide +kernel
theorem dX4_find_142 : decode cX4_find 142 = .ok (.iload 9, 2) := by decide +kernel
theorem dX4_find_144 : decode cX4_find 144 = .ok (.ifCond .eq 18, 3) := by decide +kernel
theorem dX4_find_147 : decode cX4_find 147 = .ok (.iload 8, 2) := by decide +kernel
theorem dX4_find_149 : decode cX4_find 149 = .ok (.iload 6, 2) := by decide +kernel
theorem dX4_find_151 : decode cX4_find 151 = .ok (.if_icmp .ge 11, 3) := by decide +kernel
theorem dX4_find_154 : decode cX4_find 154 = .ok (.iload 7, 2) := by decide +kernel
theorem dX4_find_156 : decode cX4_find 156 = .ok (.istore 5, 2) := by decide +kernel
theorem dX4_find_158 : decode cX4_find 158 = .ok (.iload 8, 2) := by decide +kernel
theorem dX4_find_160 : decode cX4_find 160 = .ok (.istore 6, 2) := by decide +kernel
theorem dX4_find_162 : decode cX4_find 162 = .ok (.iinc 7 1, 3) := by decide +kernel
theorem dX4_find_165 : decode cX4_find 165 = .ok (.goto (-75), 3) := by decide +kernel
theorem dX4_find_168 : decode cX4_find 168 = .ok (.iload 5, 2) := by decide +kernel
theorem dX4_find_170 : decode cX4_find 170 = .ok (.ifCond .le 7, 3) := by decide +kernel
theorem dX4_find_173 : decode cX4_find 173 = .ok (.iconst 1, 1) := by decide +kernel
theorem dX4_find_174 : decode cX4_find 174 = .ok (.goto 4, 3) := by decide +kernel
theorem dX4_find_177 : decode cX4_find 177 = .ok (.iconst 0, 1) := by decide +kernel
theorem dX4_find_178 : decode cX4_find 178 = .ok (.istore 4, 2) := by decide +kernel
theorem dX4_find_180 : decode cX4_find 180 = .ok (.iload 4, 2) := by decide +kernel
theorem dX4_find_182 : decode cX4_find 182 = .ok (.ifCond .eq 41, 3) := by decide +kernel
theorem dX4_find_185 : decode cX4_find 185 = .ok (.aload_n 0, 1) := by decide +kernel
theorem dX4_find_186 : decode cX4_find 186 = .ok (.getfield 36, 3) := by decide +kernel
theorem dX4_find_189 : decode cX4_find 189 = .ok (.aload_n 0, 1) := by decide +kernel
theorem dX4_find_190 : decode cX4_find 190 = .ok (.getfield 71, 3) := by decide +kernel
theorem dX4_find_193 : decode cX4_find 193 = .ok (.iload 5, 2) := by decide +kernel
theorem dX4_find_195 : decode cX4_find 195 = .ok (.iastore, 1) := by decide +kernel
theorem dX4_find_196 : decode cX4_find 196 = .ok (.aload_n 0, 1) := by decide +kernel
theorem dX4_find_197 : decode cX4_find 197 = .ok (.getfield 39, 3) := by decide +kernel
theorem dX4_find_200 : decode cX4_find 200 = .ok (.aload_n 0, 1) := by decide +kernel
theorem dX4_find_201 : decode cX4_find 201 = .ok (.getfield 71, 3) := by decide +kernel
theorem dX4_find_204 : decode cX4_find 204 = .ok (.iload 6, 2) := by decide +kernel
theorem dX4_find_206 : decode cX4_find 206 = .ok (.iastore, 1) := by decide +kernel
theorem dX4_find_207 : decode cX4_find 207 = .ok (.aload_n 0, 1) := by decide +kernel
theorem dX4_find_208 : decode cX4_find 208 = .ok (.dup, 1) := by decide +kernel
theorem dX4_find_209 : decode cX4_find 209 = .ok (.getfield 71, 3) := by decide +kernel
theorem dX4_find_212 : decode cX4_find 212 = .ok (.iconst 1, 1) := by decide +kernel
theorem dX4_find_213 : decode cX4_find 213 = .ok (.iadd, 1) := by decide +kernel
theorem dX4_find_214 : decode cX4_find 214 = .ok (.putfield 71, 3) := by decide +kernel
theorem dX4_find_217 : decode cX4_find 217 = .ok (.iload 5, 2) := by decide +kernel
theorem dX4_find_219 : decode cX4_find 219 = .ok (.istore_n 2, 1) := by decide +kernel
theorem dX4_find_220 : decode cX4_find 220 = .ok (.iload 6, 2) := by decide +kernel
theorem dX4_find_222 : decode cX4_find 222 = .ok (.istore_n 3, 1) := by decide +kernel
theorem dX4_find_223 : decode cX4_find 223 = .ok (.goto (-157), 3) := by decide +kernel
theorem dX4_find_226 : decode cX4_find 226 = .ok (.aload_n 0, 1) := by decide +kernel
theorem dX4_find_227 : decode cX4_find 227 = .ok (.getfield 71, 3) := by decide +kernel
theorem dX4_find_230 : decode cX4_find 230 = .ok (.ireturn, 1) := by decide +kernel
theorem dX4_word_0 : decode cX4_word 0 = .ok (.iload_n 1, 1) := by decide +kernel
theorem dX4_word_1 : decode cX4_word 1 = .ok (.iconst 0, 1) := by decide +kernel
theorem dX4_word_2 : decode cX4_word 2 = .ok (.aload_n 0, 1) := by decide +kernel
theorem dX4_word_3 : decode cX4_word 3 = .ok (.getfield 71, 3) := by decide +kernel
theorem dX4_word_6 : decode cX4_word 6 = .ok (.iconst 1, 1) := by decide +kernel
theorem dX4_word_7 : decode cX4_word 7 = .ok (.isub, 1) := by decide +kernel
theorem dX4_word_8 : decode cX4_word 8 = .ok (.invokestatic 54, 3) := by decide +kernel
theorem dX4_word_11 : decode cX4_word 11 = .ok (.ifCond .eq 12, 3) := by decide +kernel
theorem dX4_word_14 : decode cX4_word 14 = .ok (.aload_n 0, 1) := by decide +kernel
theorem dX4_word_15 : decode cX4_word 15 = .ok (.getfield 36, 3) := by decide +kernel
theorem dX4_word_18 : decode cX4_word 18 = .ok (.iload_n 1, 1) := by decide +kernel
theorem dX4_word_19 : decode cX4_word 19 = .ok (.iaload, 1) := by decide +kernel
theorem dX4_word_20 : decode cX4_word 20 = .ok (.goto 4, 3) := by decide +kernel
theorem dX4_word_23 : decode cX4_word 23 = .ok (.iconst (-1), 1) := by decide +kernel
theorem dX4_word_24 : decode cX4_word 24 = .ok (.ireturn, 1) := by decide +kernel
theorem dX4_sum_0 : decode cX4_sum 0 = .ok (.iload_n 1, 1) := by decide +kernel
theorem dX4_sum_1 : decode cX4_sum 1 = .ok (.iconst 0, 1) := by decide +kernel
theorem dX4_sum_2 : decode cX4_sum 2 = .ok (.aload_n 0, 1) := by decide +kernel
theorem dX4_sum_3 : decode cX4_sum 3 = .ok (.getfield 71, 3) := by decide +kernel
theorem dX4_sum_6 : decode cX4_sum 6 = .ok (.iconst 1, 1) := by decide +kernel
theorem dX4_sum_7 : decode cX4_sum 7 = .ok (.isub, 1) := by decide +kernel
theorem dX4_sum_8 : decode cX4_sum 8 = .ok (.invokestatic 54, 3) := by decide +kernel
theorem dX4_sum_11 : decode cX4_sum 11 = .ok (.ifCond .eq 13, 3) := by decide +kernel
theorem dX4_sum_14 : decode cX4_sum 14 = .ok (.aload_n 0, 1) := by decide +kernel
theorem dX4_sum_15 : decode cX4_sum 15 = .ok (.getfield 39, 3) := by decide +kernel
theorem dX4_sum_18 : decode cX4_sum 18 = .ok (.iload_n 1, 1) := by decide +kernel
theorem dX4_sum_19 : decode cX4_sum 19 = .ok (.iaload, 1) := by decide +kernel
theorem dX4_sum_20 : decode cX4_sum 20 = .ok (.i2l, 1) := by decide +kernel
theorem dX4_sum_21 : decode cX4_sum 21 = .ok (.goto 6, 3) := by decide +kernel
theorem dX4_sum_24 : decode cX4_sum 24 = .ok (.ldc2_w 80, 3) := by decide +kernel
theorem dX4_sum_27 : decode cX4_sum 27 = .ok (.lreturn, 1) := by decide +kernel
theorem dX4_within_0 : decode cX4_within 0 = .ok (.iload_n 2, 1) := by decide +kernel
theorem dX4_within_1 : decode cX4_within 1 = .ok (.ifCond .eq 13, 3) := by decide +kernel
theorem dX4_within_4 : decode cX4_within 4 = .ok (.aload_n 0, 1) := by decide +kernel
theorem dX4_within_5 : decode cX4_within 5 = .ok (.iload_n 2, 1) := by decide +kernel
theorem dX4_within_6 : decode cX4_within 6 = .ok (.invokevirtual 58, 3) := by decide +kernel
theorem dX4_within_9 : decode cX4_within 9 = .ok (.ifCond .ne 5, 3) := by decide +kernel
theorem dX4_within_12 : decode cX4_within 12 = .ok (.iconst (-1), 1) := by decide +kernel
theorem dX4_within_13 : decode cX4_within 13 = .ok (.ireturn, 1) := by decide +kernel
theorem dX4_within_14 : decode cX4_within 14 = .ok (.iload_n 1, 1) := by decide +kernel
theorem dX4_within_15 : decode cX4_within 15 = .ok (.iload_n 2, 1) := by decide +kernel
theorem dX4_within_16 : decode cX4_within 16 = .ok (.ifCond .ne 7, 3) := by decide +kernel
theorem dX4_within_19 : decode cX4_within 19 = .ok (.iconst (-1), 1) := by decide +kernel
theorem dX4_within_20 : decode cX4_within 20 = .ok (.goto 4, 3) := by decide +kernel
theorem dX4_within_23 : decode cX4_within 23 = .ok (.iconst 0, 1) := by decide +kernel
theorem dX4_within_24 : decode cX4_within 24 = .ok (.bipush 7, 2) := by decide +kernel
theorem dX4_within_26 : decode cX4_within 26 = .ok (.invokestatic 54, 3) := by decide +kernel
theorem dX4_within_29 : decode cX4_within 29 = .ok (.ifCond .ne 6, 3) := by decide +kernel
theorem dX4_within_32 : decode cX4_within 32 = .ok (.bipush (-2), 2) := by decide +kernel
theorem dX4_within_34 : decode cX4_within 34 = .ok (.ireturn, 1) := by decide +kernel
theorem dX4_within_35 : decode cX4_within 35 = .ok (.iload_n 2, 1) := by decide +kernel
theorem dX4_within_36 : decode cX4_within 36 = .ok (.ifCond .ne 11, 3) := by decide +kernel
theorem dX4_within_39 : decode cX4_within 39 = .ok (.aload_n 0, 1) := by decide +kernel
theorem dX4_within_40 : decode cX4_within 40 = .ok (.iload_n 1, 1) := by decide +kernel
theorem dX4_within_41 : decode cX4_within 41 = .ok (.putfield 26, 3) := by decide +kernel
theorem dX4_within_44 : decode cX4_within 44 = .ok (.goto 19, 3) := by decide +kernel
theorem dX4_within_47 : decode cX4_within 47 = .ok (.aload_n 0, 1) := by decide +kernel
theorem dX4_within_48 : decode cX4_within 48 = .ok (.getfield 23, 3) := by decide +kernel
theorem dX4_within_51 : decode cX4_within 51 = .ok (.iload_n 2, 1) := by decide +kernel
theorem dX4_within_52 : decode cX4_within 52 = .ok (.aload_n 0, 1) := by decide +kernel
theorem dX4_within_53 : decode cX4_within 53 = .ok (.getfield 23, 3) := by decide +kernel
theorem dX4_within_56 : decode cX4_within 56 = .ok (.iload_n 2, 1) := by decide +kernel
theorem dX4_within_57 : decode cX4_within 57 = .ok (.iaload, 1) := by decide +kernel
theorem dX4_within_58 : decode cX4_within 58 = .ok (.iconst 1, 1) := by decide +kernel
theorem dX4_within_59 : decode cX4_within 59 = .ok (.iload_n 1, 1) := by decide +kernel
theorem dX4_within_60 : decode cX4_within 60 = .ok (.ishl, 1) := by decide +kernel
theorem dX4_within_61 : decode cX4_within 61 = .ok (.ior, 1) := by decide +kernel
theorem dX4_within_62 : decode cX4_within 62 = .ok (.iastore, 1) := by decide +kernel
theorem dX4_within_63 : decode cX4_within 63 = .ok (.iconst 0, 1) := by decide +kernel
theorem dX4_within_64 : decode cX4_within 64 = .ok (.istore_n 3, 1) := by decide +kernel
theorem dX4_within_65 : decode cX4_within 65 = .ok (.iconst 1, 1) := by decide +kernel
theorem dX4_within_66 : decode cX4_within 66 = .ok (.istore 4, 2) := by decide +kernel
theorem dX4_within_68 : decode cX4_within 68 = .ok (.iload 4, 2) := by decide +kernel
theorem dX4_within_70 : decode cX4_within 70 = .ok (.aload_n 0, 1) := by decide +kernel
theorem dX4_within_71 : decode cX4_within 71 = .ok (.getfield 51, 3) := by decide +kernel
theorem dX4_within_74 : decode cX4_within 74 = .ok (.if_icmp .gt 46, 3) := by decide +kernel
theorem dX4_within_77 : decode cX4_within 77 = .ok (.aload_n 0, 1) := by decide +kernel
theorem dX4_within_78 : decode cX4_within 78 = .ok (.getfield 7, 3) := by decide +kernel
theorem dX4_within_81 : decode cX4_within 81 = .ok (.iload 4, 2) := by decide +kernel
theorem dX4_within_83 : decode cX4_within 83 = .ok (.baload, 1) := by decide +kernel
theorem dX4_within_84 : decode cX4_within 84 = .ok (.ifCond .eq 28, 3) := by decide +kernel
theorem dX4_within_87 : decode cX4_within 87 = .ok (.iload_n 1, 1) := by decide +kernel
theorem dX4_within_88 : decode cX4_within 88 = .ok (.ifCond .lt 18, 3) := by decide +kernel
theorem dX4_within_91 : decode cX4_within 91 = .ok (.aload_n 0, 1) := by decide +kernel
theorem dX4_within_92 : decode cX4_within 92 = .ok (.getfield 23, 3) := by decide +kernel
theorem dX4_within_95 : decode cX4_within 95 = .ok (.iload 4, 2) := by decide +kernel
theorem dX4_within_97 : decode cX4_within 97 = .ok (.iaload, 1) := by decide +kernel
theorem dX4_within_98 : decode cX4_within 98 = .ok (.iload_n 1, 1) := by decide +kernel
theorem dX4_within_99 : decode cX4_within 99 = .ok (.ishr, 1) := by decide +kernel
theorem dX4_within_100 : decode cX4_within 100 = .ok (.iconst 1, 1) := by decide +kernel
theorem dX4_within_101 : decode cX4_within 101 = .ok (.iand, 1) := by decide +kernel
theorem dX4_within_102 : decode cX4_within 102 = .ok (.iconst 1, 1) := by decide +kernel
theorem dX4_within_103 : decode cX4_within 103 = .ok (.if_icmp .ne 9, 3) := by decide +kernel
theorem dX4_within_106 : decode cX4_within 106 = .ok (.iload_n 3, 1) := by decide +kernel
theorem dX4_within_107 : decode cX4_within 107 = .ok (.iconst 1, 1) := by decide +kernel
theorem dX4_within_108 : decode cX4_within 108 = .ok (.iadd, 1) := by decide +kernel
theorem dX4_within_109 : decode cX4_within 109 = .ok (.goto 4, 3) := by decide +kernel
theorem dX4_within_112 : decode cX4_within 112 = .ok (.iload_n 3, 1) := by decide +kernel
theorem dX4_within_113 : decode cX4_within 113 = .ok (.istore_n 3, 1) := by decide +kernel
theorem dX4_within_114 : decode cX4_within 114 = .ok (.iinc 4 1, 3) := by decide +kernel
theorem dX4_within_117 : decode cX4_within 117 = .ok (.goto (-49), 3) := by decide +kernel
theorem dX4_within_120 : decode cX4_within 120 = .ok (.iload_n 3, 1) := by decide +kernel
theorem dX4_within_121 : decode cX4_within 121 = .ok (.ireturn, 1) := by decide +kernel
theorem dX4_abbreviations_0 : decode cX4_abbreviations 0 = .ok (.iconst 0, 1) := by decide +kernel
theorem dX4_abbreviations_1 : decode cX4_abbreviations 1 = .ok (.istore_n 2, 1) := by decide +kernel
theorem dX4_abbreviations_2 : decode cX4_abbreviations 2 = .ok (.iconst 1, 1) := by decide +kernel
theorem dX4_abbreviations_3 : decode cX4_abbreviations 3 = .ok (.istore_n 3, 1) := by decide +kernel
theorem dX4_abbreviations_4 : decode cX4_abbreviations 4 = .ok (.iload_n 3, 1) := by decide +kernel
theorem dX4_abbreviations_5 : decode cX4_abbreviations 5 = .ok (.aload_n 0, 1) := by decide +kernel
theorem dX4_abbreviations_6 : decode cX4_abbreviations 6 = .ok (.getfield 51, 3) := by decide +kernel
theorem dX4_abbreviations_9 : decode cX4_abbreviations 9 = .ok (.if_icmp .gt 36, 3) := by decide +kernel
theorem dX4_abbreviations_12 : decode cX4_abbreviations 12 = .ok (.aload_n 0, 1) := by decide +kernel
theorem dX4_abbreviations_13 : decode cX4_abbreviations 13 = .ok (.getfield 7, 3) := by decide +kernel
theorem dX4_abbreviations_16 : decode cX4_abbreviations 16 = .ok (.iload_n 3, 1) := by decide +kernel
theorem dX4_abbreviations_17 : decode cX4_abbreviations 17 = .ok (.baload, 1) := by decide +kernel
theorem dX4_abbreviations_18 : decode cX4_abbreviations 18 = .ok (.ifCond .eq 19, 3) := by decide +kernel
theorem dX4_abbreviations_21 : decode cX4_abbreviations 21 = .ok (.aload_n 0, 1) := by decide +kernel
theorem dX4_abbreviations_22 : decode cX4_abbreviations 22 = .ok (.getfield 20, 3) := by decide +kernel
theorem dX4_abbreviations_25 : decode cX4_abbreviations 25 = .ok (.iload_n 3, 1) := by decide +kernel
theorem dX4_abbreviations_26 : decode cX4_abbreviations 26 = .ok (.iaload, 1) := by decide +kernel
theorem dX4_abbreviations_27 : decode cX4_abbreviations 27 = .ok (.iload_n 1, 1) := by decide +kernel
theorem dX4_abbreviations_28 : decode cX4_abbreviations 28 = .ok (.if_icmp .ne 9, 3) := by decide +kernel
theorem dX4_abbreviations_31 : decode cX4_abbreviations 31 = .ok (.iload_n 2, 1) := by decide +kernel
theorem dX4_abbreviations_32 : decode cX4_abbreviations 32 = .ok (.iconst 1, 1) := by decide +kernel
theorem dX4_abbreviations_33 : decode cX4_abbreviations 33 = .ok (.iadd, 1) := by decide +kernel
theorem dX4_abbreviations_34 : decode cX4_abbreviations 34 = .ok (.goto 4, 3) := by decide +kernel
theorem dX4_abbreviations_37 : decode cX4_abbreviations 37 = .ok (.iload_n 2, 1) := by decide +kernel
theorem dX4_abbreviations_38 : decode cX4_abbreviations 38 = .ok (.istore_n 2, 1) := by decide +kernel
theorem dX4_abbreviations_39 : decode cX4_abbreviations 39 = .ok (.iinc 3 1, 3) := by decide +kernel
theorem dX4_abbreviations_42 : decode cX4_abbreviations 42 = .ok (.goto (-38), 3) := by decide +kernel
theorem dX4_abbreviations_45 : decode cX4_abbreviations 45 = .ok (.iload_n 2, 1) := by decide +kernel
theorem dX4_abbreviations_46 : decode cX4_abbreviations 46 = .ok (.ireturn, 1) := by decide +kernel
theorem dX4_abbreviation_0 : decode cX4_abbreviation 0 = .ok (.aload_n 0, 1) := by decide +kernel
theorem dX4_abbreviation_1 : decode cX4_abbreviation 1 = .ok (.iload_n 1, 1) := by decide +kernel
theorem dX4_abbreviation_2 : decode cX4_abbreviation 2 = .ok (.invokevirtual 58, 3) := by decide +kernel
theorem dX4_abbreviation_5 : decode cX4_abbreviation 5 = .ok (.ifCond .eq 11, 3) := by decide +kernel
theorem dX4_abbreviation_8 : decode cX4_abbreviation 8 = .ok (.aload_n 0, 1) := by decide +kernel
theorem dX4_abbreviation_9 : decode cX4_abbreviation 9 = .ok (.iload_n 2, 1) := by decide +kernel
theorem dX4_abbreviation_10 : decode cX4_abbreviation 10 = .ok (.invokevirtual 58, 3) := by decide +kernel
theorem dX4_abbreviation_13 : decode cX4_abbreviation 13 = .ok (.ifCond .ne 5, 3) := by decide +kernel
theorem dX4_abbreviation_16 : decode cX4_abbreviation 16 = .ok (.iconst (-1), 1) := by decide +kernel
theorem dX4_abbreviation_17 : decode cX4_abbreviation 17 = .ok (.ireturn, 1) := by decide +kernel
theorem dX4_abbreviation_18 : decode cX4_abbreviation 18 = .ok (.iload_n 1, 1) := by decide +kernel
theorem dX4_abbreviation_19 : decode cX4_abbreviation 19 = .ok (.iload_n 2, 1) := by decide +kernel
theorem dX4_abbreviation_20 : decode cX4_abbreviation 20 = .ok (.if_icmp .eq 20, 3) := by decide +kernel
theorem dX4_abbreviation_23 : decode cX4_abbreviation 23 = .ok (.aload_n 0, 1) := by decide +kernel
theorem dX4_abbreviation_24 : decode cX4_abbreviation 24 = .ok (.getfield 20, 3) := by decide +kernel
theorem dX4_abbreviation_27 : decode cX4_abbreviation 27 = .ok (.iload_n 2, 1) := by decide +kernel
theorem dX4_abbreviation_28 : decode cX4_abbreviation 28 = .ok (.iaload, 1) := by decide +kernel
theorem dX4_abbreviation_29 : decode cX4_abbreviation 29 = .ok (.ifCond .gt 11, 3) := by decide +kernel
theorem dX4_abbreviation_32 : decode cX4_abbreviation 32 = .ok (.aload_n 0, 1) := by decide +kernel
theorem dX4_abbreviation_33 : decode cX4_abbreviation 33 = .ok (.iload_n 1, 1) := by decide +kernel
theorem dX4_abbreviation_34 : decode cX4_abbreviation 34 = .ok (.invokevirtual 82, 3) := by decide +kernel
theorem dX4_abbreviation_37 : decode cX4_abbreviation 37 = .ok (.ifCond .le 6, 3) := by decide +kernel
theorem dX4_abbreviation_40 : decode cX4_abbreviation 40 = .ok (.bipush (-3), 2) := by decide +kernel
theorem dX4_abbreviation_42 : decode cX4_abbreviation 42 = .ok (.ireturn, 1) := by decide +kernel
end
section
theorem dX4_abbreviation_43 : decode cX4_abbreviation 43 = .ok (.aload_n 0, 1) := by decide +kernel
theorem dX4_abbreviation_44 : decode cX4_abbreviation 44 = .ok (.getfield 20, 3) := by decide +kernel
theorem dX4_abbreviation_47 : decode cX4_abbreviation 47 = .ok (.iload_n 1, 1) := by decide +kernel
theorem dX4_abbreviation_48 : decode cX4_abbreviation 48 = .ok (.iload_n 2, 1) := by decide +kernel
theorem dX4_abbreviation_49 : decode cX4_abbreviation 49 = .ok (.iastore, 1) := by decide +kernel
theorem dX4_abbreviation_50 : decode cX4_abbreviation 50 = .ok (.aload_n 0, 1) := by decide +kernel
theorem dX4_abbreviation_51 : decode cX4_abbreviation 51 = .ok (.iload_n 2, 1) := by decide +kernel
theorem dX4_abbreviation_52 : decode cX4_abbreviation 52 = .ok (.invokevirtual 82, 3) := by decide +kernel
theorem dX4_abbreviation_55 : decode cX4_abbreviation 55 = .ok (.ireturn, 1) := by decide +kernel
theorem dX4_plain_0 : decode cX4_plain 0 = .ok (.iload_n 1, 1) := by decide +kernel
theorem dX4_plain_1 : decode cX4_plain 1 = .ok (.iconst 1, 1) := by decide +kernel
theorem dX4_plain_2 : decode cX4_plain 2 = .ok (.sipush 1000, 3) := by decide +kernel
theorem dX4_plain_5 : decode cX4_plain 5 = .ok (.invokestatic 54, 3) := by decide +kernel
theorem dX4_plain_8 : decode cX4_plain 8 = .ok (.ifCond .ne 6, 3) := by decide +kernel
theorem dX4_plain_11 : decode cX4_plain 11 = .ok (.bipush (-2), 2) := by decide +kernel
theorem dX4_plain_13 : decode cX4_plain 13 = .ok (.ireturn, 1) := by decide +kernel
theorem dX4_plain_14 : decode cX4_plain 14 = .ok (.aload_n 0, 1) := by decide +kernel
theorem dX4_plain_15 : decode cX4_plain 15 = .ok (.iconst 0, 1) := by decide +kernel
theorem dX4_plain_16 : decode cX4_plain 16 = .ok (.putfield 71, 3) := by decide +kernel
theorem dX4_plain_19 : decode cX4_plain 19 = .ok (.iconst 0, 1) := by decide +kernel
theorem dX4_plain_20 : decode cX4_plain 20 = .ok (.istore_n 2, 1) := by decide +kernel
theorem dX4_plain_21 : decode cX4_plain 21 = .ok (.iconst 1, 1) := by decide +kernel
theorem dX4_plain_22 : decode cX4_plain 22 = .ok (.istore_n 3, 1) := by decide +kernel
theorem dX4_plain_23 : decode cX4_plain 23 = .ok (.iload_n 3, 1) := by decide +kernel
theorem dX4_plain_24 : decode cX4_plain 24 = .ok (.aload_n 0, 1) := by decide +kernel
theorem dX4_plain_25 : decode cX4_plain 25 = .ok (.getfield 51, 3) := by decide +kernel
theorem dX4_plain_28 : decode cX4_plain 28 = .ok (.if_icmp .gt 156, 3) := by decide +kernel
theorem dX4_plain_31 : decode cX4_plain 31 = .ok (.aload_n 0, 1) := by decide +kernel
theorem dX4_plain_32 : decode cX4_plain 32 = .ok (.iload_n 3, 1) := by decide +kernel
theorem dX4_plain_33 : decode cX4_plain 33 = .ok (.invokevirtual 74, 3) := by decide +kernel
theorem dX4_plain_36 : decode cX4_plain 36 = .ok (.ifCond .eq 20, 3) := by decide +kernel
theorem dX4_plain_39 : decode cX4_plain 39 = .ok (.aload_n 0, 1) := by decide +kernel
theorem dX4_plain_40 : decode cX4_plain 40 = .ok (.getfield 13, 3) := by decide +kernel
theorem dX4_plain_43 : decode cX4_plain 43 = .ok (.iload_n 3, 1) := by decide +kernel
theorem dX4_plain_44 : decode cX4_plain 44 = .ok (.iaload, 1) := by decide +kernel
theorem dX4_plain_45 : decode cX4_plain 45 = .ok (.aload_n 0, 1) := by decide +kernel
theorem dX4_plain_46 : decode cX4_plain 46 = .ok (.getfield 48, 3) := by decide +kernel
theorem dX4_plain_49 : decode cX4_plain 49 = .ok (.if_icmp .ne 7, 3) := by decide +kernel
theorem dX4_plain_52 : decode cX4_plain 52 = .ok (.iconst 1, 1) := by decide +kernel
theorem dX4_plain_53 : decode cX4_plain 53 = .ok (.goto 4, 3) := by decide +kernel
theorem dX4_plain_56 : decode cX4_plain 56 = .ok (.iconst 0, 1) := by decide +kernel
theorem dX4_plain_57 : decode cX4_plain 57 = .ok (.istore 4, 2) := by decide +kernel
theorem dX4_plain_59 : decode cX4_plain 59 = .ok (.iconst 0, 1) := by decide +kernel
theorem dX4_plain_60 : decode cX4_plain 60 = .ok (.istore 5, 2) := by decide +kernel
theorem dX4_plain_62 : decode cX4_plain 62 = .ok (.iload 5, 2) := by decide +kernel
theorem dX4_plain_64 : decode cX4_plain 64 = .ok (.aload_n 0, 1) := by decide +kernel
theorem dX4_plain_65 : decode cX4_plain 65 = .ok (.getfield 13, 3) := by decide +kernel
theorem dX4_plain_68 : decode cX4_plain 68 = .ok (.iload_n 3, 1) := by decide +kernel
theorem dX4_plain_69 : decode cX4_plain 69 = .ok (.iaload, 1) := by decide +kernel
theorem dX4_plain_70 : decode cX4_plain 70 = .ok (.if_icmp .ge 48, 3) := by decide +kernel
theorem dX4_plain_73 : decode cX4_plain 73 = .ok (.iload 4, 2) := by decide +kernel
theorem dX4_plain_75 : decode cX4_plain 75 = .ok (.ifCond .eq 43, 3) := by decide +kernel
theorem dX4_plain_78 : decode cX4_plain 78 = .ok (.aload_n 0, 1) := by decide +kernel
theorem dX4_plain_79 : decode cX4_plain 79 = .ok (.getfield 30, 3) := by decide +kernel
theorem dX4_plain_82 : decode cX4_plain 82 = .ok (.sipush 128, 3) := by decide +kernel
theorem dX4_plain_85 : decode cX4_plain 85 = .ok (.iload 5, 2) := by decide +kernel
theorem dX4_plain_87 : decode cX4_plain 87 = .ok (.imul, 1) := by decide +kernel
theorem dX4_plain_88 : decode cX4_plain 88 = .ok (.aload_n 0, 1) := by decide +kernel
theorem dX4_plain_89 : decode cX4_plain 89 = .ok (.getfield 17, 3) := by decide +kernel
theorem dX4_plain_92 : decode cX4_plain 92 = .ok (.bipush 20, 2) := by decide +kernel
theorem dX4_plain_94 : decode cX4_plain 94 = .ok (.iload_n 3, 1) := by decide +kernel
theorem dX4_plain_95 : decode cX4_plain 95 = .ok (.imul, 1) := by decide +kernel
theorem dX4_plain_96 : decode cX4_plain 96 = .ok (.iload 5, 2) := by decide +kernel
theorem dX4_plain_98 : decode cX4_plain 98 = .ok (.iadd, 1) := by decide +kernel
theorem dX4_plain_99 : decode cX4_plain 99 = .ok (.iaload, 1) := by decide +kernel
theorem dX4_plain_100 : decode cX4_plain 100 = .ok (.iadd, 1) := by decide +kernel
theorem dX4_plain_101 : decode cX4_plain 101 = .ok (.iaload, 1) := by decide +kernel
theorem dX4_plain_102 : decode cX4_plain 102 = .ok (.ifCond .lt 7, 3) := by decide +kernel
theorem dX4_plain_105 : decode cX4_plain 105 = .ok (.iconst 1, 1) := by decide +kernel
theorem dX4_plain_106 : decode cX4_plain 106 = .ok (.goto 4, 3) := by decide +kernel
theorem dX4_plain_109 : decode cX4_plain 109 = .ok (.iconst 0, 1) := by decide +kernel
theorem dX4_plain_110 : decode cX4_plain 110 = .ok (.istore 4, 2) := by decide +kernel
theorem dX4_plain_112 : decode cX4_plain 112 = .ok (.iinc 5 1, 3) := by decide +kernel
theorem dX4_plain_115 : decode cX4_plain 115 = .ok (.goto (-53), 3) := by decide +kernel
theorem dX4_plain_118 : decode cX4_plain 118 = .ok (.iload 4, 2) := by decide +kernel
theorem dX4_plain_120 : decode cX4_plain 120 = .ok (.ifCond .eq 45, 3) := by decide +kernel
theorem dX4_plain_123 : decode cX4_plain 123 = .ok (.aload_n 0, 1) := by decide +kernel
theorem dX4_plain_124 : decode cX4_plain 124 = .ok (.getfield 71, 3) := by decide +kernel
theorem dX4_plain_127 : decode cX4_plain 127 = .ok (.iload_n 1, 1) := by decide +kernel
theorem dX4_plain_128 : decode cX4_plain 128 = .ok (.if_icmp .ge 37, 3) := by decide +kernel
theorem dX4_plain_131 : decode cX4_plain 131 = .ok (.aload_n 0, 1) := by decide +kernel
theorem dX4_plain_132 : decode cX4_plain 132 = .ok (.getfield 36, 3) := by decide +kernel
theorem dX4_plain_135 : decode cX4_plain 135 = .ok (.aload_n 0, 1) := by decide +kernel
theorem dX4_plain_136 : decode cX4_plain 136 = .ok (.getfield 71, 3) := by decide +kernel
theorem dX4_plain_139 : decode cX4_plain 139 = .ok (.iload_n 3, 1) := by decide +kernel
theorem dX4_plain_140 : decode cX4_plain 140 = .ok (.iastore, 1) := by decide +kernel
theorem dX4_plain_141 : decode cX4_plain 141 = .ok (.aload_n 0, 1) := by decide +kernel
theorem dX4_plain_142 : decode cX4_plain 142 = .ok (.getfield 39, 3) := by decide +kernel
theorem dX4_plain_145 : decode cX4_plain 145 = .ok (.aload_n 0, 1) := by decide +kernel
theorem dX4_plain_146 : decode cX4_plain 146 = .ok (.getfield 71, 3) := by decide +kernel
theorem dX4_plain_149 : decode cX4_plain 149 = .ok (.aload_n 0, 1) := by decide +kernel
theorem dX4_plain_150 : decode cX4_plain 150 = .ok (.iload_n 3, 1) := by decide +kernel
theorem dX4_plain_151 : decode cX4_plain 151 = .ok (.invokevirtual 77, 3) := by decide +kernel
theorem dX4_plain_154 : decode cX4_plain 154 = .ok (.iastore, 1) := by decide +kernel
theorem dX4_plain_155 : decode cX4_plain 155 = .ok (.aload_n 0, 1) := by decide +kernel
theorem dX4_plain_156 : decode cX4_plain 156 = .ok (.dup, 1) := by decide +kernel
theorem dX4_plain_157 : decode cX4_plain 157 = .ok (.getfield 71, 3) := by decide +kernel
theorem dX4_plain_160 : decode cX4_plain 160 = .ok (.iconst 1, 1) := by decide +kernel
theorem dX4_plain_161 : decode cX4_plain 161 = .ok (.iadd, 1) := by decide +kernel
theorem dX4_plain_162 : decode cX4_plain 162 = .ok (.putfield 71, 3) := by decide +kernel
theorem dX4_plain_165 : decode cX4_plain 165 = .ok (.iload 4, 2) := by decide +kernel
theorem dX4_plain_167 : decode cX4_plain 167 = .ok (.ifCond .eq 9, 3) := by decide +kernel
theorem dX4_plain_170 : decode cX4_plain 170 = .ok (.iload_n 2, 1) := by decide +kernel
theorem dX4_plain_171 : decode cX4_plain 171 = .ok (.iconst 1, 1) := by decide +kernel
theorem dX4_plain_172 : decode cX4_plain 172 = .ok (.iadd, 1) := by decide +kernel
theorem dX4_plain_173 : decode cX4_plain 173 = .ok (.goto 4, 3) := by decide +kernel
theorem dX4_plain_176 : decode cX4_plain 176 = .ok (.iload_n 2, 1) := by decide +kernel
theorem dX4_plain_177 : decode cX4_plain 177 = .ok (.istore_n 2, 1) := by decide +kernel
theorem dX4_plain_178 : decode cX4_plain 178 = .ok (.iinc 3 1, 3) := by decide +kernel
theorem dX4_plain_181 : decode cX4_plain 181 = .ok (.goto (-158), 3) := by decide +kernel
theorem dX4_plain_184 : decode cX4_plain 184 = .ok (.iload_n 2, 1) := by decide +kernel
theorem dX4_plain_185 : decode cX4_plain 185 = .ok (.ireturn, 1) := by decide +kernel
theorem dX0_init_0 : decode cX0_init 0 = .ok (.aload_n 0, 1) := by decide +kernel
theorem dX0_init_1 : decode cX0_init 1 = .ok (.invokespecial 3, 3) := by decide +kernel
theorem dX0_init_4 : decode cX0_init 4 = .ok (.aload_n 0, 1) := by decide +kernel
theorem dX0_init_5 : decode cX0_init 5 = .ok (.bipush 20, 2) := by decide +kernel
theorem dX0_init_7 : decode cX0_init 7 = .ok (.newarray .int, 2) := by decide +kernel
theorem dX0_init_9 : decode cX0_init 9 = .ok (.putfield 9, 3) := by decide +kernel
theorem dX0_init_12 : decode cX0_init 12 = .ok (.aload_n 0, 1) := by decide +kernel
theorem dX0_init_13 : decode cX0_init 13 = .ok (.iconst 0, 1) := by decide +kernel
theorem dX0_init_14 : decode cX0_init 14 = .ok (.putfield 15, 3) := by decide +kernel
theorem dX0_init_17 : decode cX0_init 17 = .ok (.aload_n 0, 1) := by decide +kernel
theorem dX0_init_18 : decode cX0_init 18 = .ok (.iconst 0, 1) := by decide +kernel
theorem dX0_init_19 : decode cX0_init 19 = .ok (.putfield 19, 3) := by decide +kernel
theorem dX0_init_22 : decode cX0_init 22 = .ok (.aload_n 0, 1) := by decide +kernel
theorem dX0_init_23 : decode cX0_init 23 = .ok (.iconst 0, 1) := by decide +kernel
theorem dX0_init_24 : decode cX0_init 24 = .ok (.putfield 22, 3) := by decide +kernel
theorem dX0_init_27 : decode cX0_init 27 = .ok (.aload_n 0, 1) := by decide +kernel
theorem dX0_init_28 : decode cX0_init 28 = .ok (.aconst_null, 1) := by decide +kernel
theorem dX0_init_29 : decode cX0_init 29 = .ok (.putfield 26, 3) := by decide +kernel
theorem dX0_init_32 : decode cX0_init 32 = .ok (.aload_n 0, 1) := by decide +kernel
theorem dX0_init_33 : decode cX0_init 33 = .ok (.iconst 0, 1) := by decide +kernel
theorem dX0_init_34 : decode cX0_init 34 = .ok (.putfield 30, 3) := by decide +kernel
theorem dX0_init_37 : decode cX0_init 37 = .ok (.return_, 1) := by decide +kernel
theorem dX0_append_0 : decode cX0_append 0 = .ok (.aload_n 0, 1) := by decide +kernel
theorem dX0_append_1 : decode cX0_append 1 = .ok (.getfield 15, 3) := by decide +kernel
theorem dX0_append_4 : decode cX0_append 4 = .ok (.aload_n 0, 1) := by decide +kernel
theorem dX0_append_5 : decode cX0_append 5 = .ok (.getfield 9, 3) := by decide +kernel
theorem dX0_append_8 : decode cX0_append 8 = .ok (.arraylength, 1) := by decide +kernel
theorem dX0_append_9 : decode cX0_append 9 = .ok (.if_icmp .lt 5, 3) := by decide +kernel
theorem dX0_append_12 : decode cX0_append 12 = .ok (.iconst 0, 1) := by decide +kernel
theorem dX0_append_13 : decode cX0_append 13 = .ok (.ireturn, 1) := by decide +kernel
theorem dX0_append_14 : decode cX0_append 14 = .ok (.aload_n 0, 1) := by decide +kernel
theorem dX0_append_15 : decode cX0_append 15 = .ok (.getfield 9, 3) := by decide +kernel
theorem dX0_append_18 : decode cX0_append 18 = .ok (.aload_n 0, 1) := by decide +kernel
theorem dX0_append_19 : decode cX0_append 19 = .ok (.getfield 15, 3) := by decide +kernel
theorem dX0_append_22 : decode cX0_append 22 = .ok (.iload_n 1, 1) := by decide +kernel
theorem dX0_append_23 : decode cX0_append 23 = .ok (.iastore, 1) := by decide +kernel
theorem dX0_append_24 : decode cX0_append 24 = .ok (.aload_n 0, 1) := by decide +kernel
theorem dX0_append_25 : decode cX0_append 25 = .ok (.dup, 1) := by decide +kernel
theorem dX0_append_26 : decode cX0_append 26 = .ok (.getfield 15, 3) := by decide +kernel
theorem dX0_append_29 : decode cX0_append 29 = .ok (.iconst 1, 1) := by decide +kernel
theorem dX0_append_30 : decode cX0_append 30 = .ok (.iadd, 1) := by decide +kernel
theorem dX0_append_31 : decode cX0_append 31 = .ok (.putfield 15, 3) := by decide +kernel
theorem dX0_append_34 : decode cX0_append 34 = .ok (.iconst 1, 1) := by decide +kernel
theorem dX0_append_35 : decode cX0_append 35 = .ok (.ireturn, 1) := by decide +kernel
theorem dX0_join_0 : decode cX0_join 0 = .ok (.aload_n 0, 1) := by decide +kernel
theorem dX0_join_1 : decode cX0_join 1 = .ok (.dup, 1) := by decide +kernel
theorem dX0_join_2 : decode cX0_join 2 = .ok (.getfield 19, 3) := by decide +kernel
theorem dX0_join_5 : decode cX0_join 5 = .ok (.iconst 1, 1) := by decide +kernel
theorem dX0_join_6 : decode cX0_join 6 = .ok (.iload_n 1, 1) := by decide +kernel
theorem dX0_join_7 : decode cX0_join 7 = .ok (.ishl, 1) := by decide +kernel
theorem dX0_join_8 : decode cX0_join 8 = .ok (.ior, 1) := by decide +kernel
theorem dX0_join_9 : decode cX0_join 9 = .ok (.putfield 19, 3) := by decide +kernel
theorem dX0_join_12 : decode cX0_join 12 = .ok (.return_, 1) := by decide +kernel
theorem dX0_isWithin_0 : decode cX0_isWithin 0 = .ok (.iload_n 1, 1) := by decide +kernel
theorem dX0_isWithin_1 : decode cX0_isWithin 1 = .ok (.iconst (-1), 1) := by decide +kernel
theorem dX0_isWithin_2 : decode cX0_isWithin 2 = .ok (.if_icmp .eq 14, 3) := by decide +kernel
theorem dX0_isWithin_5 : decode cX0_isWithin 5 = .ok (.aload_n 0, 1) := by decide +kernel
theorem dX0_isWithin_6 : decode cX0_isWithin 6 = .ok (.getfield 19, 3) := by decide +kernel
theorem dX0_isWithin_9 : decode cX0_isWithin 9 = .ok (.iconst 1, 1) := by decide +kernel
theorem dX0_isWithin_10 : decode cX0_isWithin 10 = .ok (.iload_n 1, 1) := by decide +kernel
theorem dX0_isWithin_11 : decode cX0_isWithin 11 = .ok (.ishl, 1) := by decide +kernel
theorem dX0_isWithin_12 : decode cX0_isWithin 12 = .ok (.iand, 1) := by decide +kernel
theorem dX0_isWithin_13 : decode cX0_isWithin 13 = .ok (.ifCond .eq 7, 3) := by decide +kernel
theorem dX0_isWithin_16 : decode cX0_isWithin 16 = .ok (.iconst 1, 1) := by decide +kernel
theorem dX0_isWithin_17 : decode cX0_isWithin 17 = .ok (.goto 4, 3) := by decide +kernel
theorem dX0_isWithin_20 : decode cX0_isWithin 20 = .ok (.iconst 0, 1) := by decide +kernel
theorem dX0_isWithin_21 : decode cX0_isWithin 21 = .ok (.ireturn, 1) := by decide +kernel
theorem dX1_init_0 : decode cX1_init 0 = .ok (.aload_n 0, 1) := by decide +kernel
theorem dX1_init_1 : decode cX1_init 1 = .ok (.invokespecial 3, 3) := by decide +kernel
theorem dX1_init_4 : decode cX1_init 4 = .ok (.aload_n 0, 1) := by decide +kernel
theorem dX1_init_5 : decode cX1_init 5 = .ok (.sipush 200, 3) := by decide +kernel
theorem dX1_init_8 : decode cX1_init 8 = .ok (.newarray .int, 2) := by decide +kernel
theorem dX1_init_10 : decode cX1_init 10 = .ok (.putfield 9, 3) := by decide +kernel
theorem dX1_init_13 : decode cX1_init 13 = .ok (.aload_n 0, 1) := by decide +kernel
theorem dX1_init_14 : decode cX1_init 14 = .ok (.sipush 200, 3) := by decide +kernel
theorem dX1_init_17 : decode cX1_init 17 = .ok (.newarray .int, 2) := by decide +kernel
theorem dX1_init_19 : decode cX1_init 19 = .ok (.putfield 15, 3) := by decide +kernel
theorem dX1_init_22 : decode cX1_init 22 = .ok (.aload_n 0, 1) := by decide +kernel
theorem dX1_init_23 : decode cX1_init 23 = .ok (.iconst 0, 1) := by decide +kernel
theorem dX1_init_24 : decode cX1_init 24 = .ok (.putfield 18, 3) := by decide +kernel
theorem dX1_init_27 : decode cX1_init 27 = .ok (.return_, 1) := by decide +kernel
theorem dX1_forget_0 : decode cX1_forget 0 = .ok (.aload_n 0, 1) := by decide +kernel
theorem dX1_forget_1 : decode cX1_forget 1 = .ok (.iconst 0, 1) := by decide +kernel
theorem dX1_forget_2 : decode cX1_forget 2 = .ok (.putfield 18, 3) := by decide +kernel
theorem dX1_forget_5 : decode cX1_forget 5 = .ok (.return_, 1) := by decide +kernel
theorem dX1_has_0 : decode cX1_has 0 = .ok (.iload_n 1, 1) := by decide +kernel
theorem dX1_has_1 : decode cX1_has 1 = .ok (.ifCond .lt 24, 3) := by decide +kernel
theorem dX1_has_4 : decode cX1_has 4 = .ok (.iload_n 1, 1) := by decide +kernel
theorem dX1_has_5 : decode cX1_has 5 = .ok (.aload_n 0, 1) := by decide +kernel
theorem dX1_has_6 : decode cX1_has 6 = .ok (.getfield 18, 3) := by decide +kernel
theorem dX1_has_9 : decode cX1_has 9 = .ok (.if_icmp .ge 16, 3) := by decide +kernel
theorem dX1_has_12 : decode cX1_has 12 = .ok (.iload_n 1, 1) := by decide +kernel
theorem dX1_has_13 : decode cX1_has 13 = .ok (.aload_n 0, 1) := by decide +kernel
theorem dX1_has_14 : decode cX1_has 14 = .ok (.getfield 9, 3) := by decide +kernel
theorem dX1_has_17 : decode cX1_has 17 = .ok (.arraylength, 1) := by decide +kernel
theorem dX1_has_18 : decode cX1_has 18 = .ok (.if_icmp .ge 7, 3) := by decide +kernel
theorem dX1_has_21 : decode cX1_has 21 = .ok (.iconst 1, 1) := by decide +kernel
theorem dX1_has_22 : decode cX1_has 22 = .ok (.goto 4, 3) := by decide +kernel
theorem dX1_has_25 : decode cX1_has 25 = .ok (.iconst 0, 1) := by decide +kernel
theorem dX1_has_26 : decode cX1_has 26 = .ok (.ireturn, 1) := by decide +kernel
theorem dX1_addLast_0 : decode cX1_addLast 0 = .ok (.aload_n 0, 1) := by decide +kernel
theorem dX1_addLast_1 : decode cX1_addLast 1 = .ok (.getfield 18, 3) := by decide +kernel
theorem dX1_addLast_4 : decode cX1_addLast 4 = .ok (.aload_n 0, 1) := by decide +kernel
theorem dX1_addLast_5 : decode cX1_addLast 5 = .ok (.getfield 9, 3) := by decide +kernel
theorem dX1_addLast_8 : decode cX1_addLast 8 = .ok (.arraylength, 1) := by decide +kernel
theorem dX1_addLast_9 : decode cX1_addLast 9 = .ok (.if_icmp .ge 33, 3) := by decide +kernel
theorem dX1_addLast_12 : decode cX1_addLast 12 = .ok (.aload_n 0, 1) := by decide +kernel
theorem dX1_addLast_13 : decode cX1_addLast 13 = .ok (.getfield 9, 3) := by decide +kernel
theorem dX1_addLast_16 : decode cX1_addLast 16 = .ok (.aload_n 0, 1) := by decide +kernel
theorem dX1_addLast_17 : decode cX1_addLast 17 = .ok (.getfield 18, 3) := by decide +kernel
theorem dX1_addLast_20 : decode cX1_addLast 20 = .ok (.iload_n 1, 1) := by decide +kernel
theorem dX1_addLast_21 : decode cX1_addLast 21 = .ok (.iastore, 1) := by decide +kernel
theorem dX1_addLast_22 : decode cX1_addLast 22 = .ok (.aload_n 0, 1) := by decide +kernel
theorem dX1_addLast_23 : decode cX1_addLast 23 = .ok (.getfield 15, 3) := by decide +kernel
theorem dX1_addLast_26 : decode cX1_addLast 26 = .ok (.aload_n 0, 1) := by decide +kernel
theorem dX1_addLast_27 : decode cX1_addLast 27 = .ok (.getfield 18, 3) := by decide +kernel
theorem dX1_addLast_30 : decode cX1_addLast 30 = .ok (.iload_n 2, 1) := by decide +kernel
theorem dX1_addLast_31 : decode cX1_addLast 31 = .ok (.iastore, 1) := by decide +kernel
theorem dX1_addLast_32 : decode cX1_addLast 32 = .ok (.aload_n 0, 1) := by decide +kernel
theorem dX1_addLast_33 : decode cX1_addLast 33 = .ok (.dup, 1) := by decide +kernel
theorem dX1_addLast_34 : decode cX1_addLast 34 = .ok (.getfield 18, 3) := by decide +kernel
theorem dX1_addLast_37 : decode cX1_addLast 37 = .ok (.iconst 1, 1) := by decide +kernel
theorem dX1_addLast_38 : decode cX1_addLast 38 = .ok (.iadd, 1) := by decide +kernel
theorem dX1_addLast_39 : decode cX1_addLast 39 = .ok (.putfield 18, 3) := by decide +kernel
theorem dX1_addLast_42 : decode cX1_addLast 42 = .ok (.return_, 1) := by decide +kernel
theorem dX1_addBySum_0 : decode cX1_addBySum 0 = .ok (.aload_n 0, 1) := by decide +kernel
theorem dX1_addBySum_1 : decode cX1_addBySum 1 = .ok (.getfield 18, 3) := by decide +kernel
theorem dX1_addBySum_4 : decode cX1_addBySum 4 = .ok (.aload_n 0, 1) := by decide +kernel
theorem dX1_addBySum_5 : decode cX1_addBySum 5 = .ok (.getfield 9, 3) := by decide +kernel
theorem dX1_addBySum_8 : decode cX1_addBySum 8 = .ok (.arraylength, 1) := by decide +kernel
theorem dX1_addBySum_9 : decode cX1_addBySum 9 = .ok (.if_icmp .lt 4, 3) := by decide +kernel
theorem dX1_addBySum_12 : decode cX1_addBySum 12 = .ok (.return_, 1) := by decide +kernel
theorem dX1_addBySum_13 : decode cX1_addBySum 13 = .ok (.aload_n 0, 1) := by decide +kernel
theorem dX1_addBySum_14 : decode cX1_addBySum 14 = .ok (.getfield 18, 3) := by decide +kernel
theorem dX1_addBySum_17 : decode cX1_addBySum 17 = .ok (.istore_n 3, 1) := by decide +kernel
theorem dX1_addBySum_18 : decode cX1_addBySum 18 = .ok (.iload_n 3, 1) := by decide +kernel
theorem dX1_addBySum_19 : decode cX1_addBySum 19 = .ok (.ifCond .le 49, 3) := by decide +kernel
theorem dX1_addBySum_22 : decode cX1_addBySum 22 = .ok (.aload_n 0, 1) := by decide +kernel
theorem dX1_addBySum_23 : decode cX1_addBySum 23 = .ok (.getfield 15, 3) := by decide +kernel
theorem dX1_addBySum_26 : decode cX1_addBySum 26 = .ok (.iload_n 3, 1) := by decide +kernel
theorem dX1_addBySum_27 : decode cX1_addBySum 27 = .ok (.iconst 1, 1) := by decide +kernel
theorem dX1_addBySum_28 : decode cX1_addBySum 28 = .ok (.isub, 1) := by decide +kernel
theorem dX1_addBySum_29 : decode cX1_addBySum 29 = .ok (.iaload, 1) := by decide +kernel
theorem dX1_addBySum_30 : decode cX1_addBySum 30 = .ok (.iload_n 2, 1) := by decide +kernel
theorem dX1_addBySum_31 : decode cX1_addBySum 31 = .ok (.if_icmp .le 37, 3) := by decide +kernel
theorem dX1_addBySum_34 : decode cX1_addBySum 34 = .ok (.aload_n 0, 1) := by decide +kernel
theorem dX1_addBySum_35 : decode cX1_addBySum 35 = .ok (.getfield 9, 3) := by decide +kernel
theorem dX1_addBySum_38 : decode cX1_addBySum 38 = .ok (.iload_n 3, 1) := by decide +kernel
theorem dX1_addBySum_39 : decode cX1_addBySum 39 = .ok (.aload_n 0, 1) := by decide +kernel
theorem dX1_addBySum_40 : decode cX1_addBySum 40 = .ok (.getfield 9, 3) := by decide +kernel
theorem dX1_addBySum_43 : decode cX1_addBySum 43 = .ok (.iload_n 3, 1) := by decide +kernel
theorem dX1_addBySum_44 : decode cX1_addBySum 44 = .ok (.iconst 1, 1) := by decide +kernel
theorem dX1_addBySum_45 : decode cX1_addBySum 45 = .ok (.isub, 1) := by decide +kernel
theorem dX1_addBySum_46 : decode cX1_addBySum 46 = .ok (.iaload, 1) := by decide +kernel
theorem dX1_addBySum_47 : decode cX1_addBySum 47 = .ok (.iastore, 1) := by decide +kernel
theorem dX1_addBySum_48 : decode cX1_addBySum 48 = .ok (.aload_n 0, 1) := by decide +kernel
theorem dX1_addBySum_49 : decode cX1_addBySum 49 = .ok (.getfield 15, 3) := by decide +kernel
theorem dX1_addBySum_52 : decode cX1_addBySum 52 = .ok (.iload_n 3, 1) := by decide +kernel
theorem dX1_addBySum_53 : decode cX1_addBySum 53 = .ok (.aload_n 0, 1) := by decide +kernel
theorem dX1_addBySum_54 : decode cX1_addBySum 54 = .ok (.getfield 15, 3) := by decide +kernel
theorem dX1_addBySum_57 : decode cX1_addBySum 57 = .ok (.iload_n 3, 1) := by decide +kernel
theorem dX1_addBySum_58 : decode cX1_addBySum 58 = .ok (.iconst 1, 1) := by decide +kernel
theorem dX1_addBySum_59 : decode cX1_addBySum 59 = .ok (.isub, 1) := by decide +kernel
theorem dX1_addBySum_60 : decode cX1_addBySum 60 = .ok (.iaload, 1) := by decide +kernel
theorem dX1_addBySum_61 : decode cX1_addBySum 61 = .ok (.iastore, 1) := by decide +kernel
theorem dX1_addBySum_62 : decode cX1_addBySum 62 = .ok (.iinc 3 (-1), 3) := by decide +kernel
theorem dX1_addBySum_65 : decode cX1_addBySum 65 = .ok (.goto (-47), 3) := by decide +kernel
theorem dX1_addBySum_68 : decode cX1_addBySum 68 = .ok (.aload_n 0, 1) := by decide +kernel
theorem dX1_addBySum_69 : decode cX1_addBySum 69 = .ok (.getfield 9, 3) := by decide +kernel
theorem dX1_addBySum_72 : decode cX1_addBySum 72 = .ok (.iload_n 3, 1) := by decide +kernel
theorem dX1_addBySum_73 : decode cX1_addBySum 73 = .ok (.iload_n 1, 1) := by decide +kernel
theorem dX1_addBySum_74 : decode cX1_addBySum 74 = .ok (.iastore, 1) := by decide +kernel
theorem dX1_addBySum_75 : decode cX1_addBySum 75 = .ok (.aload_n 0, 1) := by decide +kernel
theorem dX1_addBySum_76 : decode cX1_addBySum 76 = .ok (.getfield 15, 3) := by decide +kernel
theorem dX1_addBySum_79 : decode cX1_addBySum 79 = .ok (.iload_n 3, 1) := by decide +kernel
theorem dX1_addBySum_80 : decode cX1_addBySum 80 = .ok (.iload_n 2, 1) := by decide +kernel
theorem dX1_addBySum_81 : decode cX1_addBySum 81 = .ok (.iastore, 1) := by decide +kernel
theorem dX1_addBySum_82 : decode cX1_addBySum 82 = .ok (.aload_n 0, 1) := by decide +kernel
theorem dX1_addBySum_83 : decode cX1_addBySum 83 = .ok (.dup, 1) := by decide +kernel
theorem dX1_addBySum_84 : decode cX1_addBySum 84 = .ok (.getfield 18, 3) := by decide +kernel
theorem dX1_addBySum_87 : decode cX1_addBySum 87 = .ok (.iconst 1, 1) := by decide +kernel
theorem dX1_addBySum_88 : decode cX1_addBySum 88 = .ok (.iadd, 1) := by decide +kernel
theorem dX1_addBySum_89 : decode cX1_addBySum 89 = .ok (.putfield 18, 3) := by decide +kernel
theorem dX1_addBySum_92 : decode cX1_addBySum 92 = .ok (.return_, 1) := by decide +kernel
theorem dX1_keepFirst_0 : decode cX1_keepFirst 0 = .ok (.aload_n 0, 1) := by decide +kernel
theorem dX1_keepFirst_1 : decode cX1_keepFirst 1 = .ok (.aload_n 0, 1) := by decide +kernel
theorem dX1_keepFirst_2 : decode cX1_keepFirst 2 = .ok (.getfield 18, 3) := by decide +kernel
theorem dX1_keepFirst_5 : decode cX1_keepFirst 5 = .ok (.iload_n 1, 1) := by decide +kernel
theorem dX1_keepFirst_6 : decode cX1_keepFirst 6 = .ok (.invokestatic 22, 3) := by decide +kernel
theorem dX1_keepFirst_9 : decode cX1_keepFirst 9 = .ok (.putfield 18, 3) := by decide +kernel
theorem dX1_keepFirst_12 : decode cX1_keepFirst 12 = .ok (.return_, 1) := by decide +kernel
theorem dX2_init_0 : decode cX2_init 0 = .ok (.aload_n 0, 1) := by decide +kernel
theorem dX2_init_1 : decode cX2_init 1 = .ok (.invokespecial 3, 3) := by decide +kernel
theorem dX2_init_4 : decode cX2_init 4 = .ok (.aload_n 0, 1) := by decide +kernel
theorem dX2_init_5 : decode cX2_init 5 = .ok (.sipush 1880, 3) := by decide +kernel
theorem dX2_init_8 : decode cX2_init 8 = .ok (.newarray .int, 2) := by decide +kernel
theorem dX2_init_10 : decode cX2_init 10 = .ok (.putfield 11, 3) := by decide +kernel
theorem dX2_init_13 : decode cX2_init 13 = .ok (.aload_n 0, 1) := by decide +kernel
theorem dX2_init_14 : decode cX2_init 14 = .ok (.getfield 11, 3) := by decide +kernel
theorem dX2_init_17 : decode cX2_init 17 = .ok (.iconst (-1), 1) := by decide +kernel
theorem dX2_init_18 : decode cX2_init 18 = .ok (.invokestatic 15, 3) := by decide +kernel
theorem dX2_init_21 : decode cX2_init 21 = .ok (.aload_n 0, 1) := by decide +kernel
theorem dX2_init_22 : decode cX2_init 22 = .ok (.bipush 21, 2) := by decide +kernel
theorem dX2_init_24 : decode cX2_init 24 = .ok (.newarray .int, 2) := by decide +kernel
theorem dX2_init_26 : decode cX2_init 26 = .ok (.putfield 21, 3) := by decide +kernel
theorem dX2_init_29 : decode cX2_init 29 = .ok (.aload_n 0, 1) := by decide +kernel
theorem dX2_init_30 : decode cX2_init 30 = .ok (.iconst 0, 1) := by decide +kernel
theorem dX2_init_31 : decode cX2_init 31 = .ok (.putfield 24, 3) := by decide +kernel
theorem dX2_init_34 : decode cX2_init 34 = .ok (.return_, 1) := by decide +kernel
theorem dX2_tell_0 : decode cX2_tell 0 = .ok (.iload_n 1, 1) := by decide +kernel
theorem dX2_tell_1 : decode cX2_tell 1 = .ok (.iload_n 2, 1) := by decide +kernel
theorem dX2_tell_2 : decode cX2_tell 2 = .ok (.invokestatic 28, 3) := by decide +kernel
theorem dX2_tell_5 : decode cX2_tell 5 = .ok (.istore 4, 2) := by decide +kernel
theorem dX2_tell_7 : decode cX2_tell 7 = .ok (.iload 4, 2) := by decide +kernel
theorem dX2_tell_9 : decode cX2_tell 9 = .ok (.ifCond .ge 4, 3) := by decide +kernel
theorem dX2_tell_12 : decode cX2_tell 12 = .ok (.return_, 1) := by decide +kernel
theorem dX2_tell_13 : decode cX2_tell 13 = .ok (.aload_n 0, 1) := by decide +kernel
theorem dX2_tell_14 : decode cX2_tell 14 = .ok (.getfield 11, 3) := by decide +kernel
theorem dX2_tell_17 : decode cX2_tell 17 = .ok (.iload 4, 2) := by decide +kernel
theorem dX2_tell_19 : decode cX2_tell 19 = .ok (.iload_n 3, 1) := by decide +kernel
theorem dX2_tell_20 : decode cX2_tell 20 = .ok (.iastore, 1) := by decide +kernel
theorem dX2_tell_21 : decode cX2_tell 21 = .ok (.aload_n 0, 1) := by decide +kernel
theorem dX2_tell_22 : decode cX2_tell 22 = .ok (.aload_n 0, 1) := by decide +kernel
theorem dX2_tell_23 : decode cX2_tell 23 = .ok (.getfield 24, 3) := by decide +kernel
theorem dX2_tell_26 : decode cX2_tell 26 = .ok (.iload_n 1, 1) := by decide +kernel
theorem dX2_tell_27 : decode cX2_tell 27 = .ok (.iconst 1, 1) := by decide +kernel
theorem dX2_tell_28 : decode cX2_tell 28 = .ok (.iadd, 1) := by decide +kernel
theorem dX2_tell_29 : decode cX2_tell 29 = .ok (.invokestatic 32, 3) := by decide +kernel
theorem dX2_tell_32 : decode cX2_tell 32 = .ok (.putfield 24, 3) := by decide +kernel
theorem dX2_tell_35 : decode cX2_tell 35 = .ok (.return_, 1) := by decide +kernel
theorem dX2_forget_0 : decode cX2_forget 0 = .ok (.aload_n 0, 1) := by decide +kernel
theorem dX2_forget_1 : decode cX2_forget 1 = .ok (.getfield 11, 3) := by decide +kernel
theorem dX2_forget_4 : decode cX2_forget 4 = .ok (.iconst (-1), 1) := by decide +kernel
theorem dX2_forget_5 : decode cX2_forget 5 = .ok (.invokestatic 15, 3) := by decide +kernel
theorem dX2_forget_8 : decode cX2_forget 8 = .ok (.aload_n 0, 1) := by decide +kernel
theorem dX2_forget_9 : decode cX2_forget 9 = .ok (.iconst 0, 1) := by decide +kernel
theorem dX2_forget_10 : decode cX2_forget 10 = .ok (.putfield 24, 3) := by decide +kernel
theorem dX2_forget_13 : decode cX2_forget 13 = .ok (.return_, 1) := by decide +kernel
theorem dX2_spells_0 : decode cX2_spells 0 = .ok (.aload_n 1, 1) := by decide +kernel
theorem dX2_spells_1 : decode cX2_spells 1 = .ok (.getfield 37, 3) := by decide +kernel
theorem dX2_spells_4 : decode cX2_spells 4 = .ok (.aload_n 0, 1) := by decide +kernel
theorem dX2_spells_5 : decode cX2_spells 5 = .ok (.getfield 24, 3) := by decide +kernel
theorem dX2_spells_8 : decode cX2_spells 8 = .ok (.if_icmp .eq 5, 3) := by decide +kernel
theorem dX2_spells_11 : decode cX2_spells 11 = .ok (.iconst 0, 1) := by decide +kernel
theorem dX2_spells_12 : decode cX2_spells 12 = .ok (.ireturn, 1) := by decide +kernel
theorem dX2_spells_13 : decode cX2_spells 13 = .ok (.iconst 0, 1) := by decide +kernel
theorem dX2_spells_14 : decode cX2_spells 14 = .ok (.istore_n 2, 1) := by decide +kernel
theorem dX2_spells_15 : decode cX2_spells 15 = .ok (.iload_n 2, 1) := by decide +kernel
theorem dX2_spells_16 : decode cX2_spells 16 = .ok (.aload_n 0, 1) := by decide +kernel
theorem dX2_spells_17 : decode cX2_spells 17 = .ok (.getfield 24, 3) := by decide +kernel
theorem dX2_spells_20 : decode cX2_spells 20 = .ok (.if_icmp .ge 26, 3) := by decide +kernel
theorem dX2_spells_23 : decode cX2_spells 23 = .ok (.aload_n 0, 1) := by decide +kernel
theorem dX2_spells_24 : decode cX2_spells 24 = .ok (.iload_n 2, 1) := by decide +kernel
theorem dX2_spells_25 : decode cX2_spells 25 = .ok (.aload_n 1, 1) := by decide +kernel
theorem dX2_spells_26 : decode cX2_spells 26 = .ok (.getfield 42, 3) := by decide +kernel
theorem dX2_spells_29 : decode cX2_spells 29 = .ok (.iload_n 2, 1) := by decide +kernel
theorem dX2_spells_30 : decode cX2_spells 30 = .ok (.iaload, 1) := by decide +kernel
theorem dX2_spells_31 : decode cX2_spells 31 = .ok (.invokevirtual 45, 3) := by decide +kernel
theorem dX2_spells_34 : decode cX2_spells 34 = .ok (.iconst (-1), 1) := by decide +kernel
theorem dX2_spells_35 : decode cX2_spells 35 = .ok (.if_icmp .ne 5, 3) := by decide +kernel
theorem dX2_spells_38 : decode cX2_spells 38 = .ok (.iconst 0, 1) := by decide +kernel
theorem dX2_spells_39 : decode cX2_spells 39 = .ok (.ireturn, 1) := by decide +kernel
theorem dX2_spells_40 : decode cX2_spells 40 = .ok (.iinc 2 1, 3) := by decide +kernel
theorem dX2_spells_43 : decode cX2_spells 43 = .ok (.goto (-28), 3) := by decide +kernel
theorem dX2_spells_46 : decode cX2_spells 46 = .ok (.iconst 1, 1) := by decide +kernel
theorem dX2_spells_47 : decode cX2_spells 47 = .ok (.ireturn, 1) := by decide +kernel
theorem dX2_leastCostOf_0 : decode cX2_leastCostOf 0 = .ok (.iconst 0, 1) := by decide +kernel
theorem dX2_leastCostOf_1 : decode cX2_leastCostOf 1 = .ok (.istore_n 2, 1) := by decide +kernel
theorem dX2_leastCostOf_2 : decode cX2_leastCostOf 2 = .ok (.iload_n 2, 1) := by decide +kernel
theorem dX2_leastCostOf_3 : decode cX2_leastCostOf 3 = .ok (.aload_n 0, 1) := by decide +kernel
theorem dX2_leastCostOf_4 : decode cX2_leastCostOf 4 = .ok (.getfield 24, 3) := by decide +kernel
theorem dX2_leastCostOf_7 : decode cX2_leastCostOf 7 = .ok (.if_icmp .gt 19, 3) := by decide +kernel
theorem dX2_leastCostOf_10 : decode cX2_leastCostOf 10 = .ok (.aload_n 0, 1) := by decide +kernel
theorem dX2_leastCostOf_11 : decode cX2_leastCostOf 11 = .ok (.getfield 21, 3) := by decide +kernel
theorem dX2_leastCostOf_14 : decode cX2_leastCostOf 14 = .ok (.iload_n 2, 1) := by decide +kernel
theorem dX2_leastCostOf_15 : decode cX2_leastCostOf 15 = .ok (.iload_n 2, 1) := by decide +kernel
theorem dX2_leastCostOf_16 : decode cX2_leastCostOf 16 = .ok (.bipush 25, 2) := by decide +kernel
theorem dX2_leastCostOf_18 : decode cX2_leastCostOf 18 = .ok (.imul, 1) := by decide +kernel
theorem dX2_leastCostOf_19 : decode cX2_leastCostOf 19 = .ok (.iastore, 1) := by decide +kernel
theorem dX2_leastCostOf_20 : decode cX2_leastCostOf 20 = .ok (.iinc 2 1, 3) := by decide +kernel
theorem dX2_leastCostOf_23 : decode cX2_leastCostOf 23 = .ok (.goto (-21), 3) := by decide +kernel
theorem dX2_leastCostOf_26 : decode cX2_leastCostOf 26 = .ok (.iconst 0, 1) := by decide +kernel
theorem dX2_leastCostOf_27 : decode cX2_leastCostOf 27 = .ok (.istore_n 2, 1) := by decide +kernel
theorem dX2_leastCostOf_28 : decode cX2_leastCostOf 28 = .ok (.iload_n 2, 1) := by decide +kernel
theorem dX2_leastCostOf_29 : decode cX2_leastCostOf 29 = .ok (.aload_n 1, 1) := by decide +kernel
theorem dX2_leastCostOf_30 : decode cX2_leastCostOf 30 = .ok (.getfield 37, 3) := by decide +kernel
theorem dX2_leastCostOf_33 : decode cX2_leastCostOf 33 = .ok (.if_icmp .ge 19, 3) := by decide +kernel
theorem dX2_leastCostOf_36 : decode cX2_leastCostOf 36 = .ok (.aload_n 0, 1) := by decide +kernel
theorem dX2_leastCostOf_37 : decode cX2_leastCostOf 37 = .ok (.aload_n 1, 1) := by decide +kernel
theorem dX2_leastCostOf_38 : decode cX2_leastCostOf 38 = .ok (.getfield 42, 3) := by decide +kernel
theorem dX2_leastCostOf_41 : decode cX2_leastCostOf 41 = .ok (.iload_n 2, 1) := by decide +kernel
theorem dX2_leastCostOf_42 : decode cX2_leastCostOf 42 = .ok (.iaload, 1) := by decide +kernel
theorem dX2_leastCostOf_43 : decode cX2_leastCostOf 43 = .ok (.invokevirtual 48, 3) := by decide +kernel
theorem dX2_leastCostOf_46 : decode cX2_leastCostOf 46 = .ok (.iinc 2 1, 3) := by decide +kernel
theorem dX2_leastCostOf_49 : decode cX2_leastCostOf 49 = .ok (.goto (-21), 3) := by decide +kernel
theorem dX2_leastCostOf_52 : decode cX2_leastCostOf 52 = .ok (.aload_n 0, 1) := by decide +kernel
theorem dX2_leastCostOf_53 : decode cX2_leastCostOf 53 = .ok (.getfield 21, 3) := by decide +kernel
theorem dX2_leastCostOf_56 : decode cX2_leastCostOf 56 = .ok (.aload_n 0, 1) := by decide +kernel
theorem dX2_leastCostOf_57 : decode cX2_leastCostOf 57 = .ok (.getfield 24, 3) := by decide +kernel
theorem dX2_leastCostOf_60 : decode cX2_leastCostOf 60 = .ok (.iaload, 1) := by decide +kernel
theorem dX2_leastCostOf_61 : decode cX2_leastCostOf 61 = .ok (.ireturn, 1) := by decide +kernel
theorem dX2_addSign_0 : decode cX2_addSign 0 = .ok (.aload_n 0, 1) := by decide +kernel
theorem dX2_addSign_1 : decode cX2_addSign 1 = .ok (.getfield 21, 3) := by decide +kernel
theorem dX2_addSign_4 : decode cX2_addSign 4 = .ok (.iconst 0, 1) := by decide +kernel
theorem dX2_addSign_5 : decode cX2_addSign 5 = .ok (.iaload, 1) := by decide +kernel
theorem dX2_addSign_6 : decode cX2_addSign 6 = .ok (.istore_n 2, 1) := by decide +kernel
theorem dX2_addSign_7 : decode cX2_addSign 7 = .ok (.aload_n 0, 1) := by decide +kernel
theorem dX2_addSign_8 : decode cX2_addSign 8 = .ok (.getfield 21, 3) := by decide +kernel
end
section
theorem dL_law_0 : decode code 0 = .ok (.new 7, 3) := by decide +kernel
theorem dL_law_3 : decode code 3 = .ok (.dup, 1) := by decide +kernel
theorem dL_law_4 : decode code 4 = .ok (.invokespecial 9, 3) := by decide +kernel
theorem dL_law_7 : decode code 7 = .ok (.astore_n 1, 1) := by decide +kernel
theorem dL_law_8 : decode code 8 = .ok (.new 10, 3) := by decide +kernel
theorem dL_law_11 : decode code 11 = .ok (.dup, 1) := by decide +kernel
theorem dL_law_12 : decode code 12 = .ok (.invokespecial 12, 3) := by decide +kernel
theorem dL_law_15 : decode code 15 = .ok (.astore_n 2, 1) := by decide +kernel
theorem dL_law_16 : decode code 16 = .ok (.iconst 0, 1) := by decide +kernel
theorem dL_law_17 : decode code 17 = .ok (.istore_n 3, 1) := by decide +kernel
theorem dL_law_18 : decode code 18 = .ok (.iload_n 3, 1) := by decide +kernel
theorem dL_law_19 : decode code 19 = .ok (.aload_n 0, 1) := by decide +kernel
theorem dL_law_20 : decode code 20 = .ok (.arraylength, 1) := by decide +kernel
theorem dL_law_21 : decode code 21 = .ok (.iconst 4, 1) := by decide +kernel
theorem dL_law_22 : decode code 22 = .ok (.isub, 1) := by decide +kernel
theorem dL_law_23 : decode code 23 = .ok (.if_icmp .gt 359, 3) := by decide +kernel
theorem dL_law_26 : decode code 26 = .ok (.aload_n 0, 1) := by decide +kernel
theorem dL_law_27 : decode code 27 = .ok (.iload_n 3, 1) := by decide +kernel
theorem dL_law_28 : decode code 28 = .ok (.iaload, 1) := by decide +kernel
theorem dL_law_29 : decode code 29 = .ok (.bipush 15, 2) := by decide +kernel
theorem dL_law_31 : decode code 31 = .ok (.iand, 1) := by decide +kernel
theorem dL_law_32 : decode code 32 = .ok (.tableswitch 344 0 10 #[60, 73, 106, 129, 172, 185, 208, 231, 255, 288, 321], 60) := by decide +kernel
theorem dL_law_92 : decode code 92 = .ok (.aload_n 1, 1) := by decide +kernel
theorem dL_law_93 : decode code 93 = .ok (.invokevirtual 13, 3) := by decide +kernel
theorem dL_law_96 : decode code 96 = .ok (.aload_n 2, 1) := by decide +kernel
theorem dL_law_97 : decode code 97 = .ok (.invokevirtual 17, 3) := by decide +kernel
theorem dL_law_100 : decode code 100 = .ok (.if_icmp .eq 276, 3) := by decide +kernel
theorem dL_law_103 : decode code 103 = .ok (.iconst 0, 1) := by decide +kernel
theorem dL_law_104 : decode code 104 = .ok (.ireturn, 1) := by decide +kernel
theorem dL_law_105 : decode code 105 = .ok (.aload_n 1, 1) := by decide +kernel
theorem dL_law_106 : decode code 106 = .ok (.aload_n 0, 1) := by decide +kernel
theorem dL_law_107 : decode code 107 = .ok (.iload_n 3, 1) := by decide +kernel
theorem dL_law_108 : decode code 108 = .ok (.iconst 1, 1) := by decide +kernel
theorem dL_law_109 : decode code 109 = .ok (.iadd, 1) := by decide +kernel
theorem dL_law_110 : decode code 110 = .ok (.iaload, 1) := by decide +kernel
theorem dL_law_111 : decode code 111 = .ok (.aload_n 0, 1) := by decide +kernel
theorem dL_law_112 : decode code 112 = .ok (.iload_n 3, 1) := by decide +kernel
theorem dL_law_113 : decode code 113 = .ok (.iconst 2, 1) := by decide +kernel
theorem dL_law_114 : decode code 114 = .ok (.iadd, 1) := by decide +kernel
theorem dL_law_115 : decode code 115 = .ok (.iaload, 1) := by decide +kernel
theorem dL_law_116 : decode code 116 = .ok (.invokevirtual 18, 3) := by decide +kernel
theorem dL_law_119 : decode code 119 = .ok (.aload_n 2, 1) := by decide +kernel
theorem dL_law_120 : decode code 120 = .ok (.aload_n 0, 1) := by decide +kernel
theorem dL_law_121 : decode code 121 = .ok (.iload_n 3, 1) := by decide +kernel
theorem dL_law_122 : decode code 122 = .ok (.iconst 1, 1) := by decide +kernel
theorem dL_law_123 : decode code 123 = .ok (.iadd, 1) := by decide +kernel
theorem dL_law_124 : decode code 124 = .ok (.iaload, 1) := by decide +kernel
theorem dL_law_125 : decode code 125 = .ok (.aload_n 0, 1) := by decide +kernel
theorem dL_law_126 : decode code 126 = .ok (.iload_n 3, 1) := by decide +kernel
theorem dL_law_127 : decode code 127 = .ok (.iconst 2, 1) := by decide +kernel
theorem dL_law_128 : decode code 128 = .ok (.iadd, 1) := by decide +kernel
theorem dL_law_129 : decode code 129 = .ok (.iaload, 1) := by decide +kernel
theorem dL_law_130 : decode code 130 = .ok (.invokevirtual 22, 3) := by decide +kernel
theorem dL_law_133 : decode code 133 = .ok (.if_icmp .eq 243, 3) := by decide +kernel
theorem dL_law_136 : decode code 136 = .ok (.iconst 0, 1) := by decide +kernel
theorem dL_law_137 : decode code 137 = .ok (.ireturn, 1) := by decide +kernel
theorem dL_law_138 : decode code 138 = .ok (.aload_n 1, 1) := by decide +kernel
theorem dL_law_139 : decode code 139 = .ok (.aload_n 0, 1) := by decide +kernel
theorem dL_law_140 : decode code 140 = .ok (.iload_n 3, 1) := by decide +kernel
theorem dL_law_141 : decode code 141 = .ok (.iconst 1, 1) := by decide +kernel
theorem dL_law_142 : decode code 142 = .ok (.iadd, 1) := by decide +kernel
theorem dL_law_143 : decode code 143 = .ok (.iaload, 1) := by decide +kernel
theorem dL_law_144 : decode code 144 = .ok (.invokevirtual 23, 3) := by decide +kernel
theorem dL_law_147 : decode code 147 = .ok (.aload_n 2, 1) := by decide +kernel
theorem dL_law_148 : decode code 148 = .ok (.aload_n 0, 1) := by decide +kernel
theorem dL_law_149 : decode code 149 = .ok (.iload_n 3, 1) := by decide +kernel
theorem dL_law_150 : decode code 150 = .ok (.iconst 1, 1) := by decide +kernel
theorem dL_law_151 : decode code 151 = .ok (.iadd, 1) := by decide +kernel
theorem dL_law_152 : decode code 152 = .ok (.iaload, 1) := by decide +kernel
theorem dL_law_153 : decode code 153 = .ok (.invokevirtual 27, 3) := by decide +kernel
theorem dL_law_156 : decode code 156 = .ok (.if_icmp .eq 220, 3) := by decide +kernel
theorem dL_law_159 : decode code 159 = .ok (.iconst 0, 1) := by decide +kernel
theorem dL_law_160 : decode code 160 = .ok (.ireturn, 1) := by decide +kernel
theorem dL_law_161 : decode code 161 = .ok (.aload_n 1, 1) := by decide +kernel
theorem dL_law_162 : decode code 162 = .ok (.aload_n 0, 1) := by decide +kernel
theorem dL_law_163 : decode code 163 = .ok (.iload_n 3, 1) := by decide +kernel
theorem dL_law_164 : decode code 164 = .ok (.iconst 1, 1) := by decide +kernel
theorem dL_law_165 : decode code 165 = .ok (.iadd, 1) := by decide +kernel
theorem dL_law_166 : decode code 166 = .ok (.iaload, 1) := by decide +kernel
theorem dL_law_167 : decode code 167 = .ok (.aload_n 0, 1) := by decide +kernel
theorem dL_law_168 : decode code 168 = .ok (.iload_n 3, 1) := by decide +kernel
theorem dL_law_169 : decode code 169 = .ok (.iconst 2, 1) := by decide +kernel
theorem dL_law_170 : decode code 170 = .ok (.iadd, 1) := by decide +kernel
theorem dL_law_171 : decode code 171 = .ok (.iaload, 1) := by decide +kernel
theorem dL_law_172 : decode code 172 = .ok (.aload_n 0, 1) := by decide +kernel
theorem dL_law_173 : decode code 173 = .ok (.iload_n 3, 1) := by decide +kernel
theorem dL_law_174 : decode code 174 = .ok (.iconst 3, 1) := by decide +kernel
theorem dL_law_175 : decode code 175 = .ok (.iadd, 1) := by decide +kernel
theorem dL_law_176 : decode code 176 = .ok (.iaload, 1) := by decide +kernel
theorem dL_law_177 : decode code 177 = .ok (.invokevirtual 28, 3) := by decide +kernel
theorem dL_law_180 : decode code 180 = .ok (.aload_n 2, 1) := by decide +kernel
theorem dL_law_181 : decode code 181 = .ok (.aload_n 0, 1) := by decide +kernel
theorem dL_law_182 : decode code 182 = .ok (.iload_n 3, 1) := by decide +kernel
theorem dL_law_183 : decode code 183 = .ok (.iconst 1, 1) := by decide +kernel
theorem dL_law_184 : decode code 184 = .ok (.iadd, 1) := by decide +kernel
theorem dL_law_185 : decode code 185 = .ok (.iaload, 1) := by decide +kernel
theorem dL_law_186 : decode code 186 = .ok (.aload_n 0, 1) := by decide +kernel
theorem dL_law_187 : decode code 187 = .ok (.iload_n 3, 1) := by decide +kernel
theorem dL_law_188 : decode code 188 = .ok (.iconst 2, 1) := by decide +kernel
theorem dL_law_189 : decode code 189 = .ok (.iadd, 1) := by decide +kernel
theorem dL_law_190 : decode code 190 = .ok (.iaload, 1) := by decide +kernel
theorem dL_law_191 : decode code 191 = .ok (.aload_n 0, 1) := by decide +kernel
theorem dL_law_192 : decode code 192 = .ok (.iload_n 3, 1) := by decide +kernel
theorem dL_law_193 : decode code 193 = .ok (.iconst 3, 1) := by decide +kernel
theorem dL_law_194 : decode code 194 = .ok (.iadd, 1) := by decide +kernel
theorem dL_law_195 : decode code 195 = .ok (.iaload, 1) := by decide +kernel
theorem dL_law_196 : decode code 196 = .ok (.invokevirtual 32, 3) := by decide +kernel
theorem dL_law_199 : decode code 199 = .ok (.if_icmp .eq 177, 3) := by decide +kernel
theorem dL_law_202 : decode code 202 = .ok (.iconst 0, 1) := by decide +kernel
theorem dL_law_203 : decode code 203 = .ok (.ireturn, 1) := by decide +kernel
theorem dL_law_204 : decode code 204 = .ok (.aload_n 1, 1) := by decide +kernel
theorem dL_law_205 : decode code 205 = .ok (.invokevirtual 33, 3) := by decide +kernel
theorem dL_law_208 : decode code 208 = .ok (.aload_n 2, 1) := by decide +kernel
theorem dL_law_209 : decode code 209 = .ok (.invokevirtual 36, 3) := by decide +kernel
theorem dL_law_212 : decode code 212 = .ok (.if_icmp .eq 164, 3) := by decide +kernel
theorem dL_law_215 : decode code 215 = .ok (.iconst 0, 1) := by decide +kernel
theorem dL_law_216 : decode code 216 = .ok (.ireturn, 1) := by decide +kernel
theorem dL_law_217 : decode code 217 = .ok (.aload_n 1, 1) := by decide +kernel
theorem dL_law_218 : decode code 218 = .ok (.aload_n 0, 1) := by decide +kernel
theorem dL_law_219 : decode code 219 = .ok (.iload_n 3, 1) := by decide +kernel
theorem dL_law_220 : decode code 220 = .ok (.iconst 1, 1) := by decide +kernel
theorem dL_law_221 : decode code 221 = .ok (.iadd, 1) := by decide +kernel
theorem dL_law_222 : decode code 222 = .ok (.iaload, 1) := by decide +kernel
theorem dL_law_223 : decode code 223 = .ok (.invokevirtual 37, 3) := by decide +kernel
theorem dL_law_226 : decode code 226 = .ok (.aload_n 2, 1) := by decide +kernel
theorem dL_law_227 : decode code 227 = .ok (.aload_n 0, 1) := by decide +kernel
theorem dL_law_228 : decode code 228 = .ok (.iload_n 3, 1) := by decide +kernel
theorem dL_law_229 : decode code 229 = .ok (.iconst 1, 1) := by decide +kernel
theorem dL_law_230 : decode code 230 = .ok (.iadd, 1) := by decide +kernel
theorem dL_law_231 : decode code 231 = .ok (.iaload, 1) := by decide +kernel
theorem dL_law_232 : decode code 232 = .ok (.invokevirtual 40, 3) := by decide +kernel
theorem dL_law_235 : decode code 235 = .ok (.if_icmp .eq 141, 3) := by decide +kernel
theorem dL_law_238 : decode code 238 = .ok (.iconst 0, 1) := by decide +kernel
theorem dL_law_239 : decode code 239 = .ok (.ireturn, 1) := by decide +kernel
theorem dL_law_240 : decode code 240 = .ok (.aload_n 1, 1) := by decide +kernel
theorem dL_law_241 : decode code 241 = .ok (.aload_n 0, 1) := by decide +kernel
theorem dL_law_242 : decode code 242 = .ok (.iload_n 3, 1) := by decide +kernel
theorem dL_law_243 : decode code 243 = .ok (.iconst 1, 1) := by decide +kernel
theorem dL_law_244 : decode code 244 = .ok (.iadd, 1) := by decide +kernel
theorem dL_law_245 : decode code 245 = .ok (.iaload, 1) := by decide +kernel
theorem dL_law_246 : decode code 246 = .ok (.invokevirtual 41, 3) := by decide +kernel
theorem dL_law_249 : decode code 249 = .ok (.aload_n 2, 1) := by decide +kernel
theorem dL_law_250 : decode code 250 = .ok (.aload_n 0, 1) := by decide +kernel
theorem dL_law_251 : decode code 251 = .ok (.iload_n 3, 1) := by decide +kernel
theorem dL_law_252 : decode code 252 = .ok (.iconst 1, 1) := by decide +kernel
theorem dL_law_253 : decode code 253 = .ok (.iadd, 1) := by decide +kernel
theorem dL_law_254 : decode code 254 = .ok (.iaload, 1) := by decide +kernel
theorem dL_law_255 : decode code 255 = .ok (.invokevirtual 44, 3) := by decide +kernel
theorem dL_law_258 : decode code 258 = .ok (.if_icmp .eq 118, 3) := by decide +kernel
theorem dL_law_261 : decode code 261 = .ok (.iconst 0, 1) := by decide +kernel
theorem dL_law_262 : decode code 262 = .ok (.ireturn, 1) := by decide +kernel
theorem dL_law_263 : decode code 263 = .ok (.aload_n 1, 1) := by decide +kernel
theorem dL_law_264 : decode code 264 = .ok (.aload_n 0, 1) := by decide +kernel
theorem dL_law_265 : decode code 265 = .ok (.iload_n 3, 1) := by decide +kernel
theorem dL_law_266 : decode code 266 = .ok (.iconst 1, 1) := by decide +kernel
theorem dL_law_267 : decode code 267 = .ok (.iadd, 1) := by decide +kernel
theorem dL_law_268 : decode code 268 = .ok (.iaload, 1) := by decide +kernel
theorem dL_law_269 : decode code 269 = .ok (.invokevirtual 45, 3) := by decide +kernel
theorem dL_law_272 : decode code 272 = .ok (.aload_n 2, 1) := by decide +kernel
theorem dL_law_273 : decode code 273 = .ok (.aload_n 0, 1) := by decide +kernel
theorem dL_law_274 : decode code 274 = .ok (.iload_n 3, 1) := by decide +kernel
theorem dL_law_275 : decode code 275 = .ok (.iconst 1, 1) := by decide +kernel
theorem dL_law_276 : decode code 276 = .ok (.iadd, 1) := by decide +kernel
theorem dL_law_277 : decode code 277 = .ok (.iaload, 1) := by decide +kernel
theorem dL_law_278 : decode code 278 = .ok (.invokevirtual 49, 3) := by decide +kernel
theorem dL_law_281 : decode code 281 = .ok (.lcmp, 1) := by decide +kernel
theorem dL_law_282 : decode code 282 = .ok (.ifCond .eq 94, 3) := by decide +kernel
theorem dL_law_285 : decode code 285 = .ok (.iconst 0, 1) := by decide +kernel
theorem dL_law_286 : decode code 286 = .ok (.ireturn, 1) := by decide +kernel
theorem dL_law_287 : decode code 287 = .ok (.aload_n 1, 1) := by decide +kernel
theorem dL_law_288 : decode code 288 = .ok (.aload_n 0, 1) := by decide +kernel
theorem dL_law_289 : decode code 289 = .ok (.iload_n 3, 1) := by decide +kernel
theorem dL_law_290 : decode code 290 = .ok (.iconst 1, 1) := by decide +kernel
theorem dL_law_291 : decode code 291 = .ok (.iadd, 1) := by decide +kernel
theorem dL_law_292 : decode code 292 = .ok (.iaload, 1) := by decide +kernel
theorem dL_law_293 : decode code 293 = .ok (.aload_n 0, 1) := by decide +kernel
theorem dL_law_294 : decode code 294 = .ok (.iload_n 3, 1) := by decide +kernel
theorem dL_law_295 : decode code 295 = .ok (.iconst 2, 1) := by decide +kernel
theorem dL_law_296 : decode code 296 = .ok (.iadd, 1) := by decide +kernel
theorem dL_law_297 : decode code 297 = .ok (.iaload, 1) := by decide +kernel
theorem dL_law_298 : decode code 298 = .ok (.invokevirtual 50, 3) := by decide +kernel
theorem dL_law_301 : decode code 301 = .ok (.aload_n 2, 1) := by decide +kernel
theorem dL_law_302 : decode code 302 = .ok (.aload_n 0, 1) := by decide +kernel
theorem dL_law_303 : decode code 303 = .ok (.iload_n 3, 1) := by decide +kernel
theorem dL_law_304 : decode code 304 = .ok (.iconst 1, 1) := by decide +kernel
theorem dL_law_305 : decode code 305 = .ok (.iadd, 1) := by decide +kernel
theorem dL_law_306 : decode code 306 = .ok (.iaload, 1) := by decide +kernel
theorem dL_law_307 : decode code 307 = .ok (.aload_n 0, 1) := by decide +kernel
theorem dL_law_308 : decode code 308 = .ok (.iload_n 3, 1) := by decide +kernel
theorem dL_law_309 : decode code 309 = .ok (.iconst 2, 1) := by decide +kernel
theorem dL_law_310 : decode code 310 = .ok (.iadd, 1) := by decide +kernel
theorem dL_law_311 : decode code 311 = .ok (.iaload, 1) := by decide +kernel
theorem dL_law_312 : decode code 312 = .ok (.invokevirtual 53, 3) := by decide +kernel
theorem dL_law_315 : decode code 315 = .ok (.if_icmp .eq 61, 3) := by decide +kernel
theorem dL_law_318 : decode code 318 = .ok (.iconst 0, 1) := by decide +kernel
theorem dL_law_319 : decode code 319 = .ok (.ireturn, 1) := by decide +kernel
theorem dL_law_320 : decode code 320 = .ok (.aload_n 1, 1) := by decide +kernel
theorem dL_law_321 : decode code 321 = .ok (.aload_n 0, 1) := by decide +kernel
theorem dL_law_322 : decode code 322 = .ok (.iload_n 3, 1) := by decide +kernel
theorem dL_law_323 : decode code 323 = .ok (.iconst 1, 1) := by decide +kernel
theorem dL_law_324 : decode code 324 = .ok (.iadd, 1) := by decide +kernel
theorem dL_law_325 : decode code 325 = .ok (.iaload, 1) := by decide +kernel
theorem dL_law_326 : decode code 326 = .ok (.aload_n 0, 1) := by decide +kernel
theorem dL_law_327 : decode code 327 = .ok (.iload_n 3, 1) := by decide +kernel
theorem dL_law_328 : decode code 328 = .ok (.iconst 2, 1) := by decide +kernel
theorem dL_law_329 : decode code 329 = .ok (.iadd, 1) := by decide +kernel
theorem dL_law_330 : decode code 330 = .ok (.iaload, 1) := by decide +kernel
theorem dL_law_331 : decode code 331 = .ok (.invokevirtual 54, 3) := by decide +kernel
theorem dL_law_334 : decode code 334 = .ok (.aload_n 2, 1) := by decide +kernel
theorem dL_law_335 : decode code 335 = .ok (.aload_n 0, 1) := by decide +kernel
theorem dL_law_336 : decode code 336 = .ok (.iload_n 3, 1) := by decide +kernel
theorem dL_law_337 : decode code 337 = .ok (.iconst 1, 1) := by decide +kernel
theorem dL_law_338 : decode code 338 = .ok (.iadd, 1) := by decide +kernel
theorem dL_law_339 : decode code 339 = .ok (.iaload, 1) := by decide +kernel
theorem dL_law_340 : decode code 340 = .ok (.aload_n 0, 1) := by decide +kernel
theorem dL_law_341 : decode code 341 = .ok (.iload_n 3, 1) := by decide +kernel
theorem dL_law_342 : decode code 342 = .ok (.iconst 2, 1) := by decide +kernel
theorem dL_law_343 : decode code 343 = .ok (.iadd, 1) := by decide +kernel
theorem dL_law_344 : decode code 344 = .ok (.iaload, 1) := by decide +kernel
theorem dL_law_345 : decode code 345 = .ok (.invokevirtual 57, 3) := by decide +kernel
theorem dL_law_348 : decode code 348 = .ok (.if_icmp .eq 28, 3) := by decide +kernel
theorem dL_law_351 : decode code 351 = .ok (.iconst 0, 1) := by decide +kernel
theorem dL_law_352 : decode code 352 = .ok (.ireturn, 1) := by decide +kernel
theorem dL_law_353 : decode code 353 = .ok (.aload_n 1, 1) := by decide +kernel
theorem dL_law_354 : decode code 354 = .ok (.aload_n 0, 1) := by decide +kernel
theorem dL_law_355 : decode code 355 = .ok (.iload_n 3, 1) := by decide +kernel
theorem dL_law_356 : decode code 356 = .ok (.iconst 1, 1) := by decide +kernel
theorem dL_law_357 : decode code 357 = .ok (.iadd, 1) := by decide +kernel
theorem dL_law_358 : decode code 358 = .ok (.iaload, 1) := by decide +kernel
theorem dL_law_359 : decode code 359 = .ok (.invokevirtual 58, 3) := by decide +kernel
theorem dL_law_362 : decode code 362 = .ok (.aload_n 2, 1) := by decide +kernel
theorem dL_law_363 : decode code 363 = .ok (.aload_n 0, 1) := by decide +kernel
theorem dL_law_364 : decode code 364 = .ok (.iload_n 3, 1) := by decide +kernel
theorem dL_law_365 : decode code 365 = .ok (.iconst 1, 1) := by decide +kernel
theorem dL_law_366 : decode code 366 = .ok (.iadd, 1) := by decide +kernel
theorem dL_law_367 : decode code 367 = .ok (.iaload, 1) := by decide +kernel
theorem dL_law_368 : decode code 368 = .ok (.invokevirtual 61, 3) := by decide +kernel
theorem dL_law_371 : decode code 371 = .ok (.if_icmp .eq 5, 3) := by decide +kernel
theorem dL_law_374 : decode code 374 = .ok (.iconst 0, 1) := by decide +kernel
theorem dL_law_375 : decode code 375 = .ok (.ireturn, 1) := by decide +kernel
theorem dL_law_376 : decode code 376 = .ok (.iinc 3 4, 3) := by decide +kernel
theorem dL_law_379 : decode code 379 = .ok (.goto (-361), 3) := by decide +kernel
theorem dL_law_382 : decode code 382 = .ok (.iconst 1, 1) := by decide +kernel
theorem dL_law_383 : decode code 383 = .ok (.ireturn, 1) := by decide +kernel
end
section
theorem dX2_addSign_11 : decode cX2_addSign 11 = .ok (.iconst 0, 1) := by decide +kernel
theorem dX2_addSign_12 : decode cX2_addSign 12 = .ok (.iload_n 2, 1) := by decide +kernel
theorem dX2_addSign_13 : decode cX2_addSign 13 = .ok (.bipush 30, 2) := by decide +kernel
theorem dX2_addSign_15 : decode cX2_addSign 15 = .ok (.iadd, 1) := by decide +kernel
theorem dX2_addSign_16 : decode cX2_addSign 16 = .ok (.iastore, 1) := by decide +kernel
theorem dX2_addSign_17 : decode cX2_addSign 17 = .ok (.iconst 0, 1) := by decide +kernel
theorem dX2_addSign_18 : decode cX2_addSign 18 = .ok (.istore_n 3, 1) := by decide +kernel
theorem dX2_addSign_19 : decode cX2_addSign 19 = .ok (.iload_n 3, 1) := by decide +kernel
theorem dX2_addSign_20 : decode cX2_addSign 20 = .ok (.aload_n 0, 1) := by decide +kernel
theorem dX2_addSign_21 : decode cX2_addSign 21 = .ok (.getfield 24, 3) := by decide +kernel
theorem dX2_addSign_24 : decode cX2_addSign 24 = .ok (.if_icmp .ge 72, 3) := by decide +kernel
theorem dX2_addSign_27 : decode cX2_addSign 27 = .ok (.iload_n 2, 1) := by decide +kernel
theorem dX2_addSign_28 : decode cX2_addSign 28 = .ok (.aload_n 0, 1) := by decide +kernel
theorem dX2_addSign_29 : decode cX2_addSign 29 = .ok (.iload_n 3, 1) := by decide +kernel
theorem dX2_addSign_30 : decode cX2_addSign 30 = .ok (.iload_n 1, 1) := by decide +kernel
theorem dX2_addSign_31 : decode cX2_addSign 31 = .ok (.invokevirtual 52, 3) := by decide +kernel
theorem dX2_addSign_34 : decode cX2_addSign 34 = .ok (.iadd, 1) := by decide +kernel
theorem dX2_addSign_35 : decode cX2_addSign 35 = .ok (.istore 4, 2) := by decide +kernel
theorem dX2_addSign_37 : decode cX2_addSign 37 = .ok (.aload_n 0, 1) := by decide +kernel
theorem dX2_addSign_38 : decode cX2_addSign 38 = .ok (.getfield 21, 3) := by decide +kernel
theorem dX2_addSign_41 : decode cX2_addSign 41 = .ok (.iload_n 3, 1) := by decide +kernel
theorem dX2_addSign_42 : decode cX2_addSign 42 = .ok (.iconst 1, 1) := by decide +kernel
theorem dX2_addSign_43 : decode cX2_addSign 43 = .ok (.iadd, 1) := by decide +kernel
theorem dX2_addSign_44 : decode cX2_addSign 44 = .ok (.iaload, 1) := by decide +kernel
theorem dX2_addSign_45 : decode cX2_addSign 45 = .ok (.bipush 30, 2) := by decide +kernel
theorem dX2_addSign_47 : decode cX2_addSign 47 = .ok (.iadd, 1) := by decide +kernel
theorem dX2_addSign_48 : decode cX2_addSign 48 = .ok (.istore 5, 2) := by decide +kernel
theorem dX2_addSign_50 : decode cX2_addSign 50 = .ok (.aload_n 0, 1) := by decide +kernel
theorem dX2_addSign_51 : decode cX2_addSign 51 = .ok (.getfield 21, 3) := by decide +kernel
theorem dX2_addSign_54 : decode cX2_addSign 54 = .ok (.iload_n 3, 1) := by decide +kernel
theorem dX2_addSign_55 : decode cX2_addSign 55 = .ok (.iaload, 1) := by decide +kernel
theorem dX2_addSign_56 : decode cX2_addSign 56 = .ok (.bipush 25, 2) := by decide +kernel
theorem dX2_addSign_58 : decode cX2_addSign 58 = .ok (.iadd, 1) := by decide +kernel
theorem dX2_addSign_59 : decode cX2_addSign 59 = .ok (.istore 6, 2) := by decide +kernel
theorem dX2_addSign_61 : decode cX2_addSign 61 = .ok (.aload_n 0, 1) := by decide +kernel
theorem dX2_addSign_62 : decode cX2_addSign 62 = .ok (.getfield 21, 3) := by decide +kernel
theorem dX2_addSign_65 : decode cX2_addSign 65 = .ok (.iload_n 3, 1) := by decide +kernel
theorem dX2_addSign_66 : decode cX2_addSign 66 = .ok (.iconst 1, 1) := by decide +kernel
theorem dX2_addSign_67 : decode cX2_addSign 67 = .ok (.iadd, 1) := by decide +kernel
theorem dX2_addSign_68 : decode cX2_addSign 68 = .ok (.iaload, 1) := by decide +kernel
theorem dX2_addSign_69 : decode cX2_addSign 69 = .ok (.istore_n 2, 1) := by decide +kernel
theorem dX2_addSign_70 : decode cX2_addSign 70 = .ok (.aload_n 0, 1) := by decide +kernel
theorem dX2_addSign_71 : decode cX2_addSign 71 = .ok (.getfield 21, 3) := by decide +kernel
theorem dX2_addSign_74 : decode cX2_addSign 74 = .ok (.iload_n 3, 1) := by decide +kernel
theorem dX2_addSign_75 : decode cX2_addSign 75 = .ok (.iconst 1, 1) := by decide +kernel
theorem dX2_addSign_76 : decode cX2_addSign 76 = .ok (.iadd, 1) := by decide +kernel
theorem dX2_addSign_77 : decode cX2_addSign 77 = .ok (.iload 4, 2) := by decide +kernel
theorem dX2_addSign_79 : decode cX2_addSign 79 = .ok (.iload 5, 2) := by decide +kernel
theorem dX2_addSign_81 : decode cX2_addSign 81 = .ok (.iload 6, 2) := by decide +kernel
theorem dX2_addSign_83 : decode cX2_addSign 83 = .ok (.invokestatic 55, 3) := by decide +kernel
theorem dX2_addSign_86 : decode cX2_addSign 86 = .ok (.invokestatic 55, 3) := by decide +kernel
theorem dX2_addSign_89 : decode cX2_addSign 89 = .ok (.iastore, 1) := by decide +kernel
theorem dX2_addSign_90 : decode cX2_addSign 90 = .ok (.iinc 3 1, 3) := by decide +kernel
theorem dX2_addSign_93 : decode cX2_addSign 93 = .ok (.goto (-74), 3) := by decide +kernel
theorem dX2_addSign_96 : decode cX2_addSign 96 = .ok (.return_, 1) := by decide +kernel
theorem dX2_costAs_0 : decode cX2_costAs 0 = .ok (.aload_n 0, 1) := by decide +kernel
theorem dX2_costAs_1 : decode cX2_costAs 1 = .ok (.iload_n 1, 1) := by decide +kernel
theorem dX2_costAs_2 : decode cX2_costAs 2 = .ok (.iload_n 2, 1) := by decide +kernel
theorem dX2_costAs_3 : decode cX2_costAs 3 = .ok (.invokevirtual 45, 3) := by decide +kernel
theorem dX2_costAs_6 : decode cX2_costAs 6 = .ok (.istore_n 3, 1) := by decide +kernel
theorem dX2_costAs_7 : decode cX2_costAs 7 = .ok (.iload_n 3, 1) := by decide +kernel
theorem dX2_costAs_8 : decode cX2_costAs 8 = .ok (.iconst (-1), 1) := by decide +kernel
theorem dX2_costAs_9 : decode cX2_costAs 9 = .ok (.if_icmp .ne 8, 3) := by decide +kernel
theorem dX2_costAs_12 : decode cX2_costAs 12 = .ok (.bipush 60, 2) := by decide +kernel
theorem dX2_costAs_14 : decode cX2_costAs 14 = .ok (.goto 4, 3) := by decide +kernel
theorem dX2_costAs_17 : decode cX2_costAs 17 = .ok (.iload_n 3, 1) := by decide +kernel
theorem dX2_costAs_18 : decode cX2_costAs 18 = .ok (.ireturn, 1) := by decide +kernel
theorem dX2_told_0 : decode cX2_told 0 = .ok (.iload_n 1, 1) := by decide +kernel
theorem dX2_told_1 : decode cX2_told 1 = .ok (.iload_n 2, 1) := by decide +kernel
theorem dX2_told_2 : decode cX2_told 2 = .ok (.invokestatic 28, 3) := by decide +kernel
theorem dX2_told_5 : decode cX2_told 5 = .ok (.istore_n 3, 1) := by decide +kernel
theorem dX2_told_6 : decode cX2_told 6 = .ok (.iload_n 3, 1) := by decide +kernel
theorem dX2_told_7 : decode cX2_told 7 = .ok (.ifCond .ge 7, 3) := by decide +kernel
theorem dX2_told_10 : decode cX2_told 10 = .ok (.iconst (-1), 1) := by decide +kernel
theorem dX2_told_11 : decode cX2_told 11 = .ok (.goto 9, 3) := by decide +kernel
theorem dX2_told_14 : decode cX2_told 14 = .ok (.aload_n 0, 1) := by decide +kernel
theorem dX2_told_15 : decode cX2_told 15 = .ok (.getfield 11, 3) := by decide +kernel
theorem dX2_told_18 : decode cX2_told 18 = .ok (.iload_n 3, 1) := by decide +kernel
theorem dX2_told_19 : decode cX2_told 19 = .ok (.iaload, 1) := by decide +kernel
theorem dX2_told_20 : decode cX2_told 20 = .ok (.ireturn, 1) := by decide +kernel
theorem dX2_indexOf_0 : decode cX2_indexOf 0 = .ok (.iload_n 0, 1) := by decide +kernel
theorem dX2_indexOf_1 : decode cX2_indexOf 1 = .ok (.ifCond .lt 16, 3) := by decide +kernel
theorem dX2_indexOf_4 : decode cX2_indexOf 4 = .ok (.iload_n 0, 1) := by decide +kernel
theorem dX2_indexOf_5 : decode cX2_indexOf 5 = .ok (.bipush 20, 2) := by decide +kernel
theorem dX2_indexOf_7 : decode cX2_indexOf 7 = .ok (.if_icmp .ge 10, 3) := by decide +kernel
theorem dX2_indexOf_10 : decode cX2_indexOf 10 = .ok (.iload_n 1, 1) := by decide +kernel
theorem dX2_indexOf_11 : decode cX2_indexOf 11 = .ok (.invokestatic 58, 3) := by decide +kernel
theorem dX2_indexOf_14 : decode cX2_indexOf 14 = .ok (.ifCond .ne 5, 3) := by decide +kernel
theorem dX2_indexOf_17 : decode cX2_indexOf 17 = .ok (.iconst (-1), 1) := by decide +kernel
theorem dX2_indexOf_18 : decode cX2_indexOf 18 = .ok (.ireturn, 1) := by decide +kernel
theorem dX2_indexOf_19 : decode cX2_indexOf 19 = .ok (.iload_n 0, 1) := by decide +kernel
theorem dX2_indexOf_20 : decode cX2_indexOf 20 = .ok (.bipush 94, 2) := by decide +kernel
theorem dX2_indexOf_22 : decode cX2_indexOf 22 = .ok (.imul, 1) := by decide +kernel
theorem dX2_indexOf_23 : decode cX2_indexOf 23 = .ok (.iload_n 1, 1) := by decide +kernel
theorem dX2_indexOf_24 : decode cX2_indexOf 24 = .ok (.iadd, 1) := by decide +kernel
theorem dX2_indexOf_25 : decode cX2_indexOf 25 = .ok (.bipush 33, 2) := by decide +kernel
theorem dX2_indexOf_27 : decode cX2_indexOf 27 = .ok (.isub, 1) := by decide +kernel
theorem dX2_indexOf_28 : decode cX2_indexOf 28 = .ok (.ireturn, 1) := by decide +kernel
theorem dJ7_fill_0 : decode cJ7_fill 0 = .ok (.iconst 0, 1) := by decide +kernel
theorem dJ7_fill_1 : decode cJ7_fill 1 = .ok (.istore_n 2, 1) := by decide +kernel
theorem dJ7_fill_2 : decode cJ7_fill 2 = .ok (.aload_n 0, 1) := by decide +kernel
theorem dJ7_fill_3 : decode cJ7_fill 3 = .ok (.arraylength, 1) := by decide +kernel
theorem dJ7_fill_4 : decode cJ7_fill 4 = .ok (.istore_n 3, 1) := by decide +kernel
theorem dJ7_fill_5 : decode cJ7_fill 5 = .ok (.iload_n 2, 1) := by decide +kernel
theorem dJ7_fill_6 : decode cJ7_fill 6 = .ok (.iload_n 3, 1) := by decide +kernel
theorem dJ7_fill_7 : decode cJ7_fill 7 = .ok (.if_icmp .ge 13, 3) := by decide +kernel
theorem dJ7_fill_10 : decode cJ7_fill 10 = .ok (.aload_n 0, 1) := by decide +kernel
theorem dJ7_fill_11 : decode cJ7_fill 11 = .ok (.iload_n 2, 1) := by decide +kernel
theorem dJ7_fill_12 : decode cJ7_fill 12 = .ok (.iload_n 1, 1) := by decide +kernel
theorem dJ7_fill_13 : decode cJ7_fill 13 = .ok (.iastore, 1) := by decide +kernel
theorem dJ7_fill_14 : decode cJ7_fill 14 = .ok (.iinc 2 1, 3) := by decide +kernel
theorem dJ7_fill_17 : decode cJ7_fill 17 = .ok (.goto (-12), 3) := by decide +kernel
theorem dJ7_fill_20 : decode cJ7_fill 20 = .ok (.return_, 1) := by decide +kernel
end
section
/-! THE MEMORY BY INDEX: what lies at index k is 'ct k', its address 'ad k'; all addresses are apart and from lo on. A method's contract speaks of the whole memory: no cut, no join. -/
section MW
variable {D : va_G} {cl : List vw_C} {lo : Nat} {ad : Nat → Nat} {ct : Nat → Option va_E} {H H1 : Heap} {tys : List (ClassId × FieldType)}
def mw (D : va_G) (cl : List vw_C) (lo : Nat) (ad : Nat → Nat) (ct : Nat → Option va_E) (H : Heap) : Prop :=
  (∀ (k : Nat) (e : va_E), ct k = some e → va_at D cl (ad k, e) H ∧ lo ≤ ad k) ∧ ∀ (j k : Nat) (e f : va_E), ct j = some e → ct k = some f → ad j = ad k → j = k
theorem mw.P (h : mw D cl lo ad ct H) {k : Nat} {e : va_E} (hk : ct k = some e) : va_P D cl [(ad k, e)] H := by
  intro i q hq
  match i, hq with
  | 0, hq => cases hq; exact (h.1 k e hk).1
  | i + 1, hq => simp at hq
theorem mw.lt (h : mw D cl lo ad ct H) {k : Nat} {e : va_E} (hk : ct k = some e) : ad k < H.size := va_at.lt (h.1 k e hk).1
theorem mw.set (h : mw D cl lo ad ct H) {k : Nat} {e0 e : va_E} (hk : ct k = some e0) (he : va_at D cl (ad k, e) H1) (ho : ∀ q : Nat, q ≠ ad k → H1[q]? = H[q]?) : mw D cl lo ad (va_up ct k (some e)) H1 := by
  have key : ∀ (j : Nat) (f : va_E), va_up ct k (some e) j = some f → ∃ f0, ct j = some f0 := by
    intro j f hj
    by_cases hjk : j = k
    · exact ⟨e0, by rw [hjk]; exact hk⟩
    · rw [va_up_ne _ _ hjk] at hj
      exact ⟨f, hj⟩
  refine ⟨fun j f hj => ?_, fun i j f g hi hj hij => ?_⟩
  · by_cases hjk : j = k
    · subst hjk
      rw [va_up_self] at hj
      cases hj
      exact ⟨he, (h.1 j e0 hk).2⟩
    · rw [va_up_ne _ _ hjk] at hj
      have h1 := h.1 j f hj
      exact ⟨va_at.kept h1.1 (ho _ (fun e1 => hjk (h.2 j k f e0 hj hk e1))), h1.2⟩
  · obtain ⟨f0, h0⟩ := key i f hi
    obtain ⟨g0, h1⟩ := key j g hj
    exact h.2 i j f0 g0 h0 h1 hij
theorem mw.push (h : mw D cl lo ad ct H) {k : Nat} {e : va_E} (hk : ct k = none) (hlo : lo ≤ H.size) (he : va_at D cl (H.size, e) H1) (ho : ∀ q : Nat, q < H.size → H1[q]? = H[q]?) : mw D cl lo (va_up ad k H.size) (va_up ct k (some e)) H1 := by
  refine ⟨fun j f hj => ?_, fun i j f g hi hj hij => ?_⟩
  · by_cases hjk : j = k
    · subst hjk
      rw [va_up_self] at hj ⊢
      cases hj
      exact ⟨he, hlo⟩
    · rw [va_up_ne _ _ hjk] at hj ⊢
      have h1 := h.1 j f hj
      exact ⟨va_at.kept h1.1 (ho _ (va_at.lt h1.1)), h1.2⟩
  · by_cases hik : i = k
    · by_cases hjk : j = k
      · rw [hik, hjk]
      · rw [va_up_ne _ _ hjk] at hj hij
        rw [hik, va_up_self] at hij
        exact absurd (h.lt hj) (by omega)
    · by_cases hjk : j = k
      · rw [va_up_ne _ _ hik] at hi hij
        rw [hjk, va_up_self] at hij
        exact absurd (h.lt hi) (by omega)
      · rw [va_up_ne _ _ hik] at hi hij
        rw [va_up_ne _ _ hjk] at hj hij
        exact h.2 i j f g hi hj hij
theorem mw.eq {ct' : Nat → Option va_E} (h : mw D cl lo ad ct H) (e : ∀ k, ct k = ct' k) : mw D cl lo ad ct' H := by
  rw [← funext e]; exact h
end MW
/-- what is fixed of a kind of object: its number in the list, its fields' types, their names apart -/
def m_cls (cl : List vw_C) (ci : Nat) (C : String) (T : u_T) (N : Nat) (ty : Nat → FieldType) : Prop :=
  cl[ci]? = some (C, T, N) ∧ (∀ k, k < N → parseFieldDescriptor (T k).2.2.1 = some (ty k)) ∧ ∀ a, a < N → ∀ b, b < N → a ≠ b → (T a).2.1 ≠ (T b).2.1
/-- what the tables say beside the words: kinds, rows; a call between nest mates; rows of references -/
def mK (D : va_G) (cl : List vw_C) (tys : List (ClassId × FieldType)) (U : State) : Prop := va_K D cl tys U ∧ va_Nw (.methodLinkNest RX2 58 yX3_isSign "WordTrees") U ∧ va_AO RX0 U
theorem mK.warm {D : va_G} {cl : List vw_C} {tys : List (ClassId × FieldType)} {s U : State} (hW : s.WarmedH U.vm) (h : mK D cl tys s) : mK D cl tys U := ⟨va_K.moved hW.alike h.1, va_Nw.warmM hW h.2.1, va_AO.moved hW.alike h.2.2⟩
theorem mK.same {D : va_G} {cl : List vw_C} {tys : List (ClassId × FieldType)} {s U : State} (hv : s.vm = U.vm) (h : mK D cl tys s) : mK D cl tys U := ⟨va_K.moved (by rw [hv]; exact Vm.Alike.refl U.vm) h.1, va_Nw.same rfl hv h.2.1, va_AO.moved (by rw [hv]; exact Vm.Alike.refl U.vm) h.2.2⟩
/-- a contract's start and ends over the memory -/
def mPc (D : va_G) (cl : List vw_C) (tys : List (ClassId × FieldType)) (lo : Nat) (ad : Nat → Nat) (ct : Nat → Option va_E) (av : List Value) : Array Value → State → Prop :=
  va_Pc av (fun U => lo ≤ U.heap.size ∧ mw D cl lo ad ct U.heap ∧ mK D cl tys U)
def mQ1 (D : va_G) (cl : List vw_C) (lo : Nat) (post : Value → (Nat → Nat) → (Nat → Option va_E) → Prop) : Array Value → State → Outcome → State → Prop := fun _ st oc t =>
  (∃ (v : Value) (ad : Nat → Nat) (ct : Nat → Option va_E), oc = .returned (some v) ∧ post v ad ct ∧ mw D cl lo ad ct t.heap) ∧ va_F (fun q => lo ≤ q) st t
def mQ0 (D : va_G) (cl : List vw_C) (lo : Nat) (post : (Nat → Nat) → (Nat → Option va_E) → Prop) : Array Value → State → Outcome → State → Prop := fun _ st oc t =>
  (∃ (ad : Nat → Nat) (ct : Nat → Option va_E), oc = .returned none ∧ post ad ct ∧ mw D cl lo ad ct t.heap) ∧ va_F (fun q => lo ≤ q) st t
abbrev mD1 (D : va_G) (cl : List vw_C) (lo : Nat) (v : Value) (ad : Nat → Nat) (ct : Nat → Option va_E) := mQ1 D cl lo (fun v' ad' ct' => v' = v ∧ ad' = ad ∧ ct' = ct)
abbrev mD0 (D : va_G) (cl : List vw_C) (lo : Nat) (ad : Nat → Nat) (ct : Nat → Option va_E) := mQ0 D cl lo (fun ad' ct' => ad' = ad ∧ ct' = ct)
theorem mPc.blind {D : va_G} {cl : List vw_C} {tys : List (ClassId × FieldType)} {lo : Nat} {ad : Nat → Nat} {ct : Nat → Option va_E} {av : List Value} : FrameBlind (mPc D cl tys lo ad ct av) := fun a U g mk q => by
  obtain ⟨q0, q1, q2, q3⟩ := q
  exact ⟨q0, q1, q2, mK.same (s := U) (U := U.calling g mk a) rfl q3⟩
section MR
variable {p : Program} {l : Launch} {e : Env} {R : Room} {s : State} {m : MethodId} {args : Array Value} {below : List Frame} {meth : Method} {c : Code} {H : Heap} {locs : List Loc} {cells slots : Nat} {Q : State → Prop}
variable {cc : ByteArray} {pc nL : Nat} {ls : Array Slot} {rest : List Value} {D : va_G} {cl : List vw_C} {tys : List (ClassId × FieldType)} {H0 : Heap} {lo : Nat} {ad : Nat → Nat} {ct : Nat → Option va_E} {Ts : List Cond} {own : String}
theorem mPreV {As : List Value} (hK : mK D cl tys s) (hM : mw D cl lo ad ct H) (hlo : lo ≤ H.size) {k ci : Nat} {fs : List Value} {C : String} {T : u_T} {N : Nat} (he : ct k = some (.inr (ci, fs))) (hc : cl[ci]? = some (C, T, N)) : PreV s H C (ad k) (mPc D cl tys lo ad ct (.ref (ad k) :: As)) As :=
  ⟨mPc.blind, va_recv hK.1 (hM.P he) (q := (C, T, N)) (q0 := 0) (ci := ci) (fs := fs) hc rfl, fun U hU hW => ⟨rfl, by rw [hU]; exact hlo, by rw [hU]; exact hM, mK.warm hW hK⟩⟩
theorem mPreS {As : List Value} (hK : mK D cl tys s) (hM : mw D cl lo ad ct H) (hlo : lo ≤ H.size) : PreS s H (mPc D cl tys lo ad ct As) As :=
  ⟨mPc.blind, fun U hU hW => ⟨rfl, by rw [hU]; exact hlo, by rw [hU]; exact hM, mK.warm hW hK⟩⟩
/-- behind a call -/
theorem m_ret1 {st0 : List Value} {a : Array Value} {mc ms : Nat} {post : Value → (Nat → Nat) → (Nat → Option va_E) → Prop} (hr : va_Run p l e R s m args below meth c H locs cells slots mc ms (F0 m pc ls st0) rest (mQ1 D cl lo post a) (fun q => lo ≤ q)) (hS : va_S (fun q => lo ≤ q) H0 H locs)
    (kk : ∀ (v : Value) (ad1 : Nat → Nat) (ct1 : Nat → Option va_E) (H1 : Heap) (locs1 : List Loc), post v ad1 ct1 → mw D cl lo ad1 ct1 H1 → va_S (fun q => lo ≤ q) H0 H1 locs1 → W p l e R s m args below meth c H1 locs1 (cells + mc) (slots + ms) Q (F0 m (pc + 3) ls (v :: rest))) : W p l e R s m args below meth c H locs cells slots Q (F0 m pc ls st0) := by
  intro T hT X
  obtain ⟨v, st₀, t, T', L, h0, X', hL, e1, e2, ⟨⟨r, ad1, ct1, hv, hp, hb⟩, hz, hk⟩, st⟩ := hr T hT X
  cases hv
  rw [h0] at hz hk
  obtain ⟨t2, a1, b1⟩ := kk r ad1 ct1 T'.heap (locs ++ L) hp (by rw [e1]; exact hb)
    ⟨Nat.le_trans hS.1 (by rw [e1]; exact hz), fun q h1 h2 => by rw [e1, hk q (Nat.lt_of_lt_of_le h1 hS.1) h2]; exact hS.2.1 q h1 h2, fun q hq => by
      rcases List.mem_append.mp hq with h | h
      · exact hS.2.2 q h
      · exact hL q h⟩ T' rfl X'
  exact ⟨t2, st t2 a1, b1⟩
theorem m_ret0 {st0 : List Value} {a : Array Value} {mc ms : Nat} {post : (Nat → Nat) → (Nat → Option va_E) → Prop} (hr : va_Run p l e R s m args below meth c H locs cells slots mc ms (F0 m pc ls st0) rest (mQ0 D cl lo post a) (fun q => lo ≤ q)) (hS : va_S (fun q => lo ≤ q) H0 H locs)
    (kk : ∀ (ad1 : Nat → Nat) (ct1 : Nat → Option va_E) (H1 : Heap) (locs1 : List Loc), post ad1 ct1 → mw D cl lo ad1 ct1 H1 → va_S (fun q => lo ≤ q) H0 H1 locs1 → W p l e R s m args below meth c H1 locs1 (cells + mc) (slots + ms) Q (F0 m (pc + 3) ls rest)) : W p l e R s m args below meth c H locs cells slots Q (F0 m pc ls st0) := by
  intro T hT X
  obtain ⟨v, st₀, t, T', L, h0, X', hL, e1, e2, ⟨⟨ad1, ct1, hv, hp, hb⟩, hz, hk⟩, st⟩ := hr T hT X
  cases hv
  rw [h0] at hz hk
  obtain ⟨t2, a1, b1⟩ := kk ad1 ct1 T'.heap (locs ++ L) hp (by rw [e1]; exact hb)
    ⟨Nat.le_trans hS.1 (by rw [e1]; exact hz), fun q h1 h2 => by rw [e1, hk q (Nat.lt_of_lt_of_le h1 hS.1) h2]; exact hS.2.1 q h1 h2, fun q hq => by
      rcases List.mem_append.mp hq with h | h
      · exact hS.2.2 q h
      · exact hL q h⟩ T' rfl X'
  exact ⟨t2, st t2 a1, b1⟩
/-- behind a call that makes nothing and answers v -/
theorem m_d1 {st0 : List Value} {a : Array Value} {v : Value} {ct1 : Nat → Option va_E} (hr : va_Run p l e R s m args below meth c H locs cells slots 0 0 (F0 m pc ls st0) rest (mD1 D cl lo v ad ct1 a) (fun q => lo ≤ q)) (hS : va_S (fun q => lo ≤ q) H0 H locs)
    (kk : ∀ (H1 : Heap) (locs1 : List Loc), mw D cl lo ad ct1 H1 → va_S (fun q => lo ≤ q) H0 H1 locs1 → W p l e R s m args below meth c H1 locs1 cells slots Q (F0 m (pc + 3) ls (v :: rest))) : W p l e R s m args below meth c H locs cells slots Q (F0 m pc ls st0) :=
  m_ret1 hr hS (fun v' ad' ct' H1 locs1 hp hM hS1 => by obtain ⟨rfl, rfl, rfl⟩ := hp; exact kk H1 locs1 hM hS1)
theorem m_d0 {st0 : List Value} {a : Array Value} {ct1 : Nat → Option va_E} (hr : va_Run p l e R s m args below meth c H locs cells slots 0 0 (F0 m pc ls st0) rest (mD0 D cl lo ad ct1 a) (fun q => lo ≤ q)) (hS : va_S (fun q => lo ≤ q) H0 H locs)
    (kk : ∀ (H1 : Heap) (locs1 : List Loc), mw D cl lo ad ct1 H1 → va_S (fun q => lo ≤ q) H0 H1 locs1 → W p l e R s m args below meth c H1 locs1 cells slots Q (F0 m (pc + 3) ls rest)) : W p l e R s m args below meth c H locs cells slots Q (F0 m pc ls st0) :=
  m_ret0 hr hS (fun ad' ct' H1 locs1 hp hM hS1 => by obtain ⟨rfl, rfl⟩ := hp; exact kk H1 locs1 hM hS1)
theorem m_top {x y : Int32} (h : x = y) (kk : W p l e R s m args below meth c H locs cells slots Q (F0 m pc ls (.int y :: rest))) : W p l e R s m args below meth c H locs cells slots Q (F0 m pc ls (.int x :: rest)) := by rw [h]; exact kk
/-- fields -/
theorem m_get (F : CallFix p m c cc nL s args Ts own) {C : String} {T : u_T} {N ci index : Nat} (hin : ∀ w ∈ u_ws C T N, w ∈ Ts) (hK : va_K D cl tys s) (hM : mw D cl lo ad ct H) {k : Nat} {fs : List Value} (he : ct k = some (.inr (ci, fs))) (hc : cl[ci]? = some (C, T, N)) (i : Nat) (hi : i < N) (hlink : Cond.fieldLink own index (T i).1 (T i).2.1 (T i).2.2.1 ∈ Ts) {v : Value} (hv : fs[i]? = some v) (hdg : decode cc pc = .ok (.getfield index, 3))
    (kk : W p l e R s m args below meth c H locs cells slots Q (F0 m (pc + 3) ls (v :: rest))) : W p l e R s m args below meth c H locs cells slots Q (F0 m pc ls (.ref (ad k) :: rest)) :=
  va_get F.1 F.2.1 F.2.2.2.2 hin F.2.2.2.1 hK (hM.P he) 0 rfl hc i hi (F.2.2.2.2 _ hlink) (fun _ h => h) hv hdg kk
theorem m_put (F : CallFix p m c cc nL s args Ts own) {C : String} {T : u_T} {N ci index : Nat} {ty0 : Nat → FieldType} (hin : ∀ w ∈ u_ws C T N, w ∈ Ts) (hC : m_cls cl ci C T N ty0) (hK : va_K D cl tys s) (hM : mw D cl lo ad ct H) (hS0 : va_S (fun q => lo ≤ q) H0 H locs) {k : Nat} {fs : List Value} (he : ct k = some (.inr (ci, fs))) (i : Nat) (hk : i < N) (hlink0 : Cond.fieldLink own index (T i).1 (T i).2.1 (T i).2.2.1 ∈ Ts) (hfin : (T i).2.2.2 = false) {v : Value} (hn : narrow (ty0 i) v = v) (hfit : fits (ty0 i) v = true) (hl : i < fs.length)
    (hdg : decode cc pc = .ok (.putfield index, 3)) (kk : ∀ (H1 : Heap) (locs1 : List Loc), mw D cl lo ad (va_up ct k (some (.inr (ci, fs.set i v)))) H1 → va_S (fun q => lo ≤ q) H0 H1 locs1 → W p l e R s m args below meth c H1 locs1 cells slots Q (F0 m (pc + 3) ls rest)) : W p l e R s m args below meth c H locs cells slots Q (F0 m pc ls (v :: .ref (ad k) :: rest)) := by
  obtain ⟨hexec, hb, -, hown, hts⟩ := F
  obtain ⟨hc, hty, hnm⟩ := hC
  have hlink := hts _ hlink0
  have hap := va_apart (own := own) hts hin ty0 hty hnm hK hc
  have hM0 := hM.1 k _ he
  obtain ⟨⟨r, h1, cell, q1, q2, q3, q4⟩, hlo⟩ := hM0
  have hr : r = (C, T, N) := Option.some.inj (h1.symm.trans hc)
  subst hr
  obtain ⟨hS, hfc, kC, hkC, hkind⟩ := hK.1 ci _ hc
  obtain ⟨cf, kf, fi, f, hi, hsl⟩ := hS i hk
  have hlay := hts _ (hin _ (u_in_lay hk))
  unfold u_lay at hlay
  rw [if_neg (by rw [hfin]; decide)] at hlay
  have hst := (u_facts hfc hkC (u_lays hts hin hk) hi).1
  have h6 := u_store hfc hkC hkind hlay hi (hty i hk) hn hfit
  refine W.putK hexec hb (f := f) ⟨hown, hlink, ⟨_, _, _, hi⟩, hst⟩ (by rw [q2]; exact h6) q1 q3 (by rw [hsl]; exact k2_hasslot (q4 i hk)) rfl rfl hdg fun H' e1 e2 e3 => ?_
  rw [hsl] at e1 ⊢
  exact kk H' _ (hM.set he ⟨_, hc, t_OB.to (V := updV (vp_V fs) i v) ⟨_, e1, q2, q3, t_set q4 hap hk v⟩ (fun j _ => vp_updV_set hl v j)⟩ e3) (hS0.put e2 e3 hlo)
theorem m_putF (F : CallFix p m c cc nL s args Ts own) {C : String} {T : u_T} {N ci index : Nat} {ty0 : Nat → FieldType} (hin : ∀ w ∈ u_ws C T N, w ∈ Ts) (hC : m_cls cl ci C T N ty0) (hK : va_K D cl tys s) (hM : mw D cl lo ad ct H) (hS0 : va_S (fun q => lo ≤ q) H0 H locs) {k : Nat} {fs : List Value} (he : ct k = some (.inr (ci, fs))) (i : Nat) (hk : i < N) (hlink0 : Cond.fieldLink own index (T i).1 (T i).2.1 (T i).2.2.1 ∈ Ts) (hfin : (T i).2.2.2 = true) (hin2 : meth.name = "<init>") (hdecl : (T i).1 = own) {v : Value} (hn : narrow (ty0 i) v = v) (hfit : fits (ty0 i) v = true) (hl : i < fs.length)
    (hdg : decode cc pc = .ok (.putfield index, 3)) (kk : ∀ (H1 : Heap) (locs1 : List Loc), mw D cl lo ad (va_up ct k (some (.inr (ci, fs.set i v)))) H1 → va_S (fun q => lo ≤ q) H0 H1 locs1 → W p l e R s m args below meth c H1 locs1 cells slots Q (F0 m (pc + 3) ls rest)) : W p l e R s m args below meth c H locs cells slots Q (F0 m pc ls (v :: .ref (ad k) :: rest)) := by
  obtain ⟨hexec, hb, -, hown, hts⟩ := F
  obtain ⟨hc, hty, hnm⟩ := hC
  have hlink := hts _ hlink0
  have hap := va_apart (own := own) hts hin ty0 hty hnm hK hc
  have hM0 := hM.1 k _ he
  obtain ⟨⟨r, h1, cell, q1, q2, q3, q4⟩, hlo⟩ := hM0
  have hr : r = (C, T, N) := Option.some.inj (h1.symm.trans hc)
  subst hr
  obtain ⟨hS, hfc, kC, hkC, hkind⟩ := hK.1 ci _ hc
  obtain ⟨cf, kf, fi, f, hi, hsl⟩ := hS i hk
  have hlay := hts _ (hin _ (u_in_lay hk))
  unfold u_lay at hlay
  rw [if_pos hfin] at hlay
  have hst := (u_facts hfc hkC (u_lays hts hin hk) hi).1
  have hcf : m.cls = cf := by
    obtain ⟨_, _, c', _, _, _, -, -, hf', -, -, -, hown2, -⟩ := Cond.laysFinal_spec hlay
    have e1 : c' = cf := by have := hi.symm.trans hf'; simp at this; exact this.1.symm
    rw [hdecl] at hown2
    rw [← e1]; exact Option.some.inj (hown.symm.trans hown2)
  have h6 := u_fits hfc hkC hkind (Or.inr hlay) hi (hty i hk) hn hfit
  refine W.putFinK hexec hb hown hlink hi hst hcf hin2 (by rw [q2]; exact h6) q1 q3 (by rw [hsl]; exact k2_hasslot (q4 i hk)) rfl rfl hdg fun H' e1 e2 e3 => ?_
  rw [hsl] at e1 ⊢
  exact kk H' _ (hM.set he ⟨_, hc, t_OB.to (V := updV (vp_V fs) i v) ⟨_, e1, q2, q3, t_set q4 hap hk v⟩ (fun j _ => vp_updV_set hl v j)⟩ e3) (hS0.put e2 e3 hlo)
/-- arrays of ints, an index that is a number j in range -/
theorem m_iald (F : CallFix p m c cc nL s args Ts own) (hK : va_K D cl tys s) (hM : mw D cl lo ad ct H) (t0 : Nat) {cA : ClassId} (ht : tys[t0]? = some (cA, .int)) {k n j : Nat} {f : Nat → Int32} (he : ct k = some (.inl (cA, n, .inl f))) (hj : j < n) (hn : n < 2 ^ 31) (hdg : decode cc pc = .ok (.iaload, 1))
    (kk : W p l e R s m args below meth c H locs cells slots Q (F0 m (pc + 1) ls (.int (f j) :: rest))) : W p l e R s m args below meth c H locs cells slots Q (F0 m pc ls (.int (nI j) :: .ref (ad k) :: rest)) :=
  va_iald F.1 F.2.1 hK (hM.P he) 0 t0 rfl ht (vp_in_nI hj hn) hdg (by rw [nI_clamp (Nat.lt_trans hj hn)]; exact kk)
theorem m_iast (F : CallFix p m c cc nL s args Ts own) (hK : va_K D cl tys s) (hM : mw D cl lo ad ct H) (hS : va_S (fun q => lo ≤ q) H0 H locs) (t0 : Nat) {cA : ClassId} (ht : tys[t0]? = some (cA, .int)) {k n j : Nat} {f : Nat → Int32} {x : Int32} (he : ct k = some (.inl (cA, n, .inl f))) (hj : j < n) (hn : n < 2 ^ 31) (hdg : decode cc pc = .ok (.iastore, 1))
    (kk : ∀ (H1 : Heap) (locs1 : List Loc), mw D cl lo ad (va_up ct k (some (.inl (cA, n, .inl (upd f j x))))) H1 → va_S (fun q => lo ≤ q) H0 H1 locs1 → W p l e R s m args below meth c H1 locs1 cells slots Q (F0 m (pc + 1) ls rest)) : W p l e R s m args below meth c H locs cells slots Q (F0 m pc ls (.int x :: .int (nI j) :: .ref (ad k) :: rest)) := by
  have hcl : (nI j).toNatClampNeg = j := nI_clamp (Nat.lt_trans hj hn)
  have hin : vp_in (nI j) n := vp_in_nI hj hn
  refine W.iast F.1 F.2.1 (hM.1 k _ he).1 ((hK.2 t0 _ ht).1 n (fun j => .int (f j))) (fun q => by cases q) (by show ¬ (nI j < 0 ∨ (arrV _ _ _).slots.size ≤ _); rw [arrV_size]; exact hin) rfl rfl hdg fun H1 e z oq => ?_
  refine kk H1 _ (hM.set he ?_ oq) (hS.put z oq (hM.1 k _ he).2)
  show H1[ad k]? = some (vp_cell _ _)
  rw [e]
  rw [vp_cell_i, vp_cell_i, arrV_store]
  congr 2
  funext q
  rw [hcl]
  by_cases hq : q = j
  · subst hq
    simp [updV, upd]
  · simp [updV, upd, hq]
theorem m_alen (F : CallFix p m c cc nL s args Ts own) (hK : va_K D cl tys s) (hM : mw D cl lo ad ct H) (t0 : Nat) {cA : ClassId} {ty : FieldType} (ht : tys[t0]? = some (cA, ty)) {k n : Nat} {x : (Nat → Int32) ⊕ (Nat → Int64) ⊕ (Nat → UInt32) ⊕ (Nat → UInt64) ⊕ (Nat → Option Nat)} (he : ct k = some (.inl (cA, n, x))) (hdg : decode cc pc = .ok (.arraylength, 1))
    (kk : W p l e R s m args below meth c H locs cells slots Q (F0 m (pc + 1) ls (.int (nI n) :: rest))) : W p l e R s m args below meth c H locs cells slots Q (F0 m pc ls (.ref (ad k) :: rest)) :=
  va_alen F.1 F.2.1 hK (hM.P he) 0 t0 rfl ht rfl hdg kk
/-- arrays of references -/
theorem m_aald (F : CallFix p m c cc nL s args Ts own) (hK : va_K D cl tys s) (hM : mw D cl lo ad ct H) (t0 : Nat) {cA : ClassId} {C : String} (ht : tys[t0]? = some (cA, .object C)) {k n j : Nat} {f : Nat → Option Nat} (he : ct k = some (.inl (cA, n, .inr (.inr (.inr (.inr f)))))) (hj : j < n) (hn : n < 2 ^ 31) (hdg : decode cc pc = .ok (.aaload, 1))
    (kk : W p l e R s m args below meth c H locs cells slots Q (F0 m (pc + 1) ls (va_rf (f j) :: rest))) : W p l e R s m args below meth c H locs cells slots Q (F0 m pc ls (.int (nI j) :: .ref (ad k) :: rest)) :=
  va_aldq F.1 F.2.1 hK (hM.P he) 0 t0 rfl ht (vp_in_nI hj hn) hdg (by rw [nI_clamp (Nat.lt_trans hj hn)]; exact kk)
theorem m_aast (F : CallFix p m c cc nL s args Ts own) (hK : va_K D cl tys s) (hM : mw D cl lo ad ct H) (hS : va_S (fun q => lo ≤ q) H0 H locs) (t0 : Nat) {cA : ClassId} {ci : Nat} {r : vw_C} (ht : tys[t0]? = some (cA, .object r.1)) (hc : cl[ci]? = some r) {k kv n j : Nat} {f : Nat → Option Nat} {vs : List Value} (he : ct k = some (.inl (cA, n, .inr (.inr (.inr (.inr f)))))) (hv : ct kv = some (.inr (ci, vs))) (hj : j < n) (hn : n < 2 ^ 31) (hdg : decode cc pc = .ok (.aastore, 1))
    (kk : ∀ (H1 : Heap) (locs1 : List Loc), mw D cl lo ad (va_up ct k (some (.inl (cA, n, .inr (.inr (.inr (.inr (va_up f j (some (ad kv)))))))))) H1 → va_S (fun q => lo ≤ q) H0 H1 locs1 → W p l e R s m args below meth c H1 locs1 cells slots Q (F0 m (pc + 1) ls rest)) : W p l e R s m args below meth c H locs cells slots Q (F0 m pc ls (.ref (ad kv) :: .int (nI j) :: .ref (ad k) :: rest)) := by
  have hcl' : (nI j).toNatClampNeg = j := nI_clamp (Nat.lt_trans hj hn)
  have h0 : ¬ nI j < 0 := nI_pos (Nat.lt_trans hj hn)
  obtain ⟨r', hr', cellV, g1, g2, g3, -⟩ := (hM.1 kv _ hv).1
  have hcls := (hK.1 ci r hc).2
  obtain ⟨kA, comp, k1, k2, k3, -⟩ := (hK.2 t0 _ ht).2
  have hcomp : comp = D.1 ci := Option.some.inj (k3.symm.trans hcls.1)
  subst hcomp
  obtain ⟨kC, hkC, -⟩ := hcls.2
  refine W.aast F.1 F.2.1 (hM.1 k _ he).1 (fun q h => by cases h) (fun h => by cases h) k1 k2 rfl hkC ⟨h0, by show _ < (arrV _ _ _).slots.size; rw [arrV_size, hcl']; exact hj⟩ g1 (fun q h => by rw [g3] at h; cases h) (by rw [g2]; exact hkC) (by rw [g2]; exact va_assign hcls) rfl rfl hdg fun H1 e z oq => ?_
  refine kk H1 _ (hM.set he ?_ oq) (hS.put z oq (hM.1 k _ he).2)
  show H1[ad k]? = some (vp_cell _ _)
  rw [e]
  rw [vp_cell_q, vp_cell_q, arrV_store]
  congr 2
  funext q
  rw [hcl']
  by_cases hq : q = j
  · subst hq
    simp [updV, va_up, va_rf]
  · simp [updV, va_up, hq]
/-- new cells come at an index k that is free -/
theorem m_new (F : CallFix p m c cc nL s args Ts own) {C : String} {T : u_T} {N ci index : Nat} {ty0 : Nat → FieldType} (hin : ∀ w ∈ u_ws C T N, w ∈ Ts) (hC : m_cls cl ci C T N ty0) (hcl : Cond.classLink own index C ∈ Ts) (hinst : Cond.instantiable C N ∈ Ts) (hini : Cond.initialized C ∈ Ts) (hK : va_K D cl tys s) (hM : mw D cl lo ad ct H) (hS : va_S (fun q => lo ≤ q) H0 H locs) (hlo : lo ≤ H0.size) (k : Nat) (hk : ct k = none) {fs : List Value} (hfs : ∀ j, j < N → defaultValue (ty0 j) = vp_V fs j) (hcells : cells + 1 ≤ R.cells) (hslots : slots + N ≤ R.slots) (hdg : decode cc pc = .ok (.new index, 3))
    (kk : ∀ (q : Nat) (H1 : Heap), mw D cl lo (va_up ad k q) (va_up ct k (some (.inr (ci, fs)))) H1 → va_S (fun q => lo ≤ q) H0 H1 locs → W p l e R s m args below meth c H1 locs (cells + 1) (slots + N) Q (F0 m (pc + 3) ls (.ref q :: rest))) : W p l e R s m args below meth c H locs cells slots Q (F0 m pc ls rest) := by
  obtain ⟨hexec, hb, -, hown, hts⟩ := F
  obtain ⟨hc, hty, hnm⟩ := hC
  have hKn := hK.1 ci _ hc
  refine W.newcK hexec hb hown (hts _ hcl) (hts _ hinst) (hts _ hini) rfl hdg hcells hslots hKn.2.1 rfl fun H1 kC hkC e1 z1 o1 => ?_
  exact kk H.size H1 (hM.push hk (Nat.le_trans hlo hS.1) ⟨_, hc, (u_born ty0 hts hin hKn hkC e1 hty).to hfs⟩ o1) ⟨Nat.le_trans hS.1 (by omega), fun x h1 h2 => (o1 x (Nat.lt_of_lt_of_le h1 hS.1)).trans (hS.2.1 x h1 h2), hS.2.2⟩
theorem m_newi (F : CallFix p m c cc nL s args Ts own) (harr : Cond.arrayClass .int ∈ Ts) (hK : va_K D cl tys s) (hM : mw D cl lo ad ct H) (hS : va_S (fun q => lo ≤ q) H0 H locs) (hlo : lo ≤ H0.size) (t0 : Nat) {cA : ClassId} (ht : tys[t0]? = some (cA, .int)) (k : Nat) (hk : ct k = none) {n : Nat} (hn : n ≤ 100000) (hcells : cells + 1 ≤ R.cells) (hslots : slots + n ≤ R.slots) (hdg : decode cc pc = .ok (.newarray .int, 2))
    (kk : ∀ (q : Nat) (H1 : Heap), mw D cl lo (va_up ad k q) (va_up ct k (some (.inl (cA, n, .inl (fun _ => 0))))) H1 → va_S (fun q => lo ≤ q) H0 H1 locs → W p l e R s m args below meth c H1 locs (cells + 1) (slots + n) Q (F0 m (pc + 2) ls (.ref q :: rest))) : W p l e R s m args below meth c H locs cells slots Q (F0 m pc ls (.int (nI n) :: rest)) := by
  refine va_newaK (atype := .int) F.1 F.2.1 (F.2.2.2.2 _ harr) rfl hdg rfl (nI_pos (by omega)) (nI_clamp (by omega)) (by show n * 4 ≤ 536870912; omega) hcells hslots rfl fun H1 cB e1 z1 o1 hAr hNm => ?_
  have hR : s.vm.findClass ("[" ++ FieldType.int.toString) = some cA := (hK.2 t0 _ ht).2
  have hcc : cB = cA := Option.some.inj (hNm.symm.trans hR)
  subst hcc
  refine kk H.size H1 (hM.push hk (Nat.le_trans hlo hS.1) ?_ o1) ⟨Nat.le_trans hS.1 (by omega), fun x h1 h2 => (o1 x (Nat.lt_of_lt_of_le h1 hS.1)).trans (hS.2.1 x h1 h2), hS.2.2⟩
  show H1[H.size]? = some (vp_cell _ _)
  rw [e1]
  rfl
/-- branches over numbers -/
theorem m_icmp_lt (F : CallFix p m c cc nL s args Ts own) {a b : Nat} (ha : a < 2 ^ 31) (hb : b < 2 ^ 31) {off : Int} {tgt : Nat} (hdg : decode cc pc = .ok (.if_icmp .lt off, 3)) (ht : (pc : Int) + off = (tgt : Int)) (kt : a < b → W p l e R s m args below meth c H locs cells slots Q (F0 m tgt ls rest)) (kf : b ≤ a → W p l e R s m args below meth c H locs cells slots Q (F0 m (pc + 3) ls rest)) : W p l e R s m args below meth c H locs cells slots Q (F0 m pc ls (.int (nI b) :: .int (nI a) :: rest)) :=
  lv_icmp_lt F.1 F.2.1 hdg ht (fun h => kt ((nI_ltI ha hb).mp h)) (fun h => kf (Nat.not_lt.mp fun q => h ((nI_ltI ha hb).mpr q)))
theorem m_icmp_ge (F : CallFix p m c cc nL s args Ts own) {a b : Nat} (ha : a < 2 ^ 31) (hb : b < 2 ^ 31) {off : Int} {tgt : Nat} (hdg : decode cc pc = .ok (.if_icmp .ge off, 3)) (ht : (pc : Int) + off = (tgt : Int)) (kt : b ≤ a → W p l e R s m args below meth c H locs cells slots Q (F0 m tgt ls rest)) (kf : a < b → W p l e R s m args below meth c H locs cells slots Q (F0 m (pc + 3) ls rest)) : W p l e R s m args below meth c H locs cells slots Q (F0 m pc ls (.int (nI b) :: .int (nI a) :: rest)) :=
  lv_icmp_ge F.1 F.2.1 hdg ht (fun h => kt ((nI_leI hb ha).mp h)) (fun h => kf (Nat.not_le.mp fun q => h ((nI_leI hb ha).mpr q)))
theorem m_icmp_gt (F : CallFix p m c cc nL s args Ts own) {a b : Nat} (ha : a < 2 ^ 31) (hb : b < 2 ^ 31) {off : Int} {tgt : Nat} (hdg : decode cc pc = .ok (.if_icmp .gt off, 3)) (ht : (pc : Int) + off = (tgt : Int)) (kt : b < a → W p l e R s m args below meth c H locs cells slots Q (F0 m tgt ls rest)) (kf : a ≤ b → W p l e R s m args below meth c H locs cells slots Q (F0 m (pc + 3) ls rest)) : W p l e R s m args below meth c H locs cells slots Q (F0 m pc ls (.int (nI b) :: .int (nI a) :: rest)) :=
  lv_icmp_gt F.1 F.2.1 hdg ht (fun h => kt ((nI_ltI hb ha).mp h)) (fun h => kf (Nat.not_lt.mp fun q => h ((nI_ltI hb ha).mpr q)))
theorem m_icmp_le (F : CallFix p m c cc nL s args Ts own) {a b : Nat} (ha : a < 2 ^ 31) (hb : b < 2 ^ 31) {off : Int} {tgt : Nat} (hdg : decode cc pc = .ok (.if_icmp .le off, 3)) (ht : (pc : Int) + off = (tgt : Int)) (kt : a ≤ b → W p l e R s m args below meth c H locs cells slots Q (F0 m tgt ls rest)) (kf : b < a → W p l e R s m args below meth c H locs cells slots Q (F0 m (pc + 3) ls rest)) : W p l e R s m args below meth c H locs cells slots Q (F0 m pc ls (.int (nI b) :: .int (nI a) :: rest)) :=
  lv_icmp_le F.1 F.2.1 hdg ht (fun h => kt ((nI_leI ha hb).mp h)) (fun h => kf (Nat.not_le.mp fun q => h ((nI_leI ha hb).mpr q)))
theorem m_icmp_eq (F : CallFix p m c cc nL s args Ts own) {a b : Nat} (ha : a < 2 ^ 31) (hb : b < 2 ^ 31) {off : Int} {tgt : Nat} (hdg : decode cc pc = .ok (.if_icmp .eq off, 3)) (ht : (pc : Int) + off = (tgt : Int)) (kt : a = b → W p l e R s m args below meth c H locs cells slots Q (F0 m tgt ls rest)) (kf : a ≠ b → W p l e R s m args below meth c H locs cells slots Q (F0 m (pc + 3) ls rest)) : W p l e R s m args below meth c H locs cells slots Q (F0 m pc ls (.int (nI b) :: .int (nI a) :: rest)) :=
  lv_icmp_eq F.1 F.2.1 hdg ht (fun h => kt ((nI_eq ha hb).mp h)) (fun h => kf (fun q => h ((nI_eq ha hb).mpr q)))
theorem m_icmp_ne (F : CallFix p m c cc nL s args Ts own) {a b : Nat} (ha : a < 2 ^ 31) (hb : b < 2 ^ 31) {off : Int} {tgt : Nat} (hdg : decode cc pc = .ok (.if_icmp .ne off, 3)) (ht : (pc : Int) + off = (tgt : Int)) (kt : a ≠ b → W p l e R s m args below meth c H locs cells slots Q (F0 m tgt ls rest)) (kf : a = b → W p l e R s m args below meth c H locs cells slots Q (F0 m (pc + 3) ls rest)) : W p l e R s m args below meth c H locs cells slots Q (F0 m pc ls (.int (nI b) :: .int (nI a) :: rest)) :=
  lv_icmp_ne F.1 F.2.1 hdg ht (fun h => kt (fun q => h ((nI_eq ha hb).mpr q))) (fun h => kf ((nI_eq ha hb).mp (by first | exact h | exact Decidable.not_not.mp h)))
end MR
section MR2
variable {p : Program} {l : Launch} {e : Env} {R : Room} {s : State} {m : MethodId} {args : Array Value} {below : List Frame} {meth : Method} {c : Code} {H : Heap} {locs : List Loc} {cells slots : Nat} {Q : State → Prop}
variable {cc : ByteArray} {pc nL : Nat} {ls : Array Slot} {rest : List Value} {D : va_G} {cl : List vw_C} {tys : List (ClassId × FieldType)} {H0 : Heap} {lo : Nat} {ad : Nat → Nat} {ct : Nat → Option va_E} {Ts : List Cond} {own : String}
theorem m_val {v v' : Value} (h : v = v') (kk : W p l e R s m args below meth c H locs cells slots Q (F0 m pc ls (v' :: rest))) : W p l e R s m args below meth c H locs cells slots Q (F0 m pc ls (v :: rest)) := by rw [h]; exact kk
theorem m_tv {a b : Nat} (h : a = b) (kk : W p l e R s m args below meth c H locs cells slots Q (F0 m pc ls (.ref b :: rest))) : W p l e R s m args below meth c H locs cells slots Q (F0 m pc ls (.ref a :: rest)) := by rw [h]; exact kk
theorem m_sv {a b : Nat} {v : Value} (h : a = b) (kk : W p l e R s m args below meth c H locs cells slots Q (F0 m pc ls (v :: .ref b :: rest))) : W p l e R s m args below meth c H locs cells slots Q (F0 m pc ls (v :: .ref a :: rest)) := by rw [h]; exact kk
theorem m_uv {a b : Nat} {v w : Value} (h : a = b) (kk : W p l e R s m args below meth c H locs cells slots Q (F0 m pc ls (v :: w :: .ref b :: rest))) : W p l e R s m args below meth c H locs cells slots Q (F0 m pc ls (v :: w :: .ref a :: rest)) := by rw [h]; exact kk
/-- an array of references, all null -/
theorem m_newq (F : CallFix p m c cc nL s args Ts own) {C : String} {index : Nat} (hcl : Cond.classLink own index C ∈ Ts) (hov : va_AO C s) (hK : va_K D cl tys s) (hM : mw D cl lo ad ct H) (hS : va_S (fun q => lo ≤ q) H0 H locs) (hlo : lo ≤ H0.size) (t0 : Nat) {cA : ClassId} (ht : tys[t0]? = some (cA, .object C)) (k : Nat) (hk : ct k = none) {n : Nat} (hn : n ≤ 100000) (hcells : cells + 1 ≤ R.cells) (hslots : slots + n ≤ R.slots) (hdg : decode cc pc = .ok (.anewarray index, 3))
    (kk : ∀ (q : Nat) (H1 : Heap), mw D cl lo (va_up ad k q) (va_up ct k (some (.inl (cA, n, .inr (.inr (.inr (.inr (fun _ => none)))))))) H1 → va_S (fun q => lo ≤ q) H0 H1 locs → W p l e R s m args below meth c H1 locs (cells + 1) (slots + n) Q (F0 m (pc + 3) ls (.ref q :: rest))) : W p l e R s m args below meth c H locs cells slots Q (F0 m pc ls (.int (nI n) :: rest)) := by
  have hcn : (nI n).toNatClampNeg = n := nI_clamp (by omega)
  refine W.anew F.1 F.2.1 F.2.2.2.1 (F.2.2.2.2 _ hcl) (va_AO.use hov) rfl hdg rfl (nI_pos (by omega)) (by rw [hcn]; omega) hcells (by rw [hcn]; exact hslots) fun cB kA comp f1 f2 f3 f4 => ?_
  obtain ⟨kA', comp', -, -, -, hR⟩ := (hK.2 t0 _ ht).2
  have hcc : cB = cA := Option.some.inj (f1.symm.trans hR)
  subst hcc
  rw [hcn]
  generalize hH1 : H.push ({ cls := cB, slots := Array.replicate n .null, vm := .none } : Cell) = H1
  have e1 : H1[H.size]? = some (arrV cB n (fun _ => .null)) := by rw [← hH1, Array.getElem?_push_size, ← arrV_new]
  have z1 : H1.size = H.size + 1 := by rw [← hH1, Array.size_push]
  have o1 : ∀ q : Nat, q < H.size → H1[q]? = H[q]? := fun q hq => by rw [← hH1, Array.getElem?_push, if_neg (Nat.ne_of_lt hq)]
  refine kk H.size H1 (hM.push hk (Nat.le_trans hlo hS.1) ?_ o1) ⟨Nat.le_trans hS.1 (by omega), fun x h1 h2 => (o1 x (Nat.lt_of_lt_of_le h1 hS.1)).trans (hS.2.1 x h1 h2), hS.2.2⟩
  show H1[H.size]? = some (vp_cell _ _)
  rw [vp_cell_q]
  exact e1
theorem m_acmp_ne (F : CallFix p m c cc nL s args Ts own) {rx : Option Nat} {a : Nat} {off : Int} {tgt : Nat} (hdg : decode cc pc = .ok (.if_acmp .ne off, 3)) (ht : (pc : Int) + off = (tgt : Int))
    (kt : ¬ rx = some a → W p l e R s m args below meth c H locs cells slots Q (F0 m tgt ls rest)) (kf : rx = some a → W p l e R s m args below meth c H locs cells slots Q (F0 m (pc + 3) ls rest)) : W p l e R s m args below meth c H locs cells slots Q (F0 m pc ls (.ref a :: va_rf rx :: rest)) :=
  lv_acmp_ne (rx := rx) (ry := some a) F.1 F.2.1 hdg ht kt kf
theorem m_acmp_eq2 (F : CallFix p m c cc nL s args Ts own) {a b : Nat} {off : Int} {tgt : Nat} (hdg : decode cc pc = .ok (.if_acmp .eq off, 3)) (ht : (pc : Int) + off = (tgt : Int))
    (kt : a = b → W p l e R s m args below meth c H locs cells slots Q (F0 m tgt ls rest)) (kf : ¬ a = b → W p l e R s m args below meth c H locs cells slots Q (F0 m (pc + 3) ls rest)) : W p l e R s m args below meth c H locs cells slots Q (F0 m pc ls (.ref b :: .ref a :: rest)) :=
  lv_acmp_eq (rx := some a) (ry := some b) F.1 F.2.1 hdg ht (fun h => kt (Option.some.inj h)) (fun h => kf (fun q => h (by rw [q])))
end MR2
theorem mc_X0 : m_cls vwCl 0 RX0 TX0 6 tyX0 := ⟨rfl, okX0, nmX0⟩
theorem mc_X1 : m_cls vwCl 1 RX1 TX1 3 tyX1 := ⟨rfl, okX1, nmX1⟩
theorem mc_X2 : m_cls vwCl 2 RX2 TX2 3 tyX2 := ⟨rfl, okX2, nmX2⟩
theorem mc_X3 : m_cls vwCl 3 RX3 TX3 5 tyX3 := ⟨rfl, okX3, nmX3⟩
theorem mc_X4 : m_cls vwCl 4 RX4 TX4 14 tyX4 := ⟨rfl, okX4, nmX4⟩
abbrev tyA (aC : Nat → ClassId) : List (ClassId × FieldType) := [(aC 0, .int), (aC 1, .object "WordTrees$Entry"), (aC 2, .boolean)]
end
section
/-! THE SYSTEM'S STATE in words of its own: numbers, lists and functions; and where each lies in the memory. Index 0: the object, 1: its row of entries, 2: what is read, 3: its costs, 4: its least costs, 5: what was found, 6 and 7: numbers and sums of it; entry i at 2*i+8, its signs at 2*i+9; from 1000 on: the others' cells. -/
def bI (b : Bool) : Int32 := if b = true then 1 else 0
theorem bI_t : bI true = 1 := rfl
theorem bI_f : bI false = 0 := rfl
theorem bI_ne {b : Bool} (h : ¬ bI b = 0) : b = true := by cases b <;> simp_all [bI]
theorem bI_eq {b : Bool} (h : bI b = 0) : b = false := by cases b <;> simp_all [bI]
/-- of an entry: how many signs, its groups' bits, is it dropped, what it stands for, its sum as reckoned last -/
abbrev Ent : Type := Nat × Int32 × Bool × Option Nat × Nat
def oE (ad : Nat → Nat) (o : Option Nat) : Option Nat := o.map (fun i => ad (2 * i + 8))
def entO (ad : Nat → Nat) (i : Nat) (e : Ent) : va_E := .inr (0, [.ref (ad (2 * i + 9)), .int (nI e.1), .int e.2.1, .int (bI e.2.2.1), va_rf (oE ad e.2.2.2.1), .int (nI e.2.2.2.2)])
/-- a cost that was told, or none -/
def cV (o : Option Nat) : Int32 := match o with
  | none => -1
  | some c => nI c
abbrev iA (aC : Nat → ClassId) (n : Nat) (f : Nat → Int32) : va_E := .inl (aC 0, n, .inl f)
abbrev qA (cA : ClassId) (n : Nat) (f : Nat → Option Nat) : va_E := .inl (cA, n, .inr (.inr (.inr (.inr f))))
def rowE (ad : Nat → Nat) (n : Nat) : Nat → Option Nat := fun i => if 1 ≤ i ∧ i ≤ n then some (ad (2 * i + 8)) else none
def ctC (aC : Nat → ClassId) (ad : Nat → Nat) (n : Nat) (gl : Int32) (E : Nat → Ent) (G : Nat → Nat → Nat) (P : Nat) (co : Nat → Option Nat) (lc : Nat → Nat) (hc : Nat) (hn hs : Nat → Nat) (X : Nat → Option va_E) : Nat → Option va_E := fun k =>
  if 1000 ≤ k then X k
  else if k = 0 then some (.inr (3, [.ref (ad 1), .int (nI n), .ref (ad 2), .ref (ad 5), .int gl]))
  else if k = 1 then some (qA (aC 1) 201 (rowE ad n))
  else if k = 2 then some (.inr (2, [.ref (ad 3), .ref (ad 4), .int (nI P)]))
  else if k = 3 then some (iA aC 1880 (fun j => cV (co j)))
  else if k = 4 then some (iA aC 21 (fun j => nI (lc j)))
  else if k = 5 then some (.inr (1, [.ref (ad 6), .ref (ad 7), .int (nI hc)]))
  else if k = 6 then some (iA aC 200 (fun j => nI (hn j)))
  else if k = 7 then some (iA aC 200 (fun j => nI (hs j)))
  else if k < 10 then none
  else if n < (k - 8) / 2 then none
  else if k % 2 = 0 then some (entO ad ((k - 8) / 2) (E ((k - 8) / 2)))
  else some (iA aC 20 (fun j => nI (G ((k - 8) / 2) j)))
section CTC
variable {aC : Nat → ClassId} {ad : Nat → Nat} {n : Nat} {gl : Int32} {E : Nat → Ent} {G : Nat → Nat → Nat} {P : Nat} {co : Nat → Option Nat} {lc : Nat → Nat} {hc : Nat} {hn hs : Nat → Nat} {X : Nat → Option va_E}
theorem ctC_e {i : Nat} (h1 : 1 ≤ i) (h2 : i ≤ n) (h3 : n ≤ 200) : ctC aC ad n gl E G P co lc hc hn hs X (2 * i + 8) = some (entO ad i (E i)) := by
  unfold ctC
  rw [if_neg (by omega), if_neg (by omega), if_neg (by omega), if_neg (by omega), if_neg (by omega), if_neg (by omega), if_neg (by omega), if_neg (by omega), if_neg (by omega), if_neg (by omega), if_neg (by omega), if_pos (by omega), show (2 * i + 8 - 8) / 2 = i by omega]
theorem ctC_s {i : Nat} (h1 : 1 ≤ i) (h2 : i ≤ n) (h3 : n ≤ 200) : ctC aC ad n gl E G P co lc hc hn hs X (2 * i + 9) = some (iA aC 20 (fun j => nI (G i j))) := by
  unfold ctC
  rw [if_neg (by omega), if_neg (by omega), if_neg (by omega), if_neg (by omega), if_neg (by omega), if_neg (by omega), if_neg (by omega), if_neg (by omega), if_neg (by omega), if_neg (by omega), if_neg (by omega), if_neg (by omega), show (2 * i + 9 - 8) / 2 = i by omega]
theorem ctC_0 : ctC aC ad n gl E G P co lc hc hn hs X 0 = some (.inr (3, [.ref (ad 1), .int (nI n), .ref (ad 2), .ref (ad 5), .int gl])) := rfl
theorem ctC_1 : ctC aC ad n gl E G P co lc hc hn hs X 1 = some (qA (aC 1) 201 (rowE ad n)) := rfl
theorem ctC_2 : ctC aC ad n gl E G P co lc hc hn hs X 2 = some (.inr (2, [.ref (ad 3), .ref (ad 4), .int (nI P)])) := rfl
theorem ctC_3 : ctC aC ad n gl E G P co lc hc hn hs X 3 = some (iA aC 1880 (fun j => cV (co j))) := rfl
theorem ctC_4 : ctC aC ad n gl E G P co lc hc hn hs X 4 = some (iA aC 21 (fun j => nI (lc j))) := rfl
theorem ctC_5 : ctC aC ad n gl E G P co lc hc hn hs X 5 = some (.inr (1, [.ref (ad 6), .ref (ad 7), .int (nI hc)])) := rfl
theorem ctC_6 : ctC aC ad n gl E G P co lc hc hn hs X 6 = some (iA aC 200 (fun j => nI (hn j))) := rfl
theorem ctC_7 : ctC aC ad n gl E G P co lc hc hn hs X 7 = some (iA aC 200 (fun j => nI (hs j))) := rfl
theorem ctC_x {k : Nat} (h : 1000 ≤ k) : ctC aC ad n gl E G P co lc hc hn hs X k = X k := if_pos h
theorem ctC_free {k : Nat} (h1 : 10 ≤ k) (h2 : n < (k - 8) / 2) (h3 : k < 1000) : ctC aC ad n gl E G P co lc hc hn hs X k = none := by
  unfold ctC
  rw [if_neg (by omega), if_neg (by omega), if_neg (by omega), if_neg (by omega), if_neg (by omega), if_neg (by omega), if_neg (by omega), if_neg (by omega), if_neg (by omega), if_neg (by omega), if_pos h2]
theorem ctC_gl {gl' : Int32} : va_up (ctC aC ad n gl E G P co lc hc hn hs X) 0 (some (.inr (3, [.ref (ad 1), .int (nI n), .ref (ad 2), .ref (ad 5), .int gl']))) = ctC aC ad n gl' E G P co lc hc hn hs X := by
  funext k
  by_cases hk : k = 0
  · subst hk; rw [va_up_self]; rfl
  · rw [va_up_ne _ _ hk]; unfold ctC; rw [if_neg hk, if_neg hk]
theorem ctC_P {P' : Nat} : va_up (ctC aC ad n gl E G P co lc hc hn hs X) 2 (some (.inr (2, [.ref (ad 3), .ref (ad 4), .int (nI P')]))) = ctC aC ad n gl E G P' co lc hc hn hs X := by
  funext k
  by_cases hk : k = 2
  · subst hk; rw [va_up_self]; rfl
  · rw [va_up_ne _ _ hk]; unfold ctC; rw [if_neg hk, if_neg hk]
theorem ctC_co {co' : Nat → Option Nat} : va_up (ctC aC ad n gl E G P co lc hc hn hs X) 3 (some (iA aC 1880 (fun j => cV (co' j)))) = ctC aC ad n gl E G P co' lc hc hn hs X := by
  funext k
  by_cases hk : k = 3
  · subst hk; rw [va_up_self]; rfl
  · rw [va_up_ne _ _ hk]; unfold ctC; rw [if_neg hk, if_neg hk]
theorem ctC_lc {lc' : Nat → Nat} : va_up (ctC aC ad n gl E G P co lc hc hn hs X) 4 (some (iA aC 21 (fun j => nI (lc' j)))) = ctC aC ad n gl E G P co lc' hc hn hs X := by
  funext k
  by_cases hk : k = 4
  · subst hk; rw [va_up_self]; rfl
  · rw [va_up_ne _ _ hk]; unfold ctC; rw [if_neg hk, if_neg hk]
theorem ctC_hc {hc' : Nat} : va_up (ctC aC ad n gl E G P co lc hc hn hs X) 5 (some (.inr (1, [.ref (ad 6), .ref (ad 7), .int (nI hc')]))) = ctC aC ad n gl E G P co lc hc' hn hs X := by
  funext k
  by_cases hk : k = 5
  · subst hk; rw [va_up_self]; rfl
  · rw [va_up_ne _ _ hk]; unfold ctC; rw [if_neg hk, if_neg hk]
theorem ctC_hn {hn' : Nat → Nat} : va_up (ctC aC ad n gl E G P co lc hc hn hs X) 6 (some (iA aC 200 (fun j => nI (hn' j)))) = ctC aC ad n gl E G P co lc hc hn' hs X := by
  funext k
  by_cases hk : k = 6
  · subst hk; rw [va_up_self]; rfl
  · rw [va_up_ne _ _ hk]; unfold ctC; rw [if_neg hk, if_neg hk]
theorem ctC_hs {hs' : Nat → Nat} : va_up (ctC aC ad n gl E G P co lc hc hn hs X) 7 (some (iA aC 200 (fun j => nI (hs' j)))) = ctC aC ad n gl E G P co lc hc hn hs' X := by
  funext k
  by_cases hk : k = 7
  · subst hk; rw [va_up_self]; rfl
  · rw [va_up_ne _ _ hk]; unfold ctC; rw [if_neg hk, if_neg hk]
theorem ctC_E {i : Nat} {e : Ent} (h1 : 1 ≤ i) (h2 : i ≤ n) (h3 : n ≤ 200) : va_up (ctC aC ad n gl E G P co lc hc hn hs X) (2 * i + 8) (some (entO ad i e)) = ctC aC ad n gl (va_up E i e) G P co lc hc hn hs X := by
  funext k
  by_cases hk : k = 2 * i + 8
  · subst hk; rw [va_up_self, ctC_e h1 h2 h3, va_up_self]
  · rw [va_up_ne _ _ hk]
    unfold ctC
    by_cases h10 : k < 10
    · simp only [if_pos h10]
    · by_cases he : k % 2 = 0
      · rw [va_up_ne E e (show (k - 8) / 2 ≠ i by omega)]
      · simp only [if_neg he]
theorem ctC_G {i : Nat} {f : Nat → Nat} (h1 : 1 ≤ i) (h2 : i ≤ n) (h3 : n ≤ 200) : va_up (ctC aC ad n gl E G P co lc hc hn hs X) (2 * i + 9) (some (iA aC 20 (fun j => nI (f j)))) = ctC aC ad n gl E (va_up G i f) P co lc hc hn hs X := by
  funext k
  by_cases hk : k = 2 * i + 9
  · subst hk; rw [va_up_self, ctC_s h1 h2 h3, va_up_self]
  · rw [va_up_ne _ _ hk]
    unfold ctC
    by_cases h10 : k < 10
    · simp only [if_pos h10]
    · by_cases he : k % 2 = 0
      · simp only [if_pos he]
      · rw [va_up_ne G f (show (k - 8) / 2 ≠ i by omega)]
end CTC
/-- one place of a row of numbers is written -/
def un (f : Nat → Nat) (k v : Nat) : Nat → Nat := va_up f k v
theorem upd_nI {f : Nat → Nat} {k v : Nat} : upd (fun j => nI (f j)) k (nI v) = fun j => nI (un f k v j) := by
  funext j
  by_cases h : j = k
  · subst h; simp [upd, un, va_up]
  · simp [upd, un, va_up, h]
theorem upd_cV {f : Nat → Option Nat} {k v : Nat} : upd (fun j => cV (f j)) k (nI v) = fun j => cV (va_up f k (some v) j) := by
  funext j
  by_cases h : j = k
  · subst h; simp [upd, va_up, cV]
  · simp [upd, va_up, h]
end
section
/-! WHAT THE LEAVES ANSWER -/
def isSg (x : Int32) : Bool := !decide (x < nI 33) && !decide (nI 126 < x)
def isGr (x : Int32) : Bool := !decide (x < 0) && !decide (nI 8 ≤ x)
def isK (x : Int32) : Bool := !decide (x < nI 1) && !decide (nI 1000 < x)
theorem isSg_nI {q : Nat} (h1 : 33 ≤ q) (h2 : q ≤ 126) : isSg (nI q) = true := by
  have a : ¬ nI q < nI 33 := fun h => absurd ((nI_ltI (by omega) (by omega)).mp h) (by omega)
  have b : ¬ nI 126 < nI q := fun h => absurd ((nI_ltI (by omega) (by omega)).mp h) (by omega)
  simp [isSg, a, b]
theorem isK_nI {k : Nat} (h1 : 1 ≤ k) (h2 : k ≤ 1000) : isK (nI k) = true := by
  have a : ¬ nI k < nI 1 := fun h => absurd ((nI_ltI (by omega) (by omega)).mp h) (by omega)
  have b : ¬ nI 1000 < nI k := fun h => absurd ((nI_ltI (by omega) (by omega)).mp h) (by omega)
  simp [isK, a, b]
theorem nI_nm1 {c : Nat} (h : c < 2 ^ 31) : ¬ nI c = -1 := fun q => by
  have h1 := nI_toInt h
  rw [q] at h1
  have h2 : (-1 : Int32).toInt = -1 := by decide +kernel
  omega
theorem mn_nI {a b : Nat} (ha : a < 2 ^ 31) (hb : b < 2 ^ 31) : (if nI b < nI a then nI b else nI a) = nI (min a b) := by
  by_cases h : b < a
  · rw [if_pos ((nI_ltI hb ha).mpr h), Nat.min_eq_right (by omega)]
  · rw [if_neg (fun q => h ((nI_ltI hb ha).mp q)), Nat.min_eq_left (by omega)]
theorem mx_nI {a b : Nat} (ha : a < 2 ^ 31) (hb : b < 2 ^ 31) : (if nI a < nI b then nI b else nI a) = nI (max a b) := by
  by_cases h : a < b
  · rw [if_pos ((nI_ltI ha hb).mpr h), Nat.max_eq_right (by omega)]
  · rw [if_neg (fun q => h ((nI_ltI ha hb).mp q)), Nat.max_eq_left (by omega)]
/-- what sign q costs at place p -/
def wC (co : Nat → Option Nat) (p q : Nat) : Nat := match co (p * 94 + q - 33) with
  | none => 60
  | some c => c
theorem wC_le {co : Nat → Option Nat} (h : ∀ k c, co k = some c → c ≤ 1000) (p q : Nat) : wC co p q ≤ 1000 := by
  unfold wC
  cases hc : co (p * 94 + q - 33) with
  | none => simp
  | some c => exact h _ c hc
/-- a row of least costs, one sign on -/
def dpS (c w : Nat → Nat) : Nat → Nat
  | 0 => c 0 + 30
  | p + 1 => min (c p + w p) (min (c (p + 1) + 30) (dpS c w p + 25))
theorem dpS_le (c w : Nat → Nat) : ∀ j, dpS c w j ≤ c j + 30
  | 0 => Nat.le_refl _
  | p + 1 => by
    show min (c p + w p) (min (c (p + 1) + 30) (dpS c w p + 25)) ≤ c (p + 1) + 30
    omega
/-- the row as the walk of its places has it: up to place i new, behind it old -/
def adS (c w : Nat → Nat) (i : Nat) : Nat → Nat := fun j => if j ≤ i then dpS c w j else c j
def lc0 (c : Nat → Nat) (i : Nat) : Nat → Nat := fun j => if j < i then j * 25 else c j
def lcR (P : Nat) (co : Nat → Option Nat) (g : Nat → Nat) (c : Nat → Nat) : Nat → Nat → Nat
  | 0 => lc0 c (P + 1)
  | i + 1 => adS (lcR P co g c i) (fun p => wC co p (g i)) P
theorem lcR_le {P : Nat} {co : Nat → Option Nat} {g c : Nat → Nat} : ∀ (i j : Nat), j ≤ P → lcR P co g c i j ≤ j * 25 + 30 * i
  | 0, j, h => by
    show lc0 c (P + 1) j ≤ _
    unfold lc0
    rw [if_pos (by omega)]
    omega
  | i + 1, j, h => by
    show adS (lcR P co g c i) (fun p => wC co p (g i)) P j ≤ _
    unfold adS
    rw [if_pos h]
    have h1 := dpS_le (lcR P co g c i) (fun p => wC co p (g i)) j
    have h2 := lcR_le (P := P) (co := co) (g := g) (c := c) i j h
    omega
theorem adS_0 {c w : Nat → Nat} : un c 0 (c 0 + 30) = adS c w 0 := by
  funext j
  by_cases h : j = 0
  · subst h; simp [un, va_up, adS, dpS]
  · simp [un, va_up, adS, h]
theorem adS_s {c w : Nat → Nat} {i v : Nat} (hv : v = min (c i + w i) (min (c (i + 1) + 30) (dpS c w i + 25))) : un (adS c w i) (i + 1) v = adS c w (i + 1) := by
  subst hv
  funext j
  by_cases h : j = i + 1
  · subst h; simp [un, va_up, adS, dpS]
  · by_cases h2 : j ≤ i
    · simp [un, va_up, adS, h, h2, show j ≤ i + 1 by omega]
    · simp [un, va_up, adS, h, h2, show ¬ j ≤ i + 1 by omega]
theorem adS_at {c w : Nat → Nat} {i : Nat} : adS c w i i = dpS c w i := by simp [adS]
theorem adS_nx {c w : Nat → Nat} {i : Nat} : adS c w i (i + 1) = c (i + 1) := if_neg (by omega)
theorem lc0_s {c : Nat → Nat} {i : Nat} : un (lc0 c i) i (i * 25) = lc0 c (i + 1) := by
  funext j
  by_cases h : j = i
  · subst h; simp [un, va_up, lc0]
  · by_cases h2 : j < i
    · simp [un, va_up, lc0, h, h2, show j < i + 1 by omega]
    · simp [un, va_up, lc0, h, h2, show ¬ j < i + 1 by omega]
theorem lc0_0 {c : Nat → Nat} : lc0 c 0 = c := by
  funext j
  simp [lc0]
/-- is each of the first i signs told at its place -/
def spl (co : Nat → Option Nat) (g : Nat → Nat) : Nat → Bool
  | 0 => true
  | i + 1 => spl co g i && (co (i * 94 + g i - 33)).isSome
/-- a row filled up to i -/
def flI (f : Nat → Int32) (x : Int32) (i : Nat) : Nat → Int32 := fun j => if j < i then x else f j
theorem flI_0 {f : Nat → Int32} {x : Int32} : flI f x 0 = f := by funext j; simp [flI]
theorem flI_s {f : Nat → Int32} {x : Int32} {i : Nat} : upd (flI f x i) i x = flI f x (i + 1) := by
  funext j
  by_cases h : j = i
  · subst h; simp [upd, flI]
  · by_cases h2 : j < i
    · simp [upd, flI, h, h2, show j < i + 1 by omega]
    · simp [upd, flI, h, h2, show ¬ j < i + 1 by omega]
/-- where a sum b comes into a row of sums of which the first k are looked at from behind -/
def inP (hs : Nat → Nat) (b : Nat) : Nat → Nat
  | 0 => 0
  | k + 1 => if b < hs k then inP hs b k else k + 1
theorem inP_le (hs : Nat → Nat) (b : Nat) : ∀ k, inP hs b k ≤ k
  | 0 => Nat.le_refl _
  | k + 1 => by
    show (if b < hs k then inP hs b k else k + 1) ≤ k + 1
    have := inP_le hs b k
    split <;> omega
/-- the row moved on by one from place a on, up to hc -/
def shf (f : Nat → Nat) (a hc : Nat) : Nat → Nat := fun j => if a < j ∧ j ≤ hc then f (j - 1) else f j
theorem shf_0 {f : Nat → Nat} {hc : Nat} : shf f hc hc = f := by
  funext j
  unfold shf
  rw [if_neg (by omega)]
theorem shf_s {f : Nat → Nat} {a hc : Nat} (h : a + 1 ≤ hc) : un (shf f (a + 1) hc) (a + 1) (shf f (a + 1) hc a) = shf f a hc := by
  funext j
  by_cases hj : j = a + 1
  · subst hj
    simp only [un, va_up, shf, if_true]
    rw [if_neg (by omega), if_pos (by omega)]
    rfl
  · simp only [un, va_up, shf, if_neg hj]
    by_cases h2 : a < j ∧ j ≤ hc
    · rw [if_pos (show a + 1 < j ∧ j ≤ hc by omega), if_pos h2]
    · rw [if_neg (show ¬ (a + 1 < j ∧ j ≤ hc) by omega), if_neg h2]
def insR (f : Nat → Nat) (p hc v : Nat) : Nat → Nat := un (shf f p hc) p v
def hasB (hc : Nat) (x : Int32) : Bool := !decide (x < 0) && !decide (nI hc ≤ x)
theorem hasB_nI {hc j : Nat} (h : j < hc) (hc2 : hc < 2 ^ 31) : hasB hc (nI j) = true := by
  have a : ¬ nI j < 0 := nI_pos (by omega)
  have b : ¬ nI hc ≤ nI j := nI_ge h hc2
  simp [hasB, a, b]
def inG (b x : Int32) : Bool := decide (x = -1) || !decide (b &&& (nI 1 <<< (x &&& 31)) = 0)
/-- the entry with this number, where there is one that isn't dropped -/
def cLiv (n : Nat) (E : Nat → Ent) (x : Int32) : Option Nat := if x < nI 1 then none else if nI n < x then none else if (E x.toNatClampNeg).2.2.1 = true then none else some x.toNatClampNeg
theorem cLiv_in {n : Nat} {x : Int32} (h1 : ¬ x < nI 1) (h2 : ¬ nI n < x) (h : n ≤ 200) : ∃ j : Nat, 1 ≤ j ∧ j ≤ n ∧ x = nI j := by
  have h0 : ¬ x < 0 := fun q => h1 (Int32.lt_trans q (show (0 : Int32) < nI 1 by decide +kernel))
  obtain ⟨j, hj, rfl⟩ := nI_of h0
  refine ⟨j, ?_, ?_, rfl⟩
  · rcases Nat.lt_or_ge j 1 with q | q
    · exact absurd (nI_lt q (by omega)) h1
    · exact q
  · rcases Nat.lt_or_ge n j with q | q
    · exact absurd (nI_lt q hj) h2
    · exact q
theorem cLiv_nI {n : Nat} {E : Nat → Ent} {j : Nat} (h1 : 1 ≤ j) (h2 : j ≤ n) (h : n ≤ 200) : cLiv n E (nI j) = if (E j).2.2.1 = true then none else some j := by
  unfold cLiv
  rw [if_neg (nI_nlt h1 (by omega)), if_neg (nI_nlt h2 (by omega)), nI_clamp (by omega)]
theorem cLiv_some {n : Nat} {E : Nat → Ent} {x : Int32} {j : Nat} (h : n ≤ 200) (hc : cLiv n E x = some j) : 1 ≤ j ∧ j ≤ n ∧ (E j).2.2.1 = false ∧ x = nI j := by
  unfold cLiv at hc
  by_cases h1 : x < nI 1
  · rw [if_pos h1] at hc; cases hc
  · by_cases h2 : nI n < x
    · rw [if_neg h1, if_pos h2] at hc; cases hc
    · obtain ⟨i, a, b, rfl⟩ := cLiv_in h1 h2 h
      rw [if_neg h1, if_neg h2, nI_clamp (by omega)] at hc
      by_cases h3 : (E i).2.2.1 = true
      · rw [if_pos h3] at hc; cases hc
      · rw [if_neg h3] at hc
        cases hc
        exact ⟨a, b, by simpa using h3, rfl⟩
/-- how many of 1 .. n have q -/
def cnt (q : Nat → Bool) : Nat → Nat
  | 0 => 0
  | n + 1 => cnt q n + if q (n + 1) = true then 1 else 0
theorem cnt_le (q : Nat → Bool) : ∀ n, cnt q n ≤ n
  | 0 => Nat.le_refl _
  | n + 1 => by
    show cnt q n + (if q (n + 1) = true then 1 else 0) ≤ n + 1
    have := cnt_le q n
    split <;> omega
theorem spl_no {co : Nat → Option Nat} {g : Nat → Nat} {i : Nat} (hn : co (i * 94 + g i - 33) = none) : ∀ {P : Nat}, i < P → spl co g P = false
  | 0, h => absurd h (Nat.not_lt_zero _)
  | P + 1, h => by
    show (spl co g P && (co (P * 94 + g P - 33)).isSome) = false
    by_cases hp : i = P
    · subst hp; rw [hn]; simp
    · rw [spl_no hn (show i < P by omega)]; rfl
theorem va_up_c76 {ct : Nat → Option va_E} {x y z : Option va_E} : va_up (va_up (va_up ct 6 x) 7 y) 6 z = va_up (va_up ct 6 z) 7 y := by
  funext k
  by_cases h7 : k = 7
  · subst h7; simp [va_up]
  · by_cases h6 : k = 6
    · subst h6; simp [va_up]
    · simp [va_up, h6, h7]
/-! WHAT THE OBJECT'S OWN METHODS ANSWER AND DO -/
theorem cLiv_lo {n : Nat} {E : Nat → Ent} {x : Int32} (h : x < nI 1) : cLiv n E x = none := if_pos h
theorem cLiv_hi {n : Nat} {E : Nat → Ent} {x : Int32} (h1 : ¬ x < nI 1) (h : nI n < x) : cLiv n E x = none := by
  unfold cLiv
  rw [if_neg h1, if_pos h]
/-- may an entry be found: it stands for no other, and it is in the group that is looked at -/
def mbf (gl : Int32) (e : Ent) : Bool := e.2.2.2.1.isNone && inG e.2.1 gl
def inW (E : Nat → Ent) (x : Int32) (j : Nat) : Bool := !(E j).2.2.1 && inG (E j).2.1 x
def abO (E : Nat → Ent) (d : Nat) (j : Nat) : Bool := !(E j).2.2.1 && decide ((E j).2.2.2.1 = some d)
/-- what stands for others is among the entries -/
def sfOk (n : Nat) (E : Nat → Ent) : Prop := ∀ i, 1 ≤ i → i ≤ n → ∀ j, (E i).2.2.2.1 = some j → 1 ≤ j ∧ j ≤ n
theorem oE_inj {D : va_G} {lo : Nat} {H : Heap} {aC : Nat → ClassId} {ad : Nat → Nat} {n : Nat} {gl : Int32} {E : Nat → Ent} {G : Nat → Nat → Nat} {P : Nat} {co : Nat → Option Nat} {lc : Nat → Nat} {hc : Nat} {hn hs : Nat → Nat} {X : Nat → Option va_E} (hM : mw D vwCl lo ad (ctC aC ad n gl E G P co lc hc hn hs X) H) (h200 : n ≤ 200) {d : Nat} (h1 : 1 ≤ d) (h2 : d ≤ n) {o : Option Nat} (ho : ∀ j, o = some j → 1 ≤ j ∧ j ≤ n) : oE ad o = some (ad (2 * d + 8)) ↔ o = some d := by
  constructor
  · intro h
    cases o with
    | none => cases h
    | some j =>
      have hj := ho j rfl
      have h3 : ad (2 * j + 8) = ad (2 * d + 8) := Option.some.inj h
      have h4 := hM.2 _ _ _ _ (ctC_e hj.1 hj.2 h200) (ctC_e h1 h2 h200) h3
      rw [show j = d by omega]
  · intro h
    rw [h]
    rfl
def seL (e : Ent) (v : Nat) : Ent := (e.1, e.2.1, e.2.2.1, e.2.2.2.1, v)
def seS (e : Ent) (o : Option Nat) : Ent := (e.1, e.2.1, e.2.2.1, o, e.2.2.2.2)
def seB (e : Ent) (b : Int32) : Ent := (e.1, b, e.2.2.1, e.2.2.2.1, e.2.2.2.2)
def seN (e : Ent) (k : Nat) : Ent := (k, e.2.1, e.2.2.1, e.2.2.2.1, e.2.2.2.2)
def seD (e : Ent) : Ent := (e.1, e.2.1, true, none, e.2.2.2.2)
/-- an entry's own sum -/
def own (P : Nat) (co : Nat → Option Nat) (g : Nat → Nat) (len : Nat) : Nat := lcR P co g (fun _ => 0) len P
theorem dpS_congr {c c' w : Nat → Nat} : ∀ j, (∀ k, k ≤ j → c k = c' k) → dpS c w j = dpS c' w j
  | 0, h => by show c 0 + 30 = c' 0 + 30; rw [h 0 (Nat.le_refl _)]
  | j + 1, h => by
    show min (c j + w j) (min (c (j + 1) + 30) (dpS c w j + 25)) = min (c' j + w j) (min (c' (j + 1) + 30) (dpS c' w j + 25))
    rw [h j (by omega), h (j + 1) (Nat.le_refl _), dpS_congr j (fun k hk => h k (by omega))]
theorem lcR_any {P : Nat} {co : Nat → Option Nat} {g c c' : Nat → Nat} : ∀ (i j : Nat), j ≤ P → lcR P co g c i j = lcR P co g c' i j
  | 0, j, h => by
    show lc0 c (P + 1) j = lc0 c' (P + 1) j
    unfold lc0
    rw [if_pos (by omega), if_pos (by omega)]
  | i + 1, j, h => by
    show adS (lcR P co g c i) (fun p => wC co p (g i)) P j = adS (lcR P co g c' i) (fun p => wC co p (g i)) P j
    unfold adS
    rw [if_pos h, if_pos h]
    exact dpS_congr j (fun k hk => lcR_any i k (by omega))
/-- the first pass: each entry's own sum, up to entry i -/
def rk1 (P : Nat) (co : Nat → Option Nat) (G : Nat → Nat → Nat) (E : Nat → Ent) (i : Nat) : Nat → Ent := fun j => if 1 ≤ j ∧ j ≤ i ∧ (E j).2.2.1 = false then seL (E j) (own P co (G j) (E j).1) else E j
theorem rk1_0 {P : Nat} {co : Nat → Option Nat} {G : Nat → Nat → Nat} {E : Nat → Ent} : rk1 P co G E 0 = E := by
  funext j
  unfold rk1
  rw [if_neg (by omega)]
theorem rk1_at {P : Nat} {co : Nat → Option Nat} {G : Nat → Nat → Nat} {E : Nat → Ent} {i j : Nat} (h : i < j) : rk1 P co G E i j = E j := by
  unfold rk1
  rw [if_neg (by omega)]
theorem rk1_dr {P : Nat} {co : Nat → Option Nat} {G : Nat → Nat → Nat} {E : Nat → Ent} {i j : Nat} : (rk1 P co G E i j).2.2.1 = (E j).2.2.1 := by
  unfold rk1
  split <;> rfl
theorem rk1_sf {P : Nat} {co : Nat → Option Nat} {G : Nat → Nat → Nat} {E : Nat → Ent} {i j : Nat} : (rk1 P co G E i j).2.2.2.1 = (E j).2.2.2.1 := by
  unfold rk1
  split <;> rfl
theorem rk1_n {P : Nat} {co : Nat → Option Nat} {G : Nat → Nat → Nat} {E : Nat → Ent} {i : Nat} (h : (E (i + 1)).2.2.1 = true) : rk1 P co G E (i + 1) = rk1 P co G E i := by
  funext j
  unfold rk1
  by_cases hj : j = i + 1
  · subst hj; rw [if_neg (by rw [h]; simp), if_neg (by omega)]
  · by_cases h2 : 1 ≤ j ∧ j ≤ i ∧ (E j).2.2.1 = false
    · rw [if_pos h2, if_pos ⟨h2.1, by omega, h2.2.2⟩]
    · rw [if_neg h2, if_neg (fun q => h2 ⟨q.1, by omega, q.2.2⟩)]
theorem rk1_s {P : Nat} {co : Nat → Option Nat} {G : Nat → Nat → Nat} {E : Nat → Ent} {i : Nat} (h : (E (i + 1)).2.2.1 = false) : va_up (rk1 P co G E i) (i + 1) (seL (E (i + 1)) (own P co (G (i + 1)) (E (i + 1)).1)) = rk1 P co G E (i + 1) := by
  funext j
  by_cases hj : j = i + 1
  · subst hj
    rw [va_up_self]
    unfold rk1
    rw [if_pos ⟨by omega, Nat.le_refl _, h⟩]
  · rw [va_up_ne _ _ hj]
    unfold rk1
    by_cases h2 : 1 ≤ j ∧ j ≤ i ∧ (E j).2.2.1 = false
    · rw [if_pos h2, if_pos ⟨h2.1, by omega, h2.2.2⟩]
    · rw [if_neg h2, if_neg (fun q => h2 ⟨q.1, by omega, q.2.2⟩)]
/-- the second pass: what an entry stands for has the lesser of both -/
def rk2 (E : Nat → Ent) : Nat → Nat → Ent
  | 0 => E
  | i + 1 => if (E (i + 1)).2.2.1 = true then rk2 E i else match (E (i + 1)).2.2.2.1 with
    | none => rk2 E i
    | some j => va_up (rk2 E i) j (seL (rk2 E i j) (min (rk2 E i j).2.2.2.2 (rk2 E i (i + 1)).2.2.2.2))
theorem rk2_dr {E : Nat → Ent} {i : Nat} (h : (E (i + 1)).2.2.1 = true) : rk2 E (i + 1) = rk2 E i := by
  show (if (E (i + 1)).2.2.1 = true then rk2 E i else _) = _
  rw [if_pos h]
theorem rk2_no {E : Nat → Ent} {i : Nat} (h : (E (i + 1)).2.2.1 = false) (h2 : (E (i + 1)).2.2.2.1 = none) : rk2 E (i + 1) = rk2 E i := by
  simp only [rk2, h, h2]
  simp
theorem rk2_so {E : Nat → Ent} {i j : Nat} (h : (E (i + 1)).2.2.1 = false) (h2 : (E (i + 1)).2.2.2.1 = some j) : rk2 E (i + 1) = va_up (rk2 E i) j (seL (rk2 E i j) (min (rk2 E i j).2.2.2.2 (rk2 E i (i + 1)).2.2.2.2)) := by
  simp only [rk2, h, h2]
  simp
theorem rk2_keep (E : Nat → Ent) : ∀ (i j : Nat), (rk2 E i j).1 = (E j).1 ∧ (rk2 E i j).2.1 = (E j).2.1 ∧ (rk2 E i j).2.2.1 = (E j).2.2.1 ∧ (rk2 E i j).2.2.2.1 = (E j).2.2.2.1
  | 0, j => ⟨rfl, rfl, rfl, rfl⟩
  | i + 1, j => by
    have ih := rk2_keep E i
    cases hd : (E (i + 1)).2.2.1 with
    | true => rw [rk2_dr hd]; exact ih j
    | false =>
      cases hs : (E (i + 1)).2.2.2.1 with
      | none => rw [rk2_no hd hs]; exact ih j
      | some k =>
        rw [rk2_so hd hs]
        by_cases hj : j = k
        · subst hj; rw [va_up_self]; exact ih j
        · rw [va_up_ne _ _ hj]; exact ih j
def rkE (P : Nat) (co : Nat → Option Nat) (G : Nat → Nat → Nat) (E : Nat → Ent) (n : Nat) : Nat → Ent := rk2 (rk1 P co G E n) n
theorem own_le {P : Nat} {co : Nat → Option Nat} {g : Nat → Nat} {len : Nat} (hP : P ≤ 20) (hl : len ≤ 20) : own P co g len ≤ 1100 := by
  have := lcR_le (P := P) (co := co) (g := g) (c := fun _ => 0) len P (Nat.le_refl _)
  unfold own
  omega
theorem rk1_ls {P : Nat} {co : Nat → Option Nat} {G : Nat → Nat → Nat} {E : Nat → Ent} {i : Nat} (hP : P ≤ 20) (hl : ∀ j, (E j).1 ≤ 20) (h : ∀ j, (E j).2.2.2.2 ≤ 100000) (j : Nat) : (rk1 P co G E i j).2.2.2.2 ≤ 100000 := by
  unfold rk1
  split
  · show own P co (G j) (E j).1 ≤ 100000
    have := own_le (P := P) (co := co) (g := G j) hP (hl j)
    omega
  · exact h j
theorem rk2_ls {E : Nat → Ent} (h : ∀ j, (E j).2.2.2.2 ≤ 100000) : ∀ (i j : Nat), (rk2 E i j).2.2.2.2 ≤ 100000
  | 0, j => h j
  | i + 1, j => by
    have ih := rk2_ls h i
    cases hd : (E (i + 1)).2.2.1 with
    | true => rw [rk2_dr hd]; exact ih j
    | false =>
      cases hs : (E (i + 1)).2.2.2.1 with
      | none => rw [rk2_no hd hs]; exact ih j
      | some k =>
        rw [rk2_so hd hs]
        by_cases hj : j = k
        · subst hj
          rw [va_up_self]
          have := ih j
          show min _ _ ≤ 100000
          omega
        · rw [va_up_ne _ _ hj]; exact ih j
/-- the found so far, in the order of sums -/
def okF (gl : Int32) (E : Nat → Ent) (j : Nat) : Bool := !(E j).2.2.1 && mbf gl (E j) && decide ((E j).2.2.2.2 ≤ 400)
def fH (q : Nat → Bool) (E : Nat → Ent) (hn hs : Nat → Nat) : Nat → Nat × (Nat → Nat) × (Nat → Nat)
  | 0 => (0, hn, hs)
  | i + 1 => if q (i + 1) = true then ((fH q E hn hs i).1 + 1, insR (fH q E hn hs i).2.1 (inP (fH q E hn hs i).2.2 (E (i + 1)).2.2.2.2 (fH q E hn hs i).1) (fH q E hn hs i).1 (i + 1), insR (fH q E hn hs i).2.2 (inP (fH q E hn hs i).2.2 (E (i + 1)).2.2.2.2 (fH q E hn hs i).1) (fH q E hn hs i).1 (E (i + 1)).2.2.2.2) else fH q E hn hs i
theorem fH_y {q : Nat → Bool} {E : Nat → Ent} {hn hs : Nat → Nat} {i : Nat} (h : q (i + 1) = true) : fH q E hn hs (i + 1) = ((fH q E hn hs i).1 + 1, insR (fH q E hn hs i).2.1 (inP (fH q E hn hs i).2.2 (E (i + 1)).2.2.2.2 (fH q E hn hs i).1) (fH q E hn hs i).1 (i + 1), insR (fH q E hn hs i).2.2 (inP (fH q E hn hs i).2.2 (E (i + 1)).2.2.2.2 (fH q E hn hs i).1) (fH q E hn hs i).1 (E (i + 1)).2.2.2.2) := by
  show (if q (i + 1) = true then _ else _) = _
  rw [if_pos h]
theorem fH_n {q : Nat → Bool} {E : Nat → Ent} {hn hs : Nat → Nat} {i : Nat} (h : ¬ q (i + 1) = true) : fH q E hn hs (i + 1) = fH q E hn hs i := by
  show (if q (i + 1) = true then _ else _) = _
  rw [if_neg h]
theorem fH_le {q : Nat → Bool} {E : Nat → Ent} {hn hs : Nat → Nat} : ∀ i, (fH q E hn hs i).1 ≤ i
  | 0 => Nat.le_refl _
  | i + 1 => by
    have ih := fH_le (q := q) (E := E) (hn := hn) (hs := hs) i
    by_cases h : q (i + 1) = true
    · rw [fH_y h]; show _ + 1 ≤ i + 1; omega
    · rw [fH_n h]; omega
theorem insR_le {f : Nat → Nat} {p hc v B : Nat} (h : ∀ j, f j ≤ B) (hv : v ≤ B) (j : Nat) : insR f p hc v j ≤ B := by
  unfold insR un va_up shf
  split
  · exact hv
  · split <;> exact h _
theorem fH_hs {q : Nat → Bool} {E : Nat → Ent} {hn hs : Nat → Nat} (h : ∀ j, hs j ≤ 100000) (hE : ∀ j, (E j).2.2.2.2 ≤ 100000) : ∀ i j, (fH q E hn hs i).2.2 j ≤ 100000
  | 0, j => h j
  | i + 1, j => by
    have ih := fH_hs (q := q) (hn := hn) h hE i
    by_cases hq : q (i + 1) = true
    · rw [fH_y hq]; exact insR_le ih (hE _) j
    · rw [fH_n hq]; exact ih j
/-- the plain ones so far, by numbers -/
def okP (gl : Int32) (P : Nat) (co : Nat → Option Nat) (G : Nat → Nat → Nat) (E : Nat → Ent) (j : Nat) : Bool := !(E j).2.2.1 && mbf gl (E j) && (decide ((E j).1 = P) && spl co (G j) P)
def pH (q : Nat → Bool) (E : Nat → Ent) (hn hs : Nat → Nat) : Nat → Nat × (Nat → Nat) × (Nat → Nat)
  | 0 => (0, hn, hs)
  | i + 1 => if q (i + 1) = true then ((pH q E hn hs i).1 + 1, un (pH q E hn hs i).2.1 (pH q E hn hs i).1 (i + 1), un (pH q E hn hs i).2.2 (pH q E hn hs i).1 (E (i + 1)).2.2.2.2) else pH q E hn hs i
theorem pH_y {q : Nat → Bool} {E : Nat → Ent} {hn hs : Nat → Nat} {i : Nat} (h : q (i + 1) = true) : pH q E hn hs (i + 1) = ((pH q E hn hs i).1 + 1, un (pH q E hn hs i).2.1 (pH q E hn hs i).1 (i + 1), un (pH q E hn hs i).2.2 (pH q E hn hs i).1 (E (i + 1)).2.2.2.2) := by
  show (if q (i + 1) = true then _ else _) = _
  rw [if_pos h]
theorem pH_n {q : Nat → Bool} {E : Nat → Ent} {hn hs : Nat → Nat} {i : Nat} (h : ¬ q (i + 1) = true) : pH q E hn hs (i + 1) = pH q E hn hs i := by
  show (if q (i + 1) = true then _ else _) = _
  rw [if_neg h]
theorem pH_le {q : Nat → Bool} {E : Nat → Ent} {hn hs : Nat → Nat} : ∀ i, (pH q E hn hs i).1 ≤ i
  | 0 => Nat.le_refl _
  | i + 1 => by
    have ih := pH_le (q := q) (E := E) (hn := hn) (hs := hs) i
    by_cases h : q (i + 1) = true
    · rw [pH_y h]; show _ + 1 ≤ i + 1; omega
    · rw [pH_n h]; omega
/-- an entry is dropped: what stood for it stands for itself, up to i -/
def drE (E : Nat → Ent) (d : Nat) (i : Nat) : Nat → Ent := fun j => if 1 ≤ j ∧ j ≤ i ∧ (va_up E d (seD (E d)) j).2.2.1 = false ∧ (E j).2.2.2.1 = some d then seS (va_up E d (seD (E d)) j) none else va_up E d (seD (E d)) j
theorem drE_0 {E : Nat → Ent} {d : Nat} : drE E d 0 = va_up E d (seD (E d)) := by
  funext j
  unfold drE
  rw [if_neg (by omega)]
theorem drE_at {E : Nat → Ent} {d i j : Nat} (h : i < j) : drE E d i j = va_up E d (seD (E d)) j := by
  unfold drE
  rw [if_neg (by omega)]
theorem drE_n {E : Nat → Ent} {d i : Nat} (h : ¬ ((va_up E d (seD (E d)) (i + 1)).2.2.1 = false ∧ (E (i + 1)).2.2.2.1 = some d)) : drE E d (i + 1) = drE E d i := by
  funext j
  unfold drE
  by_cases hj : j = i + 1
  · subst hj; rw [if_neg (fun q => h ⟨q.2.2.1, q.2.2.2⟩), if_neg (by omega)]
  · by_cases h2 : 1 ≤ j ∧ j ≤ i ∧ (va_up E d (seD (E d)) j).2.2.1 = false ∧ (E j).2.2.2.1 = some d
    · rw [if_pos h2, if_pos ⟨h2.1, by omega, h2.2.2⟩]
    · rw [if_neg h2, if_neg (fun q => h2 ⟨q.1, by omega, q.2.2⟩)]
theorem drE_s {E : Nat → Ent} {d i : Nat} (h : (va_up E d (seD (E d)) (i + 1)).2.2.1 = false) (h2 : (E (i + 1)).2.2.2.1 = some d) : va_up (drE E d i) (i + 1) (seS (va_up E d (seD (E d)) (i + 1)) none) = drE E d (i + 1) := by
  funext j
  by_cases hj : j = i + 1
  · subst hj
    rw [va_up_self]
    unfold drE
    rw [if_pos ⟨by omega, Nat.le_refl _, h, h2⟩]
  · rw [va_up_ne _ _ hj]
    unfold drE
    by_cases h3 : 1 ≤ j ∧ j ≤ i ∧ (va_up E d (seD (E d)) j).2.2.1 = false ∧ (E j).2.2.2.1 = some d
    · rw [if_pos h3, if_pos ⟨h3.1, by omega, h3.2.2⟩]
    · rw [if_neg h3, if_neg (fun q => h3 ⟨q.1, by omega, q.2.2⟩)]
theorem drE_sf {E : Nat → Ent} {d i j : Nat} (h : (va_up E d (seD (E d)) j).2.2.1 = false) : (va_up E d (seD (E d)) j).2.2.2.1 = (E j).2.2.2.1 := by
  by_cases hj : j = d
  · subst hj; rw [va_up_self] at h; cases h
  · rw [va_up_ne _ _ hj]
theorem rkE_k {P : Nat} {co : Nat → Option Nat} {G : Nat → Nat → Nat} {E : Nat → Ent} {n j : Nat} : (rkE P co G E n j).1 = (E j).1 ∧ (rkE P co G E n j).2.1 = (E j).2.1 ∧ (rkE P co G E n j).2.2.1 = (E j).2.2.1 ∧ (rkE P co G E n j).2.2.2.1 = (E j).2.2.2.1 := by
  have h := rk2_keep (rk1 P co G E n) n j
  have h1 : (rk1 P co G E n j).1 = (E j).1 := by unfold rk1; split <;> rfl
  have h2 : (rk1 P co G E n j).2.1 = (E j).2.1 := by unfold rk1; split <;> rfl
  exact ⟨h.1.trans h1, h.2.1.trans h2, h.2.2.1.trans rk1_dr, h.2.2.2.trans rk1_sf⟩
def okC (x y z : Int32) : Bool := !decide (x < 0) && !decide (nI 20 ≤ x) && isSg y && !decide (z < 0) && decide (z ≤ nI 1000)
theorem sfOk_set {n : Nat} {E : Nat → Ent} {j k : Nat} (h : sfOk n E) (h1 : 1 ≤ k) (h2 : k ≤ n) : sfOk n (va_up E j (seS (E j) (some k))) := by
  intro i a b z hz
  by_cases hij : i = j
  · subst hij
    rw [va_up_self] at hz
    cases hz
    exact ⟨h1, h2⟩
  · rw [va_up_ne _ _ hij] at hz
    exact h i a b z hz
theorem vu_comm {α : Type} {f : Nat → α} {a b : Nat} {x y : α} (h : a ≠ b) : va_up (va_up f a x) b y = va_up (va_up f b y) a x := by
  funext k
  by_cases ha : k = a
  · subst ha; rw [va_up_ne _ _ h, va_up_self, va_up_self]
  · by_cases hb : k = b
    · subst hb; rw [va_up_self, va_up_ne _ _ ha, va_up_self]
    · rw [va_up_ne _ _ hb, va_up_ne _ _ ha, va_up_ne _ _ ha, va_up_ne _ _ hb]
def clC (co : Nat → Option Nat) : Nat → Option Nat := fun j => if j < 1880 then none else co j
theorem flI_cV {co : Nat → Option Nat} : flI (fun j => cV (co j)) (-1) 1880 = fun j => cV (clC co j) := by
  funext j
  unfold flI clC
  split <;> rfl
end
section
/-- the memory as the object is made: it alone, and the others' cells -/
def ctB (X : Nat → Option va_E) : Nat → Option va_E := fun k => if 1000 ≤ k then X k else if k = 0 then some (.inr (3, [.null, .int 0, .null, .null, .int 0])) else none
theorem ctB_0 {X : Nat → Option va_E} : ctB X 0 = some (.inr (3, [.null, .int 0, .null, .null, .int 0])) := rfl
theorem ctB_n {X : Nat → Option va_E} {k : Nat} (h : k < 1000) (h0 : k ≠ 0) : ctB X k = none := by
  unfold ctB
  rw [if_neg (by omega), if_neg h0]
theorem ctB_new {aC : Nat → ClassId} {ad : Nat → Nat} {X : Nat → Option va_E} {f : Nat → Option va_E} (h : ∀ k, 8 ≤ k → f k = ctB X k)
    (h0 : f 0 = some (.inr (3, [.ref (ad 1), .int 0, .ref (ad 2), .ref (ad 5), .int (-1)]))) (h1 : f 1 = some (qA (aC 1) 201 (fun _ => none)))
    (h2 : f 2 = some (.inr (2, [.ref (ad 3), .ref (ad 4), .int 0]))) (h3 : f 3 = some (iA aC 1880 (flI (fun _ => 0) (-1) 1880))) (h4 : f 4 = some (iA aC 21 (fun _ => 0)))
    (h5 : f 5 = some (.inr (1, [.ref (ad 6), .ref (ad 7), .int 0]))) (h6 : f 6 = some (iA aC 200 (fun _ => 0))) (h7 : f 7 = some (iA aC 200 (fun _ => 0))) :
    f = ctC aC ad 0 (-1) (fun _ => (0, 0, false, none, 0)) (fun _ _ => 0) 0 (clC (fun _ => some 0)) (fun _ => 0) 0 (fun _ => 0) (fun _ => 0) X := by
  funext k
  by_cases hk : 8 ≤ k
  · rw [h k hk]
    unfold ctB ctC
    by_cases hx : 1000 ≤ k
    · rw [if_pos hx, if_pos hx]
    · rw [if_neg hx, if_neg hx, if_neg (by omega), if_neg (by omega), if_neg (by omega), if_neg (by omega), if_neg (by omega), if_neg (by omega), if_neg (by omega), if_neg (by omega), if_neg (by omega)]
      by_cases h10 : k < 10
      · rw [if_pos h10]
      · rw [if_neg h10, if_pos (by omega)]
  · have h3' : flI (fun _ => 0) (-1) 1880 = fun j => cV (clC (fun _ => some 0) j) := flI_cV (co := fun _ => some 0)
    have hr : (fun _ => none : Nat → Option Nat) = rowE ad 0 := by
      funext j
      unfold rowE
      rw [if_neg (by omega)]
    rcases (show k = 0 ∨ k = 1 ∨ k = 2 ∨ k = 3 ∨ k = 4 ∨ k = 5 ∨ k = 6 ∨ k = 7 by omega) with rfl | rfl | rfl | rfl | rfl | rfl | rfl | rfl
    · rw [h0]; rfl
    · rw [h1, hr]; rfl
    · rw [h2]; rfl
    · rw [h3, h3']; rfl
    · rw [h4]; rfl
    · rw [h5]; rfl
    · rw [h6]; rfl
    · rw [h7]; rfl
theorem ctC_grow {aC : Nat → ClassId} {ad ad1 : Nat → Nat} {n : Nat} {gl : Int32} {E : Nat → Ent} {G : Nat → Nat → Nat} {P : Nat} {co : Nat → Option Nat} {lc : Nat → Nat} {hc : Nat} {hn hs : Nat → Nat} {X : Nat → Option va_E} {f : Nat → Option va_E}
    (had : ∀ k, k ≠ 2 * (n + 1) + 8 → k ≠ 2 * (n + 1) + 9 → ad1 k = ad k) (h200 : n < 200) (hsf : sfOk n E)
    (h0 : f 0 = some (.inr (3, [.ref (ad 1), .int (nI (n + 1)), .ref (ad 2), .ref (ad 5), .int gl])))
    (h1 : f 1 = some (qA (aC 1) 201 (va_up (rowE ad n) (n + 1) (some (ad1 (2 * (n + 1) + 8))))))
    (he : f (2 * (n + 1) + 8) = some (.inr (0, [.ref (ad1 (2 * (n + 1) + 9)), .int 0, .int 0, .int 0, .null, .int 0])))
    (hg : f (2 * (n + 1) + 9) = some (iA aC 20 (fun _ => 0)))
    (hf : ∀ k, k ≠ 0 → k ≠ 1 → k ≠ 2 * (n + 1) + 8 → k ≠ 2 * (n + 1) + 9 → f k = ctC aC ad n gl E G P co lc hc hn hs X k) :
    f = ctC aC ad1 (n + 1) gl (va_up E (n + 1) (0, 0, false, none, 0)) (va_up G (n + 1) (fun _ => 0)) P co lc hc hn hs X := by
  have a : ∀ k, k < 10 → ad1 k = ad k := fun k hk => had k (by omega) (by omega)
  funext k
  by_cases k0 : k = 0
  · subst k0; rw [h0, ctC_0, a 1 (by omega), a 2 (by omega), a 5 (by omega)]
  by_cases k1 : k = 1
  · subst k1
    rw [h1, ctC_1]
    have hr : va_up (rowE ad n) (n + 1) (some (ad1 (2 * (n + 1) + 8))) = rowE ad1 (n + 1) := by
      funext j
      by_cases hj : j = n + 1
      · subst hj; rw [va_up_self]; unfold rowE; rw [if_pos (by omega)]
      · rw [va_up_ne _ _ hj]
        unfold rowE
        by_cases h2 : 1 ≤ j ∧ j ≤ n
        · rw [if_pos h2, if_pos (by omega), had _ (by omega) (by omega)]
        · rw [if_neg h2, if_neg (by omega)]
    rw [hr]
  by_cases ke : k = 2 * (n + 1) + 8
  · subst ke; rw [he, ctC_e (by omega) (Nat.le_refl _) (by omega), va_up_self]; rfl
  by_cases kg : k = 2 * (n + 1) + 9
  · subst kg; rw [hg, ctC_s (by omega) (Nat.le_refl _) (by omega), va_up_self]; rfl
  rw [hf k k0 k1 ke kg]
  unfold ctC
  by_cases hx : 1000 ≤ k
  · rw [if_pos hx, if_pos hx]
  rw [if_neg hx, if_neg hx, if_neg k0, if_neg k0, if_neg k1, if_neg k1]
  by_cases k2 : k = 2
  · rw [if_pos k2, if_pos k2, a 3 (by omega), a 4 (by omega)]
  rw [if_neg k2, if_neg k2]
  by_cases k3 : k = 3
  · rw [if_pos k3, if_pos k3]
  rw [if_neg k3, if_neg k3]
  by_cases k4 : k = 4
  · rw [if_pos k4, if_pos k4]
  rw [if_neg k4, if_neg k4]
  by_cases k5 : k = 5
  · rw [if_pos k5, if_pos k5, a 6 (by omega), a 7 (by omega)]
  rw [if_neg k5, if_neg k5]
  by_cases k6 : k = 6
  · rw [if_pos k6, if_pos k6]
  rw [if_neg k6, if_neg k6]
  by_cases k7 : k = 7
  · rw [if_pos k7, if_pos k7]
  rw [if_neg k7, if_neg k7]
  by_cases k10 : k < 10
  · rw [if_pos k10, if_pos k10]
  rw [if_neg k10, if_neg k10]
  by_cases kn : n < (k - 8) / 2
  · rw [if_pos kn, if_pos (show n + 1 < (k - 8) / 2 by omega)]
  rw [if_neg kn, if_neg (show ¬ n + 1 < (k - 8) / 2 by omega), va_up_ne E _ (show (k - 8) / 2 ≠ n + 1 by omega), va_up_ne G _ (show (k - 8) / 2 ≠ n + 1 by omega)]
  by_cases k2 : k % 2 = 0
  · rw [if_pos k2, if_pos k2]
    have ho : oE ad1 (E ((k - 8) / 2)).2.2.2.1 = oE ad (E ((k - 8) / 2)).2.2.2.1 := by
      cases hs : (E ((k - 8) / 2)).2.2.2.1 with
      | none => rfl
      | some j =>
        have hj := hsf _ (by omega) (by omega) j hs
        show some (ad1 (2 * j + 8)) = some (ad (2 * j + 8))
        rw [had _ (by omega) (by omega)]
    unfold entO
    rw [ho, had _ (by omega) (by omega)]
  · rw [if_neg k2, if_neg k2]
end
section
set_option maxHeartbeats 4000000 in
set_option maxRecDepth 100000 in
theorem c_fill (l : Launch) {D : va_G} {aC : Nat → ClassId} {lo : Nat} {ad : Nat → Nat} {ct : Nat → Option va_E} {a k n : Nat} {f : Nat → Int32} {x : Int32} (ha : a = ad k) (hk : ct k = some (iA aC n f)) (hn : n < 2 ^ 31) : Met l yJ7_fill (wsO yJ7_fill cJ7_fill 4 none) ({ frames := 0, cells := 0, slots := 0, locals := 0 } : Room) (mPc D vwCl (tyA aC) lo ad ct [.ref a, .int x]) (mD0 D vwCl lo ad (va_up ct k (some (iA aC n (flI f x n))))) 0 0 (fun q => lo ≤ q) := by
  refine Met.ofW (cc := cJ7_fill) (maxL := 4) (ret := none) (by decide) rfl ?_
  intro pr en s0 mm args below meth cc0 s₁ B hml hv
  obtain ⟨rfl, hlo, hM, hKK⟩ := hv
  have hK := hKK.1
  have hr := B.returns
  have hts := atoms_spec (ws := (wsO yJ7_fill cJ7_fill 4 none)) B.pre
  have F : CallFix pr mm cc0 cJ7_fill 4 s0 (([.ref a, .int x] : List Value).toArray) (wsO yJ7_fill cJ7_fill 4 none) RJ7 := ⟨B.exec, B.bytes, hml, findClass_of_methodNamed B.named, hts⟩
  have hx := F.1
  have hb := F.2.1
  have hlocks := B.notSynchronized
  have hS : va_S (fun q => lo ≤ q) s0.heap s0.heap [] := va_S.rf
  have hl := lv_entry ([.ref a, .int x]) (n := 4) (Nat.le_of_ble_eq_true rfl)
  rw [lg_entry_eq]
  generalize (lg_sl ([.ref a, .int x]) ++ List.replicate (4 - (lg_sl ([.ref a, .int x])).length) Slot.unset).toArray = ls at hl ⊢
  have hl : lv_has ls 4 [(0, .ref a), (1, .int x)] := hl
  have loop_5 : ∀ (fu : Nat) (i : Nat), (i ≤ n) → n + 1 - i ≤ fu → ∀ (H : Heap) (locs : List Loc) (ls : Array Slot), mw D vwCl lo ad (va_up ct k (some (iA aC n (flI f x i)))) H → va_S (fun q => lo ≤ q) s0.heap H locs → lv_has ls 4 [(0, .ref a), (1, .int x), (2, .int (nI i)), (3, .int (nI n))] → W pr l en (headSpec (wsO yJ7_fill cJ7_fill 4 none) ({ frames := 0, cells := 0, slots := 0, locals := 0 } : Room)).room s0 mm (([.ref a, .int x] : List Value).toArray) below meth cc0 H locs 0 0 (MQ below (mD0 D vwCl lo ad (va_up ct k (some (iA aC n (flI f x n))))) (([.ref a, .int x] : List Value).toArray) s0 0 0 (fun q => lo ≤ q)) (F0 mm 5 ls []) := by
    intro fu
    induction fu with
    | zero =>
      intro i hi hfu H locs ls hM hS hl
      exact absurd hfu (by omega)
    | succ fu ih_5 =>
      intro i hi hfu H locs ls hM hS hl
      refine lv_iload_n hx hb dJ7_fill_5 rfl (lv_at hl 2 rfl) ?_
      refine lv_iload_n hx hb dJ7_fill_6 rfl (lv_at hl 3 rfl) ?_
      refine m_icmp_ge F (a := i) (b := n) (by omega) (by omega) (tgt := 20) dJ7_fill_7 (by decide) (fun c_7 => ?_) (fun c_7 => ?_)
      · skip
        have hin : n = i := by omega
        subst hin
        exact W.vret hx hb hr (fun t ht hW => ⟨⟨_, _, rfl, ⟨rfl, rfl⟩, by rw [ht]; exact hM⟩, hS.F ht⟩) hS.2.2 dJ7_fill_20
      · skip
        refine lv_aload_n hx hb dJ7_fill_10 rfl (lv_at hl 0 rfl) ?_
        refine lv_iload_n hx hb dJ7_fill_11 rfl (lv_at hl 2 rfl) ?_
        refine lv_iload_n hx hb dJ7_fill_12 rfl (lv_at hl 1 rfl) ?_
        refine m_uv (ha) ?_
        refine m_iast F hK hM hS 0 rfl (j := i) (x := x) (va_up_self _ _ _) (by omega) hn dJ7_fill_13 (fun H locs hM hS => ?_)
        have hM : mw D vwCl lo ad (va_up (va_up ct k (some (iA aC n (flI f x i)))) k (some (.inl (aC 0, n, .inl (upd (flI f x i) i x))))) H := hM
        have hM : mw D vwCl lo ad (va_up ct k (some (iA aC n (flI f x (i + 1))))) H := by rw [bx_uu, flI_s] at hM; exact hM
        refine lv_iinc (v := (nI (i + 1))) (lv' := [(2, .int (nI (i + 1))), (0, .ref a), (1, .int x), (3, .int (nI n))]) hx hb dJ7_fill_14 hl (k := 2) rfl (nI_1 i) (by decide) rfl (fun ls hl => ?_)
        refine lv_goto (tgt := 5) hx hb dJ7_fill_17 (by decide) ?_
        exact ih_5 (i + 1) (by omega) (by omega) _ _ _ hM hS (lv_sub hl [1, 2, 0, 3] rfl)
  refine lv_iconst (v := (nI 0)) hx hb dJ7_fill_0 (by decide) ?_
  refine lv_istore_n (lv' := [(2, .int (nI 0)), (0, .ref a), (1, .int x)]) hx hb dJ7_fill_1 rfl hl (by decide) rfl (fun ls hl => ?_)
  refine lv_aload_n hx hb dJ7_fill_2 rfl (lv_at hl 1 rfl) ?_
  refine m_tv (ha) ?_
  refine m_alen F hK hM 0 rfl hk dJ7_fill_3 ?_
  refine lv_istore_n (lv' := [(3, .int (nI n)), (2, .int (nI 0)), (0, .ref a), (1, .int x)]) hx hb dJ7_fill_4 rfl hl (by decide) rfl (fun ls hl => ?_)
  have hM : mw D vwCl lo ad (va_up ct k (some (iA aC n (flI f x 0)))) s0.heap := hM.eq (fun z => by
    rw [flI_0]
    by_cases hz : z = k
    · subst hz; rw [va_up_self]; exact hk
    · rw [va_up_ne _ _ hz])
  exact loop_5 (n + 1) 0 (Nat.zero_le _) (by omega) _ _ _ hM hS (lv_sub hl [2, 3, 1, 0] rfl)
end
section
set_option maxHeartbeats 4000000 in
set_option maxRecDepth 100000 in
theorem c_isSign (l : Launch) {D : va_G} {aC : Nat → ClassId} {lo : Nat} {ad : Nat → Nat} {ct : Nat → Option va_E} (x : Int32)  : Met l yX3_isSign (wsO yX3_isSign cX3_isSign 1 (some .boolean)) ({ frames := 0, cells := 0, slots := 0, locals := 0 } : Room) (mPc D vwCl (tyA aC) lo ad ct [.int x]) (mD1 D vwCl lo (.int (bI (isSg x))) ad ct) 0 0 (fun q => lo ≤ q) := by
  refine Met.ofW (cc := cX3_isSign) (maxL := 1) (ret := (some .boolean)) (by decide) rfl ?_
  intro pr en s0 mm args below meth cc0 s₁ B hml hv
  obtain ⟨rfl, hlo, hM, hKK⟩ := hv
  have hK := hKK.1
  have hr := B.returns
  have hts := atoms_spec (ws := (wsO yX3_isSign cX3_isSign 1 (some .boolean))) B.pre
  have F : CallFix pr mm cc0 cX3_isSign 1 s0 (([.int x] : List Value).toArray) (wsO yX3_isSign cX3_isSign 1 (some .boolean)) RX3 := ⟨B.exec, B.bytes, hml, findClass_of_methodNamed B.named, hts⟩
  have hx := F.1
  have hb := F.2.1
  have hlocks := B.notSynchronized
  have hS : va_S (fun q => lo ≤ q) s0.heap s0.heap [] := va_S.rf
  have hl := lv_entry ([.int x]) (n := 1) (Nat.le_of_ble_eq_true rfl)
  rw [lg_entry_eq]
  generalize (lg_sl ([.int x]) ++ List.replicate (1 - (lg_sl ([.int x])).length) Slot.unset).toArray = ls at hl ⊢
  have hl : lv_has ls 1 [(0, .int x)] := hl
  refine lv_iload_n hx hb dX3_isSign_0 rfl (lv_at hl 0 rfl) ?_
  refine lv_bipush (v := (nI 33)) hx hb dX3_isSign_1 (by decide) ?_
  refine lv_icmp_lt (tgt := 16) hx hb dX3_isSign_3 (by decide) (fun c_3 => ?_) (fun c_3 => ?_)
  · skip
    refine lv_iconst (v := (nI 0)) hx hb dX3_isSign_16 (by decide) ?_
    exact W.zret hx hb hr rfl (fun t ht hW => ⟨⟨_, _, _, rfl, ⟨by rw [show isSg x = false by first | simp [isSg, c_3, c_9] | simp [isSg, c_3]]; rfl, rfl, rfl⟩, by rw [ht]; exact hM⟩, hS.F ht⟩) hS.2.2 dX3_isSign_17
  · skip
    refine lv_iload_n hx hb dX3_isSign_6 rfl (lv_at hl 0 rfl) ?_
    refine lv_bipush (v := (nI 126)) hx hb dX3_isSign_7 (by decide) ?_
    refine lv_icmp_gt (tgt := 16) hx hb dX3_isSign_9 (by decide) (fun c_9 => ?_) (fun c_9 => ?_)
    · skip
      refine lv_iconst (v := (nI 0)) hx hb dX3_isSign_16 (by decide) ?_
      exact W.zret hx hb hr rfl (fun t ht hW => ⟨⟨_, _, _, rfl, ⟨by rw [show isSg x = false by first | simp [isSg, c_3, c_9] | simp [isSg, c_3]]; rfl, rfl, rfl⟩, by rw [ht]; exact hM⟩, hS.F ht⟩) hS.2.2 dX3_isSign_17
    · skip
      refine lv_iconst (v := (nI 1)) hx hb dX3_isSign_12 (by decide) ?_
      refine lv_goto (tgt := 17) hx hb dX3_isSign_13 (by decide) ?_
      exact W.zret hx hb hr rfl (fun t ht hW => ⟨⟨_, _, _, rfl, ⟨by rw [show isSg x = true by simp [isSg, c_3, c_9]]; rfl, rfl, rfl⟩, by rw [ht]; exact hM⟩, hS.F ht⟩) hS.2.2 dX3_isSign_17

set_option maxHeartbeats 4000000 in
set_option maxRecDepth 100000 in
theorem c_isGroup (l : Launch) {D : va_G} {aC : Nat → ClassId} {lo : Nat} {ad : Nat → Nat} {ct : Nat → Option va_E} (x : Int32)  : Met l yX3_isGroup (wsO yX3_isGroup cX3_isGroup 1 (some .boolean)) ({ frames := 0, cells := 0, slots := 0, locals := 0 } : Room) (mPc D vwCl (tyA aC) lo ad ct [.int x]) (mD1 D vwCl lo (.int (bI (isGr x))) ad ct) 0 0 (fun q => lo ≤ q) := by
  refine Met.ofW (cc := cX3_isGroup) (maxL := 1) (ret := (some .boolean)) (by decide) rfl ?_
  intro pr en s0 mm args below meth cc0 s₁ B hml hv
  obtain ⟨rfl, hlo, hM, hKK⟩ := hv
  have hK := hKK.1
  have hr := B.returns
  have hts := atoms_spec (ws := (wsO yX3_isGroup cX3_isGroup 1 (some .boolean))) B.pre
  have F : CallFix pr mm cc0 cX3_isGroup 1 s0 (([.int x] : List Value).toArray) (wsO yX3_isGroup cX3_isGroup 1 (some .boolean)) RX3 := ⟨B.exec, B.bytes, hml, findClass_of_methodNamed B.named, hts⟩
  have hx := F.1
  have hb := F.2.1
  have hlocks := B.notSynchronized
  have hS : va_S (fun q => lo ≤ q) s0.heap s0.heap [] := va_S.rf
  have hl := lv_entry ([.int x]) (n := 1) (Nat.le_of_ble_eq_true rfl)
  rw [lg_entry_eq]
  generalize (lg_sl ([.int x]) ++ List.replicate (1 - (lg_sl ([.int x])).length) Slot.unset).toArray = ls at hl ⊢
  have hl : lv_has ls 1 [(0, .int x)] := hl
  refine lv_iload_n hx hb dX3_isGroup_0 rfl (lv_at hl 0 rfl) ?_
  refine lv_if_lt (tgt := 14) hx hb dX3_isGroup_1 (by decide) (fun c_1 => ?_) (fun c_1 => ?_)
  · skip
    refine lv_iconst (v := (nI 0)) hx hb dX3_isGroup_14 (by decide) ?_
    exact W.zret hx hb hr rfl (fun t ht hW => ⟨⟨_, _, _, rfl, ⟨by rw [show isGr x = false by first | simp [isGr, c_1, c_7] | simp [isGr, c_1]]; rfl, rfl, rfl⟩, by rw [ht]; exact hM⟩, hS.F ht⟩) hS.2.2 dX3_isGroup_15
  · skip
    refine lv_iload_n hx hb dX3_isGroup_4 rfl (lv_at hl 0 rfl) ?_
    refine lv_bipush (v := (nI 8)) hx hb dX3_isGroup_5 (by decide) ?_
    refine lv_icmp_ge (tgt := 14) hx hb dX3_isGroup_7 (by decide) (fun c_7 => ?_) (fun c_7 => ?_)
    · skip
      refine lv_iconst (v := (nI 0)) hx hb dX3_isGroup_14 (by decide) ?_
      exact W.zret hx hb hr rfl (fun t ht hW => ⟨⟨_, _, _, rfl, ⟨by rw [show isGr x = false by first | simp [isGr, c_1, c_7] | simp [isGr, c_1]]; rfl, rfl, rfl⟩, by rw [ht]; exact hM⟩, hS.F ht⟩) hS.2.2 dX3_isGroup_15
    · skip
      refine lv_iconst (v := (nI 1)) hx hb dX3_isGroup_10 (by decide) ?_
      refine lv_goto (tgt := 15) hx hb dX3_isGroup_11 (by decide) ?_
      exact W.zret hx hb hr rfl (fun t ht hW => ⟨⟨_, _, _, rfl, ⟨by rw [show isGr x = true by simp [isGr, c_1, c_7]]; rfl, rfl, rfl⟩, by rw [ht]; exact hM⟩, hS.F ht⟩) hS.2.2 dX3_isGroup_15

set_option maxHeartbeats 4000000 in
set_option maxRecDepth 100000 in
theorem c_mayBeAsked (l : Launch) {D : va_G} {aC : Nat → ClassId} {lo : Nat} {ad : Nat → Nat} {ct : Nat → Option va_E} (x : Int32)  : Met l yX3_mayBeAsked (wsO yX3_mayBeAsked cX3_mayBeAsked 1 (some .boolean)) ({ frames := 0, cells := 0, slots := 0, locals := 0 } : Room) (mPc D vwCl (tyA aC) lo ad ct [.int x]) (mD1 D vwCl lo (.int (bI (isK x))) ad ct) 0 0 (fun q => lo ≤ q) := by
  refine Met.ofW (cc := cX3_mayBeAsked) (maxL := 1) (ret := (some .boolean)) (by decide) rfl ?_
  intro pr en s0 mm args below meth cc0 s₁ B hml hv
  obtain ⟨rfl, hlo, hM, hKK⟩ := hv
  have hK := hKK.1
  have hr := B.returns
  have hts := atoms_spec (ws := (wsO yX3_mayBeAsked cX3_mayBeAsked 1 (some .boolean))) B.pre
  have F : CallFix pr mm cc0 cX3_mayBeAsked 1 s0 (([.int x] : List Value).toArray) (wsO yX3_mayBeAsked cX3_mayBeAsked 1 (some .boolean)) RX3 := ⟨B.exec, B.bytes, hml, findClass_of_methodNamed B.named, hts⟩
  have hx := F.1
  have hb := F.2.1
  have hlocks := B.notSynchronized
  have hS : va_S (fun q => lo ≤ q) s0.heap s0.heap [] := va_S.rf
  have hl := lv_entry ([.int x]) (n := 1) (Nat.le_of_ble_eq_true rfl)
  rw [lg_entry_eq]
  generalize (lg_sl ([.int x]) ++ List.replicate (1 - (lg_sl ([.int x])).length) Slot.unset).toArray = ls at hl ⊢
  have hl : lv_has ls 1 [(0, .int x)] := hl
  refine lv_iload_n hx hb dX3_mayBeAsked_0 rfl (lv_at hl 0 rfl) ?_
  refine lv_iconst (v := (nI 1)) hx hb dX3_mayBeAsked_1 (by decide) ?_
  refine lv_icmp_lt (tgt := 16) hx hb dX3_mayBeAsked_2 (by decide) (fun c_2 => ?_) (fun c_2 => ?_)
  · skip
    refine lv_iconst (v := (nI 0)) hx hb dX3_mayBeAsked_16 (by decide) ?_
    exact W.zret hx hb hr rfl (fun t ht hW => ⟨⟨_, _, _, rfl, ⟨by rw [show isK x = false by first | simp [isK, c_2, c_9] | simp [isK, c_2]]; rfl, rfl, rfl⟩, by rw [ht]; exact hM⟩, hS.F ht⟩) hS.2.2 dX3_mayBeAsked_17
  · skip
    refine lv_iload_n hx hb dX3_mayBeAsked_5 rfl (lv_at hl 0 rfl) ?_
    refine lv_sipush (v := (nI 1000)) hx hb dX3_mayBeAsked_6 (by decide) ?_
    refine lv_icmp_gt (tgt := 16) hx hb dX3_mayBeAsked_9 (by decide) (fun c_9 => ?_) (fun c_9 => ?_)
    · skip
      refine lv_iconst (v := (nI 0)) hx hb dX3_mayBeAsked_16 (by decide) ?_
      exact W.zret hx hb hr rfl (fun t ht hW => ⟨⟨_, _, _, rfl, ⟨by rw [show isK x = false by first | simp [isK, c_2, c_9] | simp [isK, c_2]]; rfl, rfl, rfl⟩, by rw [ht]; exact hM⟩, hS.F ht⟩) hS.2.2 dX3_mayBeAsked_17
    · skip
      refine lv_iconst (v := (nI 1)) hx hb dX3_mayBeAsked_12 (by decide) ?_
      refine lv_goto (tgt := 17) hx hb dX3_mayBeAsked_13 (by decide) ?_
      exact W.zret hx hb hr rfl (fun t ht hW => ⟨⟨_, _, _, rfl, ⟨by rw [show isK x = true by simp [isK, c_2, c_9]]; rfl, rfl, rfl⟩, by rw [ht]; exact hM⟩, hS.F ht⟩) hS.2.2 dX3_mayBeAsked_17

set_option maxHeartbeats 4000000 in
set_option maxRecDepth 100000 in
theorem c_indexOf (l : Launch) {D : va_G} {aC : Nat → ClassId} {lo : Nat} {ad : Nat → Nat} {ct : Nat → Option va_E} (pl q : Nat) (hp : pl < 20) (hq1 : 33 ≤ q) (hq2 : q ≤ 126) : Met l yX2_indexOf (wsO yX2_indexOf cX2_indexOf 2 (some .int)) ({ frames := 1, cells := 0, slots := 0, locals := 20 } : Room) (mPc D vwCl (tyA aC) lo ad ct [.int (nI pl), .int (nI q)]) (mD1 D vwCl lo (.int (nI (pl * 94 + q - 33))) ad ct) 0 0 (fun q => lo ≤ q) := by
  refine Met.ofW (cc := cX2_indexOf) (maxL := 2) (ret := (some .int)) (by decide) rfl ?_
  intro pr en s0 mm args below meth cc0 s₁ B hml hv
  obtain ⟨rfl, hlo, hM, hKK⟩ := hv
  have hK := hKK.1
  have hr := B.returns
  have hts := atoms_spec (ws := (wsO yX2_indexOf cX2_indexOf 2 (some .int))) B.pre
  have F : CallFix pr mm cc0 cX2_indexOf 2 s0 (([.int (nI pl), .int (nI q)] : List Value).toArray) (wsO yX2_indexOf cX2_indexOf 2 (some .int)) RX2 := ⟨B.exec, B.bytes, hml, findClass_of_methodNamed B.named, hts⟩
  have hx := F.1
  have hb := F.2.1
  have hlocks := B.notSynchronized
  have hS : va_S (fun q => lo ≤ q) s0.heap s0.heap [] := va_S.rf
  have hl := lv_entry ([.int (nI pl), .int (nI q)]) (n := 2) (Nat.le_of_ble_eq_true rfl)
  rw [lg_entry_eq]
  generalize (lg_sl ([.int (nI pl), .int (nI q)]) ++ List.replicate (2 - (lg_sl ([.int (nI pl), .int (nI q)])).length) Slot.unset).toArray = ls at hl ⊢
  have hl : lv_has ls 2 [(0, .int (nI pl)), (1, .int (nI q))] := hl
  refine lv_iload_n hx hb dX2_indexOf_0 rfl (lv_at hl 0 rfl) ?_
  refine lv_if_lt (tgt := 17) hx hb dX2_indexOf_1 (by decide) (fun c_1 => ?_) (fun c_1 => ?_)
  · skip
    exact absurd c_1 (nI_pos (by omega))
  · skip
    refine lv_iload_n hx hb dX2_indexOf_4 rfl (lv_at hl 0 rfl) ?_
    refine lv_bipush (v := (nI 20)) hx hb dX2_indexOf_5 (by decide) ?_
    refine m_icmp_ge F (a := pl) (b := 20) (by omega) (by omega) (tgt := 17) dX2_indexOf_7 (by decide) (fun c_7 => ?_) (fun c_7 => ?_)
    · skip
      exact absurd c_7 (by omega)
    · skip
      refine lv_iload_n hx hb dX2_indexOf_10 rfl (lv_at hl 1 rfl) ?_
      refine m_d1 (v := .int (bI (isSg (nI q)))) (ct1 := ct) (va_runSN (As := [.int (nI q)]) (rest := []) F (c_isSign l (nI q)) ⟨va_cnB 1 F.2.2.2.2 (go_O (fun _ h => tb_O h) cdX3_isSign) rfl rfl rfl hKK.2.1 (F.2.2.2.2 _ (tb_O iniX3)) (by decide +kernel) ⟨Nat.le_of_ble_eq_true rfl, Nat.le_of_ble_eq_true rfl⟩, F.2.2.2.2 _ (tb_O stX3_isSign), trivial⟩ (mPreS hKK hM (Nat.le_trans hlo hS.1)) rfl rfl hl.1 rfl (lv_room (Nat.le_of_ble_eq_true rfl)) dX2_indexOf_11 ⟨Nat.le_of_ble_eq_true rfl, Nat.le_of_ble_eq_true rfl⟩) hS (fun H locs hM hS => ?_)
      refine lv_if_ne (tgt := 19) hx hb dX2_indexOf_14 (by decide) (fun c_14 => ?_) (fun c_14 => ?_)
      · skip
        refine lv_iload_n hx hb dX2_indexOf_19 rfl (lv_at hl 0 rfl) ?_
        refine lv_bipush (v := (nI 94)) hx hb dX2_indexOf_20 (by decide) ?_
        refine lv_imul hx hb dX2_indexOf_22 ?_
        refine m_top (pk_mul pl 94) ?_
        refine lv_iload_n hx hb dX2_indexOf_23 rfl (lv_at hl 1 rfl) ?_
        refine lv_iadd hx hb dX2_indexOf_24 ?_
        refine m_top (nI_add (pl * 94) q) ?_
        refine lv_bipush (v := (nI 33)) hx hb dX2_indexOf_25 (by decide) ?_
        refine lv_isub hx hb dX2_indexOf_27 ?_
        refine m_top (y := (nI (pl * 94 + q - 33))) (pk_sub (by omega)) ?_
        exact W.iret hx hb hr (fun t ht hW => ⟨⟨_, _, _, rfl, ⟨rfl, rfl, rfl⟩, by rw [ht]; exact hM⟩, hS.F ht⟩) hS.2.2 dX2_indexOf_28
      · skip
        exact absurd (by rw [isSg_nI hq1 hq2]; decide) (fun h : ¬ bI (isSg (nI q)) = 0 => h c_14)

set_option maxHeartbeats 4000000 in
set_option maxRecDepth 100000 in
theorem c_told (l : Launch) {D : va_G} {aC : Nat → ClassId} {lo : Nat} {ad : Nat → Nat} {ct : Nat → Option va_E} {P : Nat} {co : Nat → Option Nat} (pl q : Nat) (hp : pl < 20) (hq1 : 33 ≤ q) (hq2 : q ≤ 126) (h2 : ct 2 = some (.inr (2, [.ref (ad 3), .ref (ad 4), .int (nI P)]))) (h3 : ct 3 = some (iA aC 1880 (fun j => cV (co j)))) : Met l yX2_told (wsO yX2_told cX2_told 4 (some .int)) ({ frames := 2, cells := 0, slots := 0, locals := 41 } : Room) (mPc D vwCl (tyA aC) lo ad ct [.ref (ad 2), .int (nI pl), .int (nI q)]) (mD1 D vwCl lo (.int (cV (co (pl * 94 + q - 33)))) ad ct) 0 0 (fun q => lo ≤ q) := by
  refine Met.ofW (cc := cX2_told) (maxL := 4) (ret := (some .int)) (by decide) rfl ?_
  intro pr en s0 mm args below meth cc0 s₁ B hml hv
  obtain ⟨rfl, hlo, hM, hKK⟩ := hv
  have hK := hKK.1
  have hr := B.returns
  have hts := atoms_spec (ws := (wsO yX2_told cX2_told 4 (some .int))) B.pre
  have F : CallFix pr mm cc0 cX2_told 4 s0 (([.ref (ad 2), .int (nI pl), .int (nI q)] : List Value).toArray) (wsO yX2_told cX2_told 4 (some .int)) RX2 := ⟨B.exec, B.bytes, hml, findClass_of_methodNamed B.named, hts⟩
  have hx := F.1
  have hb := F.2.1
  have hlocks := B.notSynchronized
  have hS : va_S (fun q => lo ≤ q) s0.heap s0.heap [] := va_S.rf
  have hl := lv_entry ([.ref (ad 2), .int (nI pl), .int (nI q)]) (n := 4) (Nat.le_of_ble_eq_true rfl)
  rw [lg_entry_eq]
  generalize (lg_sl ([.ref (ad 2), .int (nI pl), .int (nI q)]) ++ List.replicate (4 - (lg_sl ([.ref (ad 2), .int (nI pl), .int (nI q)])).length) Slot.unset).toArray = ls at hl ⊢
  have hl : lv_has ls 4 [(0, .ref (ad 2)), (1, .int (nI pl)), (2, .int (nI q))] := hl
  refine lv_iload_n hx hb dX2_told_0 rfl (lv_at hl 1 rfl) ?_
  refine lv_iload_n hx hb dX2_told_1 rfl (lv_at hl 2 rfl) ?_
  refine m_d1 (v := .int (nI (pl * 94 + q - 33))) (ct1 := ct) (va_runS (As := [.int (nI pl), .int (nI q)]) (rest := []) F (c_indexOf l pl q hp hq1 hq2) (va_cwS 2 F.2.2.2.2 (go_S (fun _ h => tb_O h) mlX2_28 stX2_indexOf iniX2 cdX2_indexOf) rfl rfl rfl (by decide +kernel) ⟨Nat.le_of_ble_eq_true rfl, Nat.le_of_ble_eq_true rfl⟩) (mPreS hKK hM (Nat.le_trans hlo hS.1)) rfl rfl hl.1 rfl (lv_room (Nat.le_of_ble_eq_true rfl)) dX2_told_2 ⟨Nat.le_of_ble_eq_true rfl, Nat.le_of_ble_eq_true rfl⟩) hS (fun H locs hM hS => ?_)
  refine lv_istore_n (lv' := [(3, .int (nI (pl * 94 + q - 33))), (0, .ref (ad 2)), (1, .int (nI pl)), (2, .int (nI q))]) hx hb dX2_told_5 rfl hl (by decide) rfl (fun ls hl => ?_)
  refine lv_iload_n hx hb dX2_told_6 rfl (lv_at hl 0 rfl) ?_
  refine lv_if_ge (tgt := 14) hx hb dX2_told_7 (by decide) (fun c_7 => ?_) (fun c_7 => ?_)
  · skip
    refine lv_aload_n hx hb dX2_told_14 rfl (lv_at hl 1 rfl) ?_
    refine m_get F (ci := 2) (v := .ref (ad 3)) (fun w h => tb_O (inX2 w h)) hK hM h2 rfl 0 (by decide) (tb_O lkX2_11) rfl dX2_told_15 ?_
    refine lv_iload_n hx hb dX2_told_18 rfl (lv_at hl 0 rfl) ?_
    refine m_iald F hK hM 0 rfl (j := (pl * 94 + q - 33)) h3 (by omega) (by decide) dX2_told_19 ?_
    refine m_top (y := (cV (co (pl * 94 + q - 33)))) rfl ?_
    exact W.iret hx hb hr (fun t ht hW => ⟨⟨_, _, _, rfl, ⟨rfl, rfl, rfl⟩, by rw [ht]; exact hM⟩, hS.F ht⟩) hS.2.2 dX2_told_20
  · skip
    exact absurd (nI_pos' (by omega)) c_7

set_option maxHeartbeats 4000000 in
set_option maxRecDepth 100000 in
theorem c_costAs (l : Launch) {D : va_G} {aC : Nat → ClassId} {lo : Nat} {ad : Nat → Nat} {ct : Nat → Option va_E} {P : Nat} {co : Nat → Option Nat} (pl q : Nat) (hp : pl < 20) (hq1 : 33 ≤ q) (hq2 : q ≤ 126) (h2 : ct 2 = some (.inr (2, [.ref (ad 3), .ref (ad 4), .int (nI P)]))) (h3 : ct 3 = some (iA aC 1880 (fun j => cV (co j)))) (hco : ∀ k c, co k = some c → c ≤ 1000) : Met l yX2_costAs (wsO yX2_costAs cX2_costAs 4 (some .int)) ({ frames := 3, cells := 0, slots := 0, locals := 64 } : Room) (mPc D vwCl (tyA aC) lo ad ct [.ref (ad 2), .int (nI pl), .int (nI q)]) (mD1 D vwCl lo (.int (nI (wC co pl q))) ad ct) 0 0 (fun q => lo ≤ q) := by
  refine Met.ofW (cc := cX2_costAs) (maxL := 4) (ret := (some .int)) (by decide) rfl ?_
  intro pr en s0 mm args below meth cc0 s₁ B hml hv
  obtain ⟨rfl, hlo, hM, hKK⟩ := hv
  have hK := hKK.1
  have hr := B.returns
  have hts := atoms_spec (ws := (wsO yX2_costAs cX2_costAs 4 (some .int))) B.pre
  have F : CallFix pr mm cc0 cX2_costAs 4 s0 (([.ref (ad 2), .int (nI pl), .int (nI q)] : List Value).toArray) (wsO yX2_costAs cX2_costAs 4 (some .int)) RX2 := ⟨B.exec, B.bytes, hml, findClass_of_methodNamed B.named, hts⟩
  have hx := F.1
  have hb := F.2.1
  have hlocks := B.notSynchronized
  have hS : va_S (fun q => lo ≤ q) s0.heap s0.heap [] := va_S.rf
  have hl := lv_entry ([.ref (ad 2), .int (nI pl), .int (nI q)]) (n := 4) (Nat.le_of_ble_eq_true rfl)
  rw [lg_entry_eq]
  generalize (lg_sl ([.ref (ad 2), .int (nI pl), .int (nI q)]) ++ List.replicate (4 - (lg_sl ([.ref (ad 2), .int (nI pl), .int (nI q)])).length) Slot.unset).toArray = ls at hl ⊢
  have hl : lv_has ls 4 [(0, .ref (ad 2)), (1, .int (nI pl)), (2, .int (nI q))] := hl
  refine lv_aload_n hx hb dX2_costAs_0 rfl (lv_at hl 0 rfl) ?_
  refine lv_iload_n hx hb dX2_costAs_1 rfl (lv_at hl 1 rfl) ?_
  refine lv_iload_n hx hb dX2_costAs_2 rfl (lv_at hl 2 rfl) ?_
  refine m_d1 (v := .int (cV (co (pl * 94 + q - 33)))) (ct1 := ct) (va_runV (As := [.int (nI pl), .int (nI q)]) (rest := []) F (c_told l pl q hp hq1 hq2 h2 h3) (cwV 2 F.2.2.2.2 (go_V (fun _ h => tb_O h) mlX2_45 imX2_told seX2_told iniX2 cdX2_told) rfl rfl rfl (by decide +kernel) ⟨Nat.le_of_ble_eq_true rfl, Nat.le_of_ble_eq_true rfl⟩) (mPreV hKK hM (Nat.le_trans hlo hS.1) h2 rfl) rfl rfl hl.1 rfl (lv_room (Nat.le_of_ble_eq_true rfl)) dX2_costAs_3 ⟨Nat.le_of_ble_eq_true rfl, Nat.le_of_ble_eq_true rfl⟩) hS (fun H locs hM hS => ?_)
  rcases hcx : co (pl * 94 + q - 33) with _ | cx
  · skip
    refine m_top (y := (-1)) rfl ?_
    refine lv_istore_n (lv' := [(3, .int (-1)), (0, .ref (ad 2)), (1, .int (nI pl)), (2, .int (nI q))]) hx hb dX2_costAs_6 rfl hl (by decide) rfl (fun ls hl => ?_)
    refine lv_iload_n hx hb dX2_costAs_7 rfl (lv_at hl 0 rfl) ?_
    refine lv_iconst (v := (-1)) hx hb dX2_costAs_8 (by decide) ?_
    refine lv_icmp_ne (tgt := 17) hx hb dX2_costAs_9 (by decide) (fun c_9 => ?_) (fun c_9 => ?_)
    · skip
      exact absurd rfl c_9
    · skip
      refine lv_bipush (v := (nI 60)) hx hb dX2_costAs_12 (by decide) ?_
      refine lv_goto (tgt := 18) hx hb dX2_costAs_14 (by decide) ?_
      exact W.iret hx hb hr (fun t ht hW => ⟨⟨_, _, _, rfl, ⟨by simp [wC, hcx], rfl, rfl⟩, by rw [ht]; exact hM⟩, hS.F ht⟩) hS.2.2 dX2_costAs_18
  · skip
    refine m_top (y := nI cx) rfl ?_
    refine lv_istore_n (lv' := [(3, .int (nI cx)), (0, .ref (ad 2)), (1, .int (nI pl)), (2, .int (nI q))]) hx hb dX2_costAs_6 rfl hl (by decide) rfl (fun ls hl => ?_)
    refine lv_iload_n hx hb dX2_costAs_7 rfl (lv_at hl 0 rfl) ?_
    refine lv_iconst (v := (-1)) hx hb dX2_costAs_8 (by decide) ?_
    refine lv_icmp_ne (tgt := 17) hx hb dX2_costAs_9 (by decide) (fun c_9 => ?_) (fun c_9 => ?_)
    · skip
      refine lv_iload_n hx hb dX2_costAs_17 rfl (lv_at hl 0 rfl) ?_
      exact W.iret hx hb hr (fun t ht hW => ⟨⟨_, _, _, rfl, ⟨by simp [wC, hcx], rfl, rfl⟩, by rw [ht]; exact hM⟩, hS.F ht⟩) hS.2.2 dX2_costAs_18
    · skip
      exact absurd c_9 (nI_nm1 (by have := hco _ _ hcx; omega))

set_option maxHeartbeats 4000000 in
set_option maxRecDepth 100000 in
theorem c_tell (l : Launch) {D : va_G} {aC : Nat → ClassId} {lo : Nat} {ad : Nat → Nat} {ct : Nat → Option va_E} {P : Nat} {co : Nat → Option Nat} (pl q cs : Nat) (hp : pl < 20) (hq1 : 33 ≤ q) (hq2 : q ≤ 126) (hcs : cs ≤ 1000) (hP : P ≤ 20) (h2 : ct 2 = some (.inr (2, [.ref (ad 3), .ref (ad 4), .int (nI P)]))) (h3 : ct 3 = some (iA aC 1880 (fun j => cV (co j)))) : Met l yX2_tell (wsO yX2_tell cX2_tell 5 none) ({ frames := 2, cells := 0, slots := 0, locals := 41 } : Room) (mPc D vwCl (tyA aC) lo ad ct [.ref (ad 2), .int (nI pl), .int (nI q), .int (nI cs)]) (mD0 D vwCl lo ad (va_up (va_up ct 3 (some (iA aC 1880 (fun j => cV ((va_up co (pl * 94 + q - 33) (some cs)) j))))) 2 (some (.inr (2, [.ref (ad 3), .ref (ad 4), .int (nI (max P (pl + 1)))]))))) 0 0 (fun q => lo ≤ q) := by
  refine Met.ofW (cc := cX2_tell) (maxL := 5) (ret := none) (by decide) rfl ?_
  intro pr en s0 mm args below meth cc0 s₁ B hml hv
  obtain ⟨rfl, hlo, hM, hKK⟩ := hv
  have hK := hKK.1
  have hr := B.returns
  have hts := atoms_spec (ws := (wsO yX2_tell cX2_tell 5 none)) B.pre
  have F : CallFix pr mm cc0 cX2_tell 5 s0 (([.ref (ad 2), .int (nI pl), .int (nI q), .int (nI cs)] : List Value).toArray) (wsO yX2_tell cX2_tell 5 none) RX2 := ⟨B.exec, B.bytes, hml, findClass_of_methodNamed B.named, hts⟩
  have hx := F.1
  have hb := F.2.1
  have hlocks := B.notSynchronized
  have hS : va_S (fun q => lo ≤ q) s0.heap s0.heap [] := va_S.rf
  have hl := lv_entry ([.ref (ad 2), .int (nI pl), .int (nI q), .int (nI cs)]) (n := 5) (Nat.le_of_ble_eq_true rfl)
  rw [lg_entry_eq]
  generalize (lg_sl ([.ref (ad 2), .int (nI pl), .int (nI q), .int (nI cs)]) ++ List.replicate (5 - (lg_sl ([.ref (ad 2), .int (nI pl), .int (nI q), .int (nI cs)])).length) Slot.unset).toArray = ls at hl ⊢
  have hl : lv_has ls 5 [(0, .ref (ad 2)), (1, .int (nI pl)), (2, .int (nI q)), (3, .int (nI cs))] := hl
  refine lv_iload_n hx hb dX2_tell_0 rfl (lv_at hl 1 rfl) ?_
  refine lv_iload_n hx hb dX2_tell_1 rfl (lv_at hl 2 rfl) ?_
  refine m_d1 (v := .int (nI (pl * 94 + q - 33))) (ct1 := ct) (va_runS (As := [.int (nI pl), .int (nI q)]) (rest := []) F (c_indexOf l pl q hp hq1 hq2) (va_cwS 2 F.2.2.2.2 (go_S (fun _ h => tb_O h) mlX2_28 stX2_indexOf iniX2 cdX2_indexOf) rfl rfl rfl (by decide +kernel) ⟨Nat.le_of_ble_eq_true rfl, Nat.le_of_ble_eq_true rfl⟩) (mPreS hKK hM (Nat.le_trans hlo hS.1)) rfl rfl hl.1 rfl (lv_room (Nat.le_of_ble_eq_true rfl)) dX2_tell_2 ⟨Nat.le_of_ble_eq_true rfl, Nat.le_of_ble_eq_true rfl⟩) hS (fun H locs hM hS => ?_)
  refine lv_istore (lv' := [(4, .int (nI (pl * 94 + q - 33))), (0, .ref (ad 2)), (1, .int (nI pl)), (2, .int (nI q)), (3, .int (nI cs))]) hx hb dX2_tell_5 hl (by decide) rfl (fun ls hl => ?_)
  refine lv_iload hx hb dX2_tell_7 (lv_at hl 0 rfl) ?_
  refine lv_if_ge (tgt := 13) hx hb dX2_tell_9 (by decide) (fun c_9 => ?_) (fun c_9 => ?_)
  · skip
    refine lv_aload_n hx hb dX2_tell_13 rfl (lv_at hl 1 rfl) ?_
    refine m_get F (ci := 2) (v := .ref (ad 3)) (fun w h => tb_O (inX2 w h)) hK hM h2 rfl 0 (by decide) (tb_O lkX2_11) rfl dX2_tell_14 ?_
    refine lv_iload hx hb dX2_tell_17 (lv_at hl 0 rfl) ?_
    refine lv_iload_n hx hb dX2_tell_19 rfl (lv_at hl 4 rfl) ?_
    refine m_iast F hK hM hS 0 rfl (j := (pl * 94 + q - 33)) (x := (nI cs)) h3 (by omega) (by decide) dX2_tell_20 (fun H locs hM hS => ?_)
    have hM : mw D vwCl lo ad (va_up ct 3 (some (.inl (aC 0, 1880, .inl (upd (fun j => cV (co j)) (pl * 94 + q - 33) (nI cs)))))) H := hM
    have hM : mw D vwCl lo ad (va_up ct 3 (some (iA aC 1880 (fun j => cV ((va_up co (pl * 94 + q - 33) (some cs)) j))))) H := by rw [upd_cV] at hM; exact hM
    refine lv_aload_n hx hb dX2_tell_21 rfl (lv_at hl 1 rfl) ?_
    refine lv_aload_n hx hb dX2_tell_22 rfl (lv_at hl 1 rfl) ?_
    refine m_get F (ci := 2) (v := .int (nI P)) (fun w h => tb_O (inX2 w h)) hK hM ((va_up_ne _ _ (by decide)).trans h2) rfl 2 (by decide) (tb_O lkX2_24) rfl dX2_tell_23 ?_
    refine lv_iload_n hx hb dX2_tell_26 rfl (lv_at hl 2 rfl) ?_
    refine lv_iconst (v := (nI 1)) hx hb dX2_tell_27 (by decide) ?_
    refine lv_iadd hx hb dX2_tell_28 ?_
    refine m_top (nI_add pl 1) ?_
    refine va_mmax hx hb (F.2.2.1.trans hl.1.symm) F.2.2.2.1 (F.2.2.2.2 _ (tb_O mlX2_32)) (F.2.2.2.2 _ (tb_O st_max)) (F.2.2.2.2 _ (tb_O iniMath)) (F.2.2.2.2 _ (tb_O cd_max)) (Nat.le_of_ble_eq_true rfl) (Nat.le_of_ble_eq_true rfl) (Nat.le_of_ble_eq_true rfl) (Nat.le_of_ble_eq_true rfl) dX2_tell_29 ?_
    refine m_top (y := (nI (max P (pl + 1)))) (mx_nI (by omega) (by omega)) ?_
    refine m_put F (ci := 2) (v := .int (nI (max P (pl + 1)))) (fun w h => tb_O (inX2 w h)) mc_X2 hK hM hS ((va_up_ne _ _ (by decide)).trans h2) 2 (by decide) (tb_O lkX2_24) rfl rfl rfl (Nat.le_of_ble_eq_true rfl) dX2_tell_32 (fun H locs hM hS => ?_)
    have hM : mw D vwCl lo ad (va_up (va_up ct 3 (some (iA aC 1880 (fun j => cV ((va_up co (pl * 94 + q - 33) (some cs)) j))))) 2 (some (.inr (2, [.ref (ad 3), .ref (ad 4), .int (nI (max P (pl + 1)))])))) H := hM
    exact W.vret hx hb hr (fun t ht hW => ⟨⟨_, _, rfl, ⟨rfl, rfl⟩, by rw [ht]; exact hM⟩, hS.F ht⟩) hS.2.2 dX2_tell_35
  · skip
    exact absurd (nI_pos' (by omega)) c_9
end
section
set_option maxHeartbeats 4000000 in
set_option maxRecDepth 100000 in
theorem c_spells (l : Launch) {D : va_G} {aC : Nat → ClassId} {lo : Nat} {ad : Nat → Nat} {ct : Nat → Option va_E} {P : Nat} {co : Nat → Option Nat} {ke ks len : Nat} {gb db lv : Int32} {sv : Value} {g : Nat → Nat} (h2 : ct 2 = some (.inr (2, [.ref (ad 3), .ref (ad 4), .int (nI P)]))) (h3 : ct 3 = some (iA aC 1880 (fun j => cV (co j)))) (he : ct ke = some (.inr (0, [.ref (ad ks), .int (nI len), .int gb, .int db, sv, .int lv]))) (hg : ct ks = some (iA aC 20 (fun j => nI (g j)))) (hsg : ∀ j, j < len → 33 ≤ g j ∧ g j ≤ 126) (hlen : len ≤ 20) (hP : P ≤ 20) (hco : ∀ k c, co k = some c → c ≤ 1000) : Met l yX2_spells (wsO yX2_spells cX2_spells 3 (some .boolean)) ({ frames := 3, cells := 0, slots := 0, locals := 64 } : Room) (mPc D vwCl (tyA aC) lo ad ct [.ref (ad 2), .ref (ad ke)]) (mD1 D vwCl lo (.int (bI (decide (len = P) && spl co g P))) ad ct) 0 0 (fun q => lo ≤ q) := by
  refine Met.ofW (cc := cX2_spells) (maxL := 3) (ret := (some .boolean)) (by decide) rfl ?_
  intro pr en s0 mm args below meth cc0 s₁ B hml hv
  obtain ⟨rfl, hlo, hM, hKK⟩ := hv
  have hK := hKK.1
  have hr := B.returns
  have hts := atoms_spec (ws := (wsO yX2_spells cX2_spells 3 (some .boolean))) B.pre
  have F : CallFix pr mm cc0 cX2_spells 3 s0 (([.ref (ad 2), .ref (ad ke)] : List Value).toArray) (wsO yX2_spells cX2_spells 3 (some .boolean)) RX2 := ⟨B.exec, B.bytes, hml, findClass_of_methodNamed B.named, hts⟩
  have hx := F.1
  have hb := F.2.1
  have hlocks := B.notSynchronized
  have hS : va_S (fun q => lo ≤ q) s0.heap s0.heap [] := va_S.rf
  have hl := lv_entry ([.ref (ad 2), .ref (ad ke)]) (n := 3) (Nat.le_of_ble_eq_true rfl)
  rw [lg_entry_eq]
  generalize (lg_sl ([.ref (ad 2), .ref (ad ke)]) ++ List.replicate (3 - (lg_sl ([.ref (ad 2), .ref (ad ke)])).length) Slot.unset).toArray = ls at hl ⊢
  have hl : lv_has ls 3 [(0, .ref (ad 2)), (1, .ref (ad ke))] := hl
  have loop_15 : ∀ (fu : Nat) (i : Nat), (i ≤ P) → (len = P) → (spl co g i = true) → P + 1 - i ≤ fu → ∀ (H : Heap) (locs : List Loc) (ls : Array Slot), mw D vwCl lo ad ct H → va_S (fun q => lo ≤ q) s0.heap H locs → lv_has ls 3 [(0, .ref (ad 2)), (1, .ref (ad ke)), (2, .int (nI i))] → W pr l en (headSpec (wsO yX2_spells cX2_spells 3 (some .boolean)) ({ frames := 3, cells := 0, slots := 0, locals := 64 } : Room)).room s0 mm (([.ref (ad 2), .ref (ad ke)] : List Value).toArray) below meth cc0 H locs 0 0 (MQ below (mD1 D vwCl lo (.int (bI (decide (len = P) && spl co g P))) ad ct) (([.ref (ad 2), .ref (ad ke)] : List Value).toArray) s0 0 0 (fun q => lo ≤ q)) (F0 mm 15 ls []) := by
    intro fu
    induction fu with
    | zero =>
      intro i hi hle hsp hfu H locs ls hM hS hl
      exact absurd hfu (by omega)
    | succ fu ih_15 =>
      intro i hi hle hsp hfu H locs ls hM hS hl
      refine lv_iload_n hx hb dX2_spells_15 rfl (lv_at hl 2 rfl) ?_
      refine lv_aload_n hx hb dX2_spells_16 rfl (lv_at hl 0 rfl) ?_
      refine m_get F (ci := 2) (v := .int (nI P)) (fun w h => tb_O (inX2 w h)) hK hM h2 rfl 2 (by decide) (tb_O lkX2_24) rfl dX2_spells_17 ?_
      refine m_icmp_ge F (a := i) (b := P) (by omega) (by omega) (tgt := 46) dX2_spells_20 (by decide) (fun c_20 => ?_) (fun c_20 => ?_)
      · skip
        have hiP : P = i := by omega
        subst hiP
        refine lv_iconst (v := (nI 1)) hx hb dX2_spells_46 (by decide) ?_
        exact W.zret hx hb hr rfl (fun t ht hW => ⟨⟨_, _, _, rfl, ⟨by rw [hsp, decide_eq_true hle]; rfl, rfl, rfl⟩, by rw [ht]; exact hM⟩, hS.F ht⟩) hS.2.2 dX2_spells_47
      · skip
        refine lv_aload_n hx hb dX2_spells_23 rfl (lv_at hl 0 rfl) ?_
        refine lv_iload_n hx hb dX2_spells_24 rfl (lv_at hl 2 rfl) ?_
        refine lv_aload_n hx hb dX2_spells_25 rfl (lv_at hl 1 rfl) ?_
        refine m_get F (ci := 0) (v := .ref (ad ks)) (fun w h => tb_O (inX0 w h)) hK hM he rfl 0 (by decide) (tb_O lkX2_42) rfl dX2_spells_26 ?_
        refine lv_iload_n hx hb dX2_spells_29 rfl (lv_at hl 2 rfl) ?_
        refine m_iald F hK hM 0 rfl (j := i) hg (by omega) (by decide) dX2_spells_30 ?_
        refine m_top (y := (nI (g i))) rfl ?_
        refine m_d1 (v := .int (cV (co (i * 94 + g i - 33)))) (ct1 := ct) (va_runV (As := [.int (nI i), .int (nI (g i))]) (rest := []) F (c_told l i (g i) (by omega) (hsg i (by omega)).1 (hsg i (by omega)).2 h2 h3) (cwV 2 F.2.2.2.2 (go_V (fun _ h => tb_O h) mlX2_45 imX2_told seX2_told iniX2 cdX2_told) rfl rfl rfl (by decide +kernel) ⟨Nat.le_of_ble_eq_true rfl, Nat.le_of_ble_eq_true rfl⟩) (mPreV hKK hM (Nat.le_trans hlo hS.1) h2 rfl) rfl rfl hl.1 rfl (lv_room (Nat.le_of_ble_eq_true rfl)) dX2_spells_31 ⟨Nat.le_of_ble_eq_true rfl, Nat.le_of_ble_eq_true rfl⟩) hS (fun H locs hM hS => ?_)
        rcases hcx : co (i * 94 + g i - 33) with _ | cx
        · skip
          refine m_top (y := (-1)) rfl ?_
          refine lv_iconst (v := (-1)) hx hb dX2_spells_34 (by decide) ?_
          refine lv_icmp_ne (tgt := 40) hx hb dX2_spells_35 (by decide) (fun c_35 => ?_) (fun c_35 => ?_)
          · skip
            exact absurd rfl c_35
          · skip
            refine lv_iconst (v := (nI 0)) hx hb dX2_spells_38 (by decide) ?_
            exact W.zret hx hb hr rfl (fun t ht hW => ⟨⟨_, _, _, rfl, ⟨by rw [spl_no hcx c_20, Bool.and_false]; rfl, rfl, rfl⟩, by rw [ht]; exact hM⟩, hS.F ht⟩) hS.2.2 dX2_spells_39
        · skip
          refine m_top (y := nI cx) rfl ?_
          refine lv_iconst (v := (-1)) hx hb dX2_spells_34 (by decide) ?_
          refine lv_icmp_ne (tgt := 40) hx hb dX2_spells_35 (by decide) (fun c_35 => ?_) (fun c_35 => ?_)
          · skip
            refine lv_iinc (v := (nI (i + 1))) (lv' := [(2, .int (nI (i + 1))), (0, .ref (ad 2)), (1, .ref (ad ke))]) hx hb dX2_spells_40 hl (k := 2) rfl (nI_1 i) (by decide) rfl (fun ls hl => ?_)
            refine lv_goto (tgt := 15) hx hb dX2_spells_43 (by decide) ?_
            exact ih_15 (i + 1) (by omega) hle (by show (spl co g i && _) = true; rw [hsp, hcx]; rfl) (by omega) _ _ _ hM hS (lv_sub hl [1, 2, 0] rfl)
          · skip
            exact absurd c_35 (nI_nm1 (by have := hco _ _ hcx; omega))
  refine lv_aload_n hx hb dX2_spells_0 rfl (lv_at hl 1 rfl) ?_
  refine m_get F (ci := 0) (v := .int (nI len)) (fun w h => tb_O (inX0 w h)) hK hM he rfl 1 (by decide) (tb_O lkX2_37) rfl dX2_spells_1 ?_
  refine lv_aload_n hx hb dX2_spells_4 rfl (lv_at hl 0 rfl) ?_
  refine m_get F (ci := 2) (v := .int (nI P)) (fun w h => tb_O (inX2 w h)) hK hM h2 rfl 2 (by decide) (tb_O lkX2_24) rfl dX2_spells_5 ?_
  refine m_icmp_eq F (a := len) (b := P) (by omega) (by omega) (tgt := 13) dX2_spells_8 (by decide) (fun c_8 => ?_) (fun c_8 => ?_)
  · skip
    refine lv_iconst (v := (nI 0)) hx hb dX2_spells_13 (by decide) ?_
    refine lv_istore_n (lv' := [(2, .int (nI 0)), (0, .ref (ad 2)), (1, .ref (ad ke))]) hx hb dX2_spells_14 rfl hl (by decide) rfl (fun ls hl => ?_)
    exact loop_15 (P + 1) 0 (Nat.zero_le _) c_8 rfl (by omega) _ _ _ hM hS (lv_sub hl [1, 2, 0] rfl)
  · skip
    refine lv_iconst (v := (nI 0)) hx hb dX2_spells_11 (by decide) ?_
    exact W.zret hx hb hr rfl (fun t ht hW => ⟨⟨_, _, _, rfl, ⟨by rw [show decide (len = P) = false from decide_eq_false c_8]; rfl, rfl, rfl⟩, by rw [ht]; exact hM⟩, hS.F ht⟩) hS.2.2 dX2_spells_12

set_option maxHeartbeats 4000000 in
set_option maxRecDepth 100000 in
theorem c_addSign (l : Launch) {D : va_G} {aC : Nat → ClassId} {lo : Nat} {ad : Nat → Nat} {ct : Nat → Option va_E} {P : Nat} {co : Nat → Option Nat} {lc : Nat → Nat} (q : Nat) (hq1 : 33 ≤ q) (hq2 : q ≤ 126) (h2 : ct 2 = some (.inr (2, [.ref (ad 3), .ref (ad 4), .int (nI P)]))) (h3 : ct 3 = some (iA aC 1880 (fun j => cV (co j)))) (h4 : ct 4 = some (iA aC 21 (fun j => nI (lc j)))) (hP : P ≤ 20) (hco : ∀ k c, co k = some c → c ≤ 1000) (hlc : ∀ j, j ≤ P → lc j ≤ 100000) : Met l yX2_addSign (wsO yX2_addSign cX2_addSign 7 none) ({ frames := 4, cells := 0, slots := 0, locals := 87 } : Room) (mPc D vwCl (tyA aC) lo ad ct [.ref (ad 2), .int (nI q)]) (mD0 D vwCl lo ad (va_up ct 4 (some (iA aC 21 (fun j => nI ((adS lc (fun pl => wC co pl q) P) j)))))) 0 0 (fun q => lo ≤ q) := by
  refine Met.ofW (cc := cX2_addSign) (maxL := 7) (ret := none) (by decide) rfl ?_
  intro pr en s0 mm args below meth cc0 s₁ B hml hv
  obtain ⟨rfl, hlo, hM, hKK⟩ := hv
  have hK := hKK.1
  have hr := B.returns
  have hts := atoms_spec (ws := (wsO yX2_addSign cX2_addSign 7 none)) B.pre
  have F : CallFix pr mm cc0 cX2_addSign 7 s0 (([.ref (ad 2), .int (nI q)] : List Value).toArray) (wsO yX2_addSign cX2_addSign 7 none) RX2 := ⟨B.exec, B.bytes, hml, findClass_of_methodNamed B.named, hts⟩
  have hx := F.1
  have hb := F.2.1
  have hlocks := B.notSynchronized
  have hS : va_S (fun q => lo ≤ q) s0.heap s0.heap [] := va_S.rf
  have hl := lv_entry ([.ref (ad 2), .int (nI q)]) (n := 7) (Nat.le_of_ble_eq_true rfl)
  rw [lg_entry_eq]
  generalize (lg_sl ([.ref (ad 2), .int (nI q)]) ++ List.replicate (7 - (lg_sl ([.ref (ad 2), .int (nI q)])).length) Slot.unset).toArray = ls at hl ⊢
  have hl : lv_has ls 7 [(0, .ref (ad 2)), (1, .int (nI q))] := hl
  have loop_19 : ∀ (fu : Nat) (i : Nat), (i ≤ P) → P + 1 - i ≤ fu → ∀ (H : Heap) (locs : List Loc) (ls : Array Slot), mw D vwCl lo ad (va_up ct 4 (some (iA aC 21 (fun j => nI ((adS lc (fun pl => wC co pl q) i) j))))) H → va_S (fun q => lo ≤ q) s0.heap H locs → lv_has ls 7 [(0, .ref (ad 2)), (1, .int (nI q)), (2, .int (nI (lc i))), (3, .int (nI i))] → W pr l en (headSpec (wsO yX2_addSign cX2_addSign 7 none) ({ frames := 4, cells := 0, slots := 0, locals := 87 } : Room)).room s0 mm (([.ref (ad 2), .int (nI q)] : List Value).toArray) below meth cc0 H locs 0 0 (MQ below (mD0 D vwCl lo ad (va_up ct 4 (some (iA aC 21 (fun j => nI ((adS lc (fun pl => wC co pl q) P) j)))))) (([.ref (ad 2), .int (nI q)] : List Value).toArray) s0 0 0 (fun q => lo ≤ q)) (F0 mm 19 ls []) := by
    intro fu
    induction fu with
    | zero =>
      intro i hi hfu H locs ls hM hS hl
      exact absurd hfu (by omega)
    | succ fu ih_19 =>
      intro i hi hfu H locs ls hM hS hl
      have hdi : dpS lc (fun pl => wC co pl q) i ≤ lc i + 30 := dpS_le lc (fun pl => wC co pl q) i
      have hli := hlc i hi
      have hw : wC co i q ≤ 1000 := wC_le hco i q
      refine lv_iload_n hx hb dX2_addSign_19 rfl (lv_at hl 3 rfl) ?_
      refine lv_aload_n hx hb dX2_addSign_20 rfl (lv_at hl 0 rfl) ?_
      refine m_get F (ci := 2) (v := .int (nI P)) (fun w h => tb_O (inX2 w h)) hK hM ((va_up_ne _ _ (by decide)).trans h2) rfl 2 (by decide) (tb_O lkX2_24) rfl dX2_addSign_21 ?_
      refine m_icmp_ge F (a := i) (b := P) (by omega) (by omega) (tgt := 96) dX2_addSign_24 (by decide) (fun c_24 => ?_) (fun c_24 => ?_)
      · skip
        have hiP : P = i := by omega
        subst hiP
        exact W.vret hx hb hr (fun t ht hW => ⟨⟨_, _, rfl, ⟨rfl, rfl⟩, by rw [ht]; exact hM⟩, hS.F ht⟩) hS.2.2 dX2_addSign_96
      · skip
        have hli1 := hlc (i + 1) (by omega)
        have hdx : adS lc (fun pl => wC co pl q) i (i + 1) = lc (i + 1) := adS_nx
        have hdy : adS lc (fun pl => wC co pl q) i i = dpS lc (fun pl => wC co pl q) i := adS_at
        refine lv_iload_n hx hb dX2_addSign_27 rfl (lv_at hl 2 rfl) ?_
        refine lv_aload_n hx hb dX2_addSign_28 rfl (lv_at hl 0 rfl) ?_
        refine lv_iload_n hx hb dX2_addSign_29 rfl (lv_at hl 3 rfl) ?_
        refine lv_iload_n hx hb dX2_addSign_30 rfl (lv_at hl 1 rfl) ?_
        refine m_d1 (v := .int (nI (wC co i q))) (ct1 := va_up ct 4 (some (iA aC 21 (fun j => nI ((adS lc (fun pl => wC co pl q) i) j))))) (va_runV (As := [.int (nI i), .int (nI q)]) (rest := [.int (nI (lc i))]) F (c_costAs l i q (by omega) hq1 hq2 ((va_up_ne _ _ (by decide)).trans h2) ((va_up_ne _ _ (by decide)).trans h3) hco) (cwV 2 F.2.2.2.2 (go_V (fun _ h => tb_O h) mlX2_52 imX2_costAs seX2_costAs iniX2 cdX2_costAs) rfl rfl rfl (by decide +kernel) ⟨Nat.le_of_ble_eq_true rfl, Nat.le_of_ble_eq_true rfl⟩) (mPreV hKK hM (Nat.le_trans hlo hS.1) ((va_up_ne _ _ (by decide)).trans h2) rfl) rfl rfl hl.1 rfl (lv_room (Nat.le_of_ble_eq_true rfl)) dX2_addSign_31 ⟨Nat.le_of_ble_eq_true rfl, Nat.le_of_ble_eq_true rfl⟩) hS (fun H locs hM hS => ?_)
        refine lv_iadd hx hb dX2_addSign_34 ?_
        refine m_top (nI_add (lc i) (wC co i q)) ?_
        refine lv_istore (lv' := [(4, .int (nI (lc i + (wC co i q)))), (0, .ref (ad 2)), (1, .int (nI q)), (2, .int (nI (lc i))), (3, .int (nI i))]) hx hb dX2_addSign_35 hl (by decide) rfl (fun ls hl => ?_)
        refine lv_aload_n hx hb dX2_addSign_37 rfl (lv_at hl 1 rfl) ?_
        refine m_get F (ci := 2) (v := .ref (ad 4)) (fun w h => tb_O (inX2 w h)) hK hM ((va_up_ne _ _ (by decide)).trans h2) rfl 1 (by decide) (tb_O lkX2_21) rfl dX2_addSign_38 ?_
        refine lv_iload_n hx hb dX2_addSign_41 rfl (lv_at hl 4 rfl) ?_
        refine lv_iconst (v := (nI 1)) hx hb dX2_addSign_42 (by decide) ?_
        refine lv_iadd hx hb dX2_addSign_43 ?_
        refine m_top (nI_add i 1) ?_
        refine m_iald F hK hM 0 rfl (j := (i + 1)) (va_up_self _ _ _) (by omega) (by decide) dX2_addSign_44 ?_
        refine m_top (y := (nI (lc (i + 1)))) (congrArg nI hdx) ?_
        refine lv_bipush (v := (nI 30)) hx hb dX2_addSign_45 (by decide) ?_
        refine lv_iadd hx hb dX2_addSign_47 ?_
        refine m_top (nI_add (lc (i + 1)) 30) ?_
        refine lv_istore (lv' := [(5, .int (nI (lc (i + 1) + 30))), (4, .int (nI (lc i + (wC co i q)))), (0, .ref (ad 2)), (1, .int (nI q)), (2, .int (nI (lc i))), (3, .int (nI i))]) hx hb dX2_addSign_48 hl (by decide) rfl (fun ls hl => ?_)
        refine lv_aload_n hx hb dX2_addSign_50 rfl (lv_at hl 2 rfl) ?_
        refine m_get F (ci := 2) (v := .ref (ad 4)) (fun w h => tb_O (inX2 w h)) hK hM ((va_up_ne _ _ (by decide)).trans h2) rfl 1 (by decide) (tb_O lkX2_21) rfl dX2_addSign_51 ?_
        refine lv_iload_n hx hb dX2_addSign_54 rfl (lv_at hl 5 rfl) ?_
        refine m_iald F hK hM 0 rfl (j := i) (va_up_self _ _ _) (by omega) (by decide) dX2_addSign_55 ?_
        refine m_top (y := (nI (dpS lc (fun pl => wC co pl q) i))) (congrArg nI hdy) ?_
        refine lv_bipush (v := (nI 25)) hx hb dX2_addSign_56 (by decide) ?_
        refine lv_iadd hx hb dX2_addSign_58 ?_
        refine m_top (nI_add (dpS lc (fun pl => wC co pl q) i) 25) ?_
        refine lv_istore (lv' := [(6, .int (nI (dpS lc (fun pl => wC co pl q) i + 25))), (5, .int (nI (lc (i + 1) + 30))), (4, .int (nI (lc i + (wC co i q)))), (0, .ref (ad 2)), (1, .int (nI q)), (2, .int (nI (lc i))), (3, .int (nI i))]) hx hb dX2_addSign_59 hl (by decide) rfl (fun ls hl => ?_)
        refine lv_aload_n hx hb dX2_addSign_61 rfl (lv_at hl 3 rfl) ?_
        refine m_get F (ci := 2) (v := .ref (ad 4)) (fun w h => tb_O (inX2 w h)) hK hM ((va_up_ne _ _ (by decide)).trans h2) rfl 1 (by decide) (tb_O lkX2_21) rfl dX2_addSign_62 ?_
        refine lv_iload_n hx hb dX2_addSign_65 rfl (lv_at hl 6 rfl) ?_
        refine lv_iconst (v := (nI 1)) hx hb dX2_addSign_66 (by decide) ?_
        refine lv_iadd hx hb dX2_addSign_67 ?_
        refine m_top (nI_add i 1) ?_
        refine m_iald F hK hM 0 rfl (j := (i + 1)) (va_up_self _ _ _) (by omega) (by decide) dX2_addSign_68 ?_
        refine m_top (y := (nI (lc (i + 1)))) (congrArg nI hdx) ?_
        refine lv_istore_n (lv' := [(2, .int (nI (lc (i + 1)))), (6, .int (nI (dpS lc (fun pl => wC co pl q) i + 25))), (5, .int (nI (lc (i + 1) + 30))), (4, .int (nI (lc i + (wC co i q)))), (0, .ref (ad 2)), (1, .int (nI q)), (3, .int (nI i))]) hx hb dX2_addSign_69 rfl hl (by decide) rfl (fun ls hl => ?_)
        refine lv_aload_n hx hb dX2_addSign_70 rfl (lv_at hl 4 rfl) ?_
        refine m_get F (ci := 2) (v := .ref (ad 4)) (fun w h => tb_O (inX2 w h)) hK hM ((va_up_ne _ _ (by decide)).trans h2) rfl 1 (by decide) (tb_O lkX2_21) rfl dX2_addSign_71 ?_
        refine lv_iload_n hx hb dX2_addSign_74 rfl (lv_at hl 6 rfl) ?_
        refine lv_iconst (v := (nI 1)) hx hb dX2_addSign_75 (by decide) ?_
        refine lv_iadd hx hb dX2_addSign_76 ?_
        refine m_top (nI_add i 1) ?_
        refine lv_iload hx hb dX2_addSign_77 (lv_at hl 3 rfl) ?_
        refine lv_iload hx hb dX2_addSign_79 (lv_at hl 2 rfl) ?_
        refine lv_iload hx hb dX2_addSign_81 (lv_at hl 1 rfl) ?_
        refine va_mmin hx hb (F.2.2.1.trans hl.1.symm) F.2.2.2.1 (F.2.2.2.2 _ (tb_O mlX2_55)) (F.2.2.2.2 _ (tb_O st_min)) (F.2.2.2.2 _ (tb_O iniMath)) (F.2.2.2.2 _ (tb_O cd_min)) (Nat.le_of_ble_eq_true rfl) (Nat.le_of_ble_eq_true rfl) (Nat.le_of_ble_eq_true rfl) (Nat.le_of_ble_eq_true rfl) dX2_addSign_83 ?_
        refine m_top (y := (nI (min (lc (i + 1) + 30) (dpS lc (fun pl => wC co pl q) i + 25)))) (mn_nI (by omega) (by omega)) ?_
        refine va_mmin hx hb (F.2.2.1.trans hl.1.symm) F.2.2.2.1 (F.2.2.2.2 _ (tb_O mlX2_55)) (F.2.2.2.2 _ (tb_O st_min)) (F.2.2.2.2 _ (tb_O iniMath)) (F.2.2.2.2 _ (tb_O cd_min)) (Nat.le_of_ble_eq_true rfl) (Nat.le_of_ble_eq_true rfl) (Nat.le_of_ble_eq_true rfl) (Nat.le_of_ble_eq_true rfl) dX2_addSign_86 ?_
        refine m_top (y := (nI (min (lc i + wC co i q) (min (lc (i + 1) + 30) (dpS lc (fun pl => wC co pl q) i + 25))))) (mn_nI (by omega) (by omega)) ?_
        refine m_iast F hK hM hS 0 rfl (j := (i + 1)) (x := (nI (min (lc i + wC co i q) (min (lc (i + 1) + 30) (dpS lc (fun pl => wC co pl q) i + 25))))) (va_up_self _ _ _) (by omega) (by decide) dX2_addSign_89 (fun H locs hM hS => ?_)
        have hM : mw D vwCl lo ad (va_up (va_up ct 4 (some (iA aC 21 (fun j => nI ((adS lc (fun pl => wC co pl q) i) j))))) 4 (some (.inl (aC 0, 21, .inl (upd (fun j => nI ((adS lc (fun pl => wC co pl q) i) j)) (i + 1) (nI (min (lc i + wC co i q) (min (lc (i + 1) + 30) (dpS lc (fun pl => wC co pl q) i + 25))))))))) H := hM
        have hM : mw D vwCl lo ad (va_up ct 4 (some (iA aC 21 (fun j => nI ((adS lc (fun pl => wC co pl q) (i + 1)) j))))) H := by rw [upd_nI, bx_uu, adS_s rfl] at hM; exact hM
        refine lv_iinc (v := (nI (i + 1))) (lv' := [(3, .int (nI (i + 1))), (2, .int (nI (lc (i + 1)))), (6, .int (nI (dpS lc (fun pl => wC co pl q) i + 25))), (5, .int (nI (lc (i + 1) + 30))), (4, .int (nI (lc i + (wC co i q)))), (0, .ref (ad 2)), (1, .int (nI q))]) hx hb dX2_addSign_90 hl (k := 6) rfl (nI_1 i) (by decide) rfl (fun ls hl => ?_)
        refine lv_goto (tgt := 19) hx hb dX2_addSign_93 (by decide) ?_
        exact ih_19 (i + 1) (by omega) (by omega) _ _ _ hM hS (lv_sub hl [5, 6, 1, 0] rfl)
  refine lv_aload_n hx hb dX2_addSign_0 rfl (lv_at hl 0 rfl) ?_
  refine m_get F (ci := 2) (v := .ref (ad 4)) (fun w h => tb_O (inX2 w h)) hK hM h2 rfl 1 (by decide) (tb_O lkX2_21) rfl dX2_addSign_1 ?_
  refine lv_iconst (v := (nI 0)) hx hb dX2_addSign_4 (by decide) ?_
  refine m_iald F hK hM 0 rfl (j := 0) h4 (by omega) (by decide) dX2_addSign_5 ?_
  refine m_top (y := (nI (lc 0))) rfl ?_
  refine lv_istore_n (lv' := [(2, .int (nI (lc 0))), (0, .ref (ad 2)), (1, .int (nI q))]) hx hb dX2_addSign_6 rfl hl (by decide) rfl (fun ls hl => ?_)
  refine lv_aload_n hx hb dX2_addSign_7 rfl (lv_at hl 1 rfl) ?_
  refine m_get F (ci := 2) (v := .ref (ad 4)) (fun w h => tb_O (inX2 w h)) hK hM h2 rfl 1 (by decide) (tb_O lkX2_21) rfl dX2_addSign_8 ?_
  refine lv_iconst (v := (nI 0)) hx hb dX2_addSign_11 (by decide) ?_
  refine lv_iload_n hx hb dX2_addSign_12 rfl (lv_at hl 0 rfl) ?_
  refine lv_bipush (v := (nI 30)) hx hb dX2_addSign_13 (by decide) ?_
  refine lv_iadd hx hb dX2_addSign_15 ?_
  refine m_top (nI_add (lc 0) 30) ?_
  refine m_iast F hK hM hS 0 rfl (j := 0) (x := (nI (lc 0 + 30))) h4 (by omega) (by decide) dX2_addSign_16 (fun H locs hM hS => ?_)
  have hM : mw D vwCl lo ad (va_up ct 4 (some (.inl (aC 0, 21, .inl (upd (fun j => nI (lc j)) 0 (nI (lc 0 + 30))))))) H := hM
  have hM : mw D vwCl lo ad (va_up ct 4 (some (iA aC 21 (fun j => nI ((adS lc (fun pl => wC co pl q) 0) j))))) H := by rw [upd_nI, adS_0 (w := (fun pl => wC co pl q))] at hM; exact hM
  refine lv_iconst (v := (nI 0)) hx hb dX2_addSign_17 (by decide) ?_
  refine lv_istore_n (lv' := [(3, .int (nI 0)), (2, .int (nI (lc 0))), (0, .ref (ad 2)), (1, .int (nI q))]) hx hb dX2_addSign_18 rfl hl (by decide) rfl (fun ls hl => ?_)
  exact loop_19 (P + 1) 0 (Nat.zero_le _) (by omega) _ _ _ hM hS (lv_sub hl [2, 3, 1, 0] rfl)

set_option maxHeartbeats 4000000 in
set_option maxRecDepth 100000 in
theorem c_leastCostOf (l : Launch) {D : va_G} {aC : Nat → ClassId} {lo : Nat} {ad : Nat → Nat} {ct : Nat → Option va_E} {P : Nat} {co : Nat → Option Nat} {lc : Nat → Nat} {ke ks len : Nat} {gb db lv : Int32} {sv : Value} {g : Nat → Nat} (h2 : ct 2 = some (.inr (2, [.ref (ad 3), .ref (ad 4), .int (nI P)]))) (h3 : ct 3 = some (iA aC 1880 (fun j => cV (co j)))) (h4 : ct 4 = some (iA aC 21 (fun j => nI (lc j)))) (he : ct ke = some (.inr (0, [.ref (ad ks), .int (nI len), .int gb, .int db, sv, .int lv]))) (hg : ct ks = some (iA aC 20 (fun j => nI (g j)))) (hke : ke ≠ 4) (hks : ks ≠ 4) (hsg : ∀ j, j < len → 33 ≤ g j ∧ g j ≤ 126) (hlen : len ≤ 20) (hP : P ≤ 20) (hco : ∀ k c, co k = some c → c ≤ 1000) : Met l yX2_leastCostOf (wsO yX2_leastCostOf cX2_leastCostOf 3 (some .int)) ({ frames := 5, cells := 0, slots := 0, locals := 113 } : Room) (mPc D vwCl (tyA aC) lo ad ct [.ref (ad 2), .ref (ad ke)]) (mD1 D vwCl lo (.int (nI (lcR P co g lc len P))) ad (va_up ct 4 (some (iA aC 21 (fun j => nI ((lcR P co g lc len) j)))))) 0 0 (fun q => lo ≤ q) := by
  refine Met.ofW (cc := cX2_leastCostOf) (maxL := 3) (ret := (some .int)) (by decide) rfl ?_
  intro pr en s0 mm args below meth cc0 s₁ B hml hv
  obtain ⟨rfl, hlo, hM, hKK⟩ := hv
  have hK := hKK.1
  have hr := B.returns
  have hts := atoms_spec (ws := (wsO yX2_leastCostOf cX2_leastCostOf 3 (some .int))) B.pre
  have F : CallFix pr mm cc0 cX2_leastCostOf 3 s0 (([.ref (ad 2), .ref (ad ke)] : List Value).toArray) (wsO yX2_leastCostOf cX2_leastCostOf 3 (some .int)) RX2 := ⟨B.exec, B.bytes, hml, findClass_of_methodNamed B.named, hts⟩
  have hx := F.1
  have hb := F.2.1
  have hlocks := B.notSynchronized
  have hS : va_S (fun q => lo ≤ q) s0.heap s0.heap [] := va_S.rf
  have hl := lv_entry ([.ref (ad 2), .ref (ad ke)]) (n := 3) (Nat.le_of_ble_eq_true rfl)
  rw [lg_entry_eq]
  generalize (lg_sl ([.ref (ad 2), .ref (ad ke)]) ++ List.replicate (3 - (lg_sl ([.ref (ad 2), .ref (ad ke)])).length) Slot.unset).toArray = ls at hl ⊢
  have hl : lv_has ls 3 [(0, .ref (ad 2)), (1, .ref (ad ke))] := hl
  have loop_28 : ∀ (fu : Nat) (i : Nat), (i ≤ len) → len + 1 - i ≤ fu → ∀ (H : Heap) (locs : List Loc) (ls : Array Slot), mw D vwCl lo ad (va_up ct 4 (some (iA aC 21 (fun j => nI ((lcR P co g lc i) j))))) H → va_S (fun q => lo ≤ q) s0.heap H locs → lv_has ls 3 [(0, .ref (ad 2)), (1, .ref (ad ke)), (2, .int (nI i))] → W pr l en (headSpec (wsO yX2_leastCostOf cX2_leastCostOf 3 (some .int)) ({ frames := 5, cells := 0, slots := 0, locals := 113 } : Room)).room s0 mm (([.ref (ad 2), .ref (ad ke)] : List Value).toArray) below meth cc0 H locs 0 0 (MQ below (mD1 D vwCl lo (.int (nI (lcR P co g lc len P))) ad (va_up ct 4 (some (iA aC 21 (fun j => nI ((lcR P co g lc len) j)))))) (([.ref (ad 2), .ref (ad ke)] : List Value).toArray) s0 0 0 (fun q => lo ≤ q)) (F0 mm 28 ls []) := by
    intro fu
    induction fu with
    | zero =>
      intro i hi hfu H locs ls hM hS hl
      exact absurd hfu (by omega)
    | succ fu ih_28 =>
      intro i hi hfu H locs ls hM hS hl
      refine lv_iload_n hx hb dX2_leastCostOf_28 rfl (lv_at hl 2 rfl) ?_
      refine lv_aload_n hx hb dX2_leastCostOf_29 rfl (lv_at hl 1 rfl) ?_
      refine m_get F (ci := 0) (v := .int (nI len)) (fun w h => tb_O (inX0 w h)) hK hM ((va_up_ne _ _ hke).trans he) rfl 1 (by decide) (tb_O lkX2_37) rfl dX2_leastCostOf_30 ?_
      refine m_icmp_ge F (a := i) (b := len) (by omega) (by omega) (tgt := 52) dX2_leastCostOf_33 (by decide) (fun c_33 => ?_) (fun c_33 => ?_)
      · skip
        have hiP : len = i := by omega
        subst hiP
        refine lv_aload_n hx hb dX2_leastCostOf_52 rfl (lv_at hl 0 rfl) ?_
        refine m_get F (ci := 2) (v := .ref (ad 4)) (fun w h => tb_O (inX2 w h)) hK hM ((va_up_ne _ _ (by decide)).trans h2) rfl 1 (by decide) (tb_O lkX2_21) rfl dX2_leastCostOf_53 ?_
        refine lv_aload_n hx hb dX2_leastCostOf_56 rfl (lv_at hl 0 rfl) ?_
        refine m_get F (ci := 2) (v := .int (nI P)) (fun w h => tb_O (inX2 w h)) hK hM ((va_up_ne _ _ (by decide)).trans h2) rfl 2 (by decide) (tb_O lkX2_24) rfl dX2_leastCostOf_57 ?_
        refine m_iald F hK hM 0 rfl (j := P) (va_up_self _ _ _) (by omega) (by decide) dX2_leastCostOf_60 ?_
        refine m_top (y := (nI (lcR P co g lc len P))) rfl ?_
        exact W.iret hx hb hr (fun t ht hW => ⟨⟨_, _, _, rfl, ⟨rfl, rfl, rfl⟩, by rw [ht]; exact hM⟩, hS.F ht⟩) hS.2.2 dX2_leastCostOf_61
      · skip
        refine lv_aload_n hx hb dX2_leastCostOf_36 rfl (lv_at hl 0 rfl) ?_
        refine lv_aload_n hx hb dX2_leastCostOf_37 rfl (lv_at hl 1 rfl) ?_
        refine m_get F (ci := 0) (v := .ref (ad ks)) (fun w h => tb_O (inX0 w h)) hK hM ((va_up_ne _ _ hke).trans he) rfl 0 (by decide) (tb_O lkX2_42) rfl dX2_leastCostOf_38 ?_
        refine lv_iload_n hx hb dX2_leastCostOf_41 rfl (lv_at hl 2 rfl) ?_
        refine m_iald F hK hM 0 rfl (j := i) ((va_up_ne _ _ hks).trans hg) (by omega) (by decide) dX2_leastCostOf_42 ?_
        refine m_top (y := (nI (g i))) rfl ?_
        refine m_d0 (ct1 := va_up (va_up ct 4 (some (iA aC 21 (fun j => nI ((lcR P co g lc i) j))))) 4 (some (iA aC 21 (fun j => nI (adS (lcR P co g lc i) (fun pl => wC co pl (g i)) P j))))) (va_runV (As := [.int (nI (g i))]) (rest := []) F (c_addSign l (g i) (hsg i (by omega)).1 (hsg i (by omega)).2 ((va_up_ne _ _ (by decide)).trans h2) ((va_up_ne _ _ (by decide)).trans h3) (va_up_self _ _ _) hP hco (fun j hj => by have := lcR_le (P := P) (co := co) (g := g) (c := lc) i j hj; omega)) (cwV 1 F.2.2.2.2 (go_V (fun _ h => tb_O h) mlX2_48 imX2_addSign seX2_addSign iniX2 cdX2_addSign) rfl rfl rfl (by decide +kernel) ⟨Nat.le_of_ble_eq_true rfl, Nat.le_of_ble_eq_true rfl⟩) (mPreV hKK hM (Nat.le_trans hlo hS.1) ((va_up_ne _ _ (by decide)).trans h2) rfl) rfl rfl hl.1 rfl (lv_room (Nat.le_of_ble_eq_true rfl)) dX2_leastCostOf_43 ⟨Nat.le_of_ble_eq_true rfl, Nat.le_of_ble_eq_true rfl⟩) hS (fun H locs hM hS => ?_)
        have hM : mw D vwCl lo ad (va_up ct 4 (some (iA aC 21 (fun j => nI ((lcR P co g lc (i + 1)) j))))) H := by rw [bx_uu] at hM; exact hM
        refine lv_iinc (v := (nI (i + 1))) (lv' := [(2, .int (nI (i + 1))), (0, .ref (ad 2)), (1, .ref (ad ke))]) hx hb dX2_leastCostOf_46 hl (k := 2) rfl (nI_1 i) (by decide) rfl (fun ls hl => ?_)
        refine lv_goto (tgt := 28) hx hb dX2_leastCostOf_49 (by decide) ?_
        exact ih_28 (i + 1) (by omega) (by omega) _ _ _ hM hS (lv_sub hl [1, 2, 0] rfl)
  have loop_2 : ∀ (fu : Nat) (i : Nat), (i ≤ P + 1) → P + 2 - i ≤ fu → ∀ (H : Heap) (locs : List Loc) (ls : Array Slot), mw D vwCl lo ad (va_up ct 4 (some (iA aC 21 (fun j => nI ((lc0 lc i) j))))) H → va_S (fun q => lo ≤ q) s0.heap H locs → lv_has ls 3 [(0, .ref (ad 2)), (1, .ref (ad ke)), (2, .int (nI i))] → W pr l en (headSpec (wsO yX2_leastCostOf cX2_leastCostOf 3 (some .int)) ({ frames := 5, cells := 0, slots := 0, locals := 113 } : Room)).room s0 mm (([.ref (ad 2), .ref (ad ke)] : List Value).toArray) below meth cc0 H locs 0 0 (MQ below (mD1 D vwCl lo (.int (nI (lcR P co g lc len P))) ad (va_up ct 4 (some (iA aC 21 (fun j => nI ((lcR P co g lc len) j)))))) (([.ref (ad 2), .ref (ad ke)] : List Value).toArray) s0 0 0 (fun q => lo ≤ q)) (F0 mm 2 ls []) := by
    intro fu
    induction fu with
    | zero =>
      intro i hi hfu H locs ls hM hS hl
      exact absurd hfu (by omega)
    | succ fu ih_2 =>
      intro i hi hfu H locs ls hM hS hl
      refine lv_iload_n hx hb dX2_leastCostOf_2 rfl (lv_at hl 2 rfl) ?_
      refine lv_aload_n hx hb dX2_leastCostOf_3 rfl (lv_at hl 0 rfl) ?_
      refine m_get F (ci := 2) (v := .int (nI P)) (fun w h => tb_O (inX2 w h)) hK hM ((va_up_ne _ _ (by decide)).trans h2) rfl 2 (by decide) (tb_O lkX2_24) rfl dX2_leastCostOf_4 ?_
      refine m_icmp_gt F (a := i) (b := P) (by omega) (by omega) (tgt := 26) dX2_leastCostOf_7 (by decide) (fun c_7 => ?_) (fun c_7 => ?_)
      · skip
        have hiP : i = P + 1 := by omega
        subst hiP
        refine lv_iconst (v := (nI 0)) hx hb dX2_leastCostOf_26 (by decide) ?_
        refine lv_istore_n (lv' := [(2, .int (nI 0)), (0, .ref (ad 2)), (1, .ref (ad ke))]) hx hb dX2_leastCostOf_27 rfl hl (by decide) rfl (fun ls hl => ?_)
        exact loop_28 (len + 1) 0 (Nat.zero_le _) (by omega) _ _ _ hM hS (lv_sub hl [1, 2, 0] rfl)
      · skip
        refine lv_aload_n hx hb dX2_leastCostOf_10 rfl (lv_at hl 0 rfl) ?_
        refine m_get F (ci := 2) (v := .ref (ad 4)) (fun w h => tb_O (inX2 w h)) hK hM ((va_up_ne _ _ (by decide)).trans h2) rfl 1 (by decide) (tb_O lkX2_21) rfl dX2_leastCostOf_11 ?_
        refine lv_iload_n hx hb dX2_leastCostOf_14 rfl (lv_at hl 2 rfl) ?_
        refine lv_iload_n hx hb dX2_leastCostOf_15 rfl (lv_at hl 2 rfl) ?_
        refine lv_bipush (v := (nI 25)) hx hb dX2_leastCostOf_16 (by decide) ?_
        refine lv_imul hx hb dX2_leastCostOf_18 ?_
        refine m_top (pk_mul i 25) ?_
        refine m_iast F hK hM hS 0 rfl (j := i) (x := (nI (i * 25))) (va_up_self _ _ _) (by omega) (by decide) dX2_leastCostOf_19 (fun H locs hM hS => ?_)
        have hM : mw D vwCl lo ad (va_up (va_up ct 4 (some (iA aC 21 (fun j => nI ((lc0 lc i) j))))) 4 (some (.inl (aC 0, 21, .inl (upd (fun j => nI ((lc0 lc i) j)) i (nI (i * 25))))))) H := hM
        have hM : mw D vwCl lo ad (va_up ct 4 (some (iA aC 21 (fun j => nI ((lc0 lc (i + 1)) j))))) H := by rw [upd_nI, bx_uu, lc0_s] at hM; exact hM
        refine lv_iinc (v := (nI (i + 1))) (lv' := [(2, .int (nI (i + 1))), (0, .ref (ad 2)), (1, .ref (ad ke))]) hx hb dX2_leastCostOf_20 hl (k := 2) rfl (nI_1 i) (by decide) rfl (fun ls hl => ?_)
        refine lv_goto (tgt := 2) hx hb dX2_leastCostOf_23 (by decide) ?_
        exact ih_2 (i + 1) (by omega) (by omega) _ _ _ hM hS (lv_sub hl [1, 2, 0] rfl)
  have hM : mw D vwCl lo ad (va_up ct 4 (some (iA aC 21 (fun j => nI (lc0 lc 0 j))))) s0.heap := hM.eq (fun k => by
    rw [lc0_0]
    by_cases hk : k = 4
    · subst hk; rw [va_up_self]; exact h4
    · rw [va_up_ne _ _ hk])
  refine lv_iconst (v := (nI 0)) hx hb dX2_leastCostOf_0 (by decide) ?_
  refine lv_istore_n (lv' := [(2, .int (nI 0)), (0, .ref (ad 2)), (1, .ref (ad ke))]) hx hb dX2_leastCostOf_1 rfl hl (by decide) rfl (fun ls hl => ?_)
  exact loop_2 (P + 2) 0 (Nat.zero_le _) (by omega) _ _ _ hM hS (lv_sub hl [1, 2, 0] rfl)
end
section
set_option maxHeartbeats 4000000 in
set_option maxRecDepth 100000 in
theorem c_hforget (l : Launch) {D : va_G} {aC : Nat → ClassId} {lo : Nat} {ad : Nat → Nat} {ct : Nat → Option va_E} {hc : Nat} (h5 : ct 5 = some (.inr (1, [.ref (ad 6), .ref (ad 7), .int (nI hc)]))) : Met l yX1_forget (wsO yX1_forget cX1_forget 1 none) ({ frames := 0, cells := 0, slots := 0, locals := 0 } : Room) (mPc D vwCl (tyA aC) lo ad ct [.ref (ad 5)]) (mD0 D vwCl lo ad (va_up ct 5 (some (.inr (1, [.ref (ad 6), .ref (ad 7), .int (nI 0)]))))) 0 0 (fun q => lo ≤ q) := by
  refine Met.ofW (cc := cX1_forget) (maxL := 1) (ret := none) (by decide) rfl ?_
  intro pr en s0 mm args below meth cc0 s₁ B hml hv
  obtain ⟨rfl, hlo, hM, hKK⟩ := hv
  have hK := hKK.1
  have hr := B.returns
  have hts := atoms_spec (ws := (wsO yX1_forget cX1_forget 1 none)) B.pre
  have F : CallFix pr mm cc0 cX1_forget 1 s0 (([.ref (ad 5)] : List Value).toArray) (wsO yX1_forget cX1_forget 1 none) RX1 := ⟨B.exec, B.bytes, hml, findClass_of_methodNamed B.named, hts⟩
  have hx := F.1
  have hb := F.2.1
  have hlocks := B.notSynchronized
  have hS : va_S (fun q => lo ≤ q) s0.heap s0.heap [] := va_S.rf
  have hl := lv_entry ([.ref (ad 5)]) (n := 1) (Nat.le_of_ble_eq_true rfl)
  rw [lg_entry_eq]
  generalize (lg_sl ([.ref (ad 5)]) ++ List.replicate (1 - (lg_sl ([.ref (ad 5)])).length) Slot.unset).toArray = ls at hl ⊢
  have hl : lv_has ls 1 [(0, .ref (ad 5))] := hl
  refine lv_aload_n hx hb dX1_forget_0 rfl (lv_at hl 0 rfl) ?_
  refine lv_iconst (v := (nI 0)) hx hb dX1_forget_1 (by decide) ?_
  refine m_put F (ci := 1) (v := .int (nI 0)) (fun w h => tb_O (inX1 w h)) mc_X1 hK hM hS h5 2 (by decide) (tb_O lkX1_18) rfl rfl rfl (Nat.le_of_ble_eq_true rfl) dX1_forget_2 (fun H locs hM hS => ?_)
  have hM : mw D vwCl lo ad (va_up ct 5 (some (.inr (1, [.ref (ad 6), .ref (ad 7), .int (nI 0)])))) H := hM
  exact W.vret hx hb hr (fun t ht hW => ⟨⟨_, _, rfl, ⟨rfl, rfl⟩, by rw [ht]; exact hM⟩, hS.F ht⟩) hS.2.2 dX1_forget_5

set_option maxHeartbeats 4000000 in
set_option maxRecDepth 100000 in
theorem c_has (l : Launch) {D : va_G} {aC : Nat → ClassId} {lo : Nat} {ad : Nat → Nat} {ct : Nat → Option va_E} {hc : Nat} {hn : Nat → Nat} (x : Int32) (hh : hc ≤ 200) (h5 : ct 5 = some (.inr (1, [.ref (ad 6), .ref (ad 7), .int (nI hc)]))) (h6 : ct 6 = some (iA aC 200 (fun j => nI (hn j)))) : Met l yX1_has (wsO yX1_has cX1_has 2 (some .boolean)) ({ frames := 0, cells := 0, slots := 0, locals := 0 } : Room) (mPc D vwCl (tyA aC) lo ad ct [.ref (ad 5), .int x]) (mD1 D vwCl lo (.int (bI (hasB hc x))) ad ct) 0 0 (fun q => lo ≤ q) := by
  refine Met.ofW (cc := cX1_has) (maxL := 2) (ret := (some .boolean)) (by decide) rfl ?_
  intro pr en s0 mm args below meth cc0 s₁ B hml hv
  obtain ⟨rfl, hlo, hM, hKK⟩ := hv
  have hK := hKK.1
  have hr := B.returns
  have hts := atoms_spec (ws := (wsO yX1_has cX1_has 2 (some .boolean))) B.pre
  have F : CallFix pr mm cc0 cX1_has 2 s0 (([.ref (ad 5), .int x] : List Value).toArray) (wsO yX1_has cX1_has 2 (some .boolean)) RX1 := ⟨B.exec, B.bytes, hml, findClass_of_methodNamed B.named, hts⟩
  have hx := F.1
  have hb := F.2.1
  have hlocks := B.notSynchronized
  have hS : va_S (fun q => lo ≤ q) s0.heap s0.heap [] := va_S.rf
  have hl := lv_entry ([.ref (ad 5), .int x]) (n := 2) (Nat.le_of_ble_eq_true rfl)
  rw [lg_entry_eq]
  generalize (lg_sl ([.ref (ad 5), .int x]) ++ List.replicate (2 - (lg_sl ([.ref (ad 5), .int x])).length) Slot.unset).toArray = ls at hl ⊢
  have hl : lv_has ls 2 [(0, .ref (ad 5)), (1, .int x)] := hl
  refine lv_iload_n hx hb dX1_has_0 rfl (lv_at hl 1 rfl) ?_
  refine lv_if_lt (tgt := 25) hx hb dX1_has_1 (by decide) (fun c_1 => ?_) (fun c_1 => ?_)
  · skip
    refine lv_iconst (v := (nI 0)) hx hb dX1_has_25 (by decide) ?_
    exact W.zret hx hb hr rfl (fun t ht hW => ⟨⟨_, _, _, rfl, ⟨by rw [show hasB hc x = false by first | simp [hasB, c_1, c_9] | simp [hasB, c_1]]; rfl, rfl, rfl⟩, by rw [ht]; exact hM⟩, hS.F ht⟩) hS.2.2 dX1_has_26
  · skip
    refine lv_iload_n hx hb dX1_has_4 rfl (lv_at hl 1 rfl) ?_
    refine lv_aload_n hx hb dX1_has_5 rfl (lv_at hl 0 rfl) ?_
    refine m_get F (ci := 1) (v := .int (nI hc)) (fun w h => tb_O (inX1 w h)) hK hM h5 rfl 2 (by decide) (tb_O lkX1_18) rfl dX1_has_6 ?_
    refine lv_icmp_ge (tgt := 25) hx hb dX1_has_9 (by decide) (fun c_9 => ?_) (fun c_9 => ?_)
    · skip
      refine lv_iconst (v := (nI 0)) hx hb dX1_has_25 (by decide) ?_
      exact W.zret hx hb hr rfl (fun t ht hW => ⟨⟨_, _, _, rfl, ⟨by rw [show hasB hc x = false by first | simp [hasB, c_1, c_9] | simp [hasB, c_1]]; rfl, rfl, rfl⟩, by rw [ht]; exact hM⟩, hS.F ht⟩) hS.2.2 dX1_has_26
    · skip
      refine lv_iload_n hx hb dX1_has_12 rfl (lv_at hl 1 rfl) ?_
      refine lv_aload_n hx hb dX1_has_13 rfl (lv_at hl 0 rfl) ?_
      refine m_get F (ci := 1) (v := .ref (ad 6)) (fun w h => tb_O (inX1 w h)) hK hM h5 rfl 0 (by decide) (tb_O lkX1_9) rfl dX1_has_14 ?_
      refine m_alen F hK hM 0 rfl h6 dX1_has_17 ?_
      refine lv_icmp_ge (tgt := 25) hx hb dX1_has_18 (by decide) (fun c_18 => ?_) (fun c_18 => ?_)
      · skip
        exact absurd (Int32.le_trans (nI_le hh (by omega)) c_18) c_9
      · skip
        refine lv_iconst (v := (nI 1)) hx hb dX1_has_21 (by decide) ?_
        refine lv_goto (tgt := 26) hx hb dX1_has_22 (by decide) ?_
        exact W.zret hx hb hr rfl (fun t ht hW => ⟨⟨_, _, _, rfl, ⟨by rw [show hasB hc x = true by simp [hasB, c_1, c_9]]; rfl, rfl, rfl⟩, by rw [ht]; exact hM⟩, hS.F ht⟩) hS.2.2 dX1_has_26

set_option maxHeartbeats 4000000 in
set_option maxRecDepth 100000 in
theorem c_addLast (l : Launch) {D : va_G} {aC : Nat → ClassId} {lo : Nat} {ad : Nat → Nat} {ct : Nat → Option va_E} {hc : Nat} {hn hs : Nat → Nat} (a b : Nat) (hh : hc < 200) (h5 : ct 5 = some (.inr (1, [.ref (ad 6), .ref (ad 7), .int (nI hc)]))) (h6 : ct 6 = some (iA aC 200 (fun j => nI (hn j)))) (h7 : ct 7 = some (iA aC 200 (fun j => nI (hs j)))) : Met l yX1_addLast (wsO yX1_addLast cX1_addLast 3 none) ({ frames := 0, cells := 0, slots := 0, locals := 0 } : Room) (mPc D vwCl (tyA aC) lo ad ct [.ref (ad 5), .int (nI a), .int (nI b)]) (mD0 D vwCl lo ad (va_up (va_up (va_up ct 6 (some (iA aC 200 (fun j => nI ((un hn hc a) j))))) 7 (some (iA aC 200 (fun j => nI ((un hs hc b) j))))) 5 (some (.inr (1, [.ref (ad 6), .ref (ad 7), .int (nI (hc + 1))]))))) 0 0 (fun q => lo ≤ q) := by
  refine Met.ofW (cc := cX1_addLast) (maxL := 3) (ret := none) (by decide) rfl ?_
  intro pr en s0 mm args below meth cc0 s₁ B hml hv
  obtain ⟨rfl, hlo, hM, hKK⟩ := hv
  have hK := hKK.1
  have hr := B.returns
  have hts := atoms_spec (ws := (wsO yX1_addLast cX1_addLast 3 none)) B.pre
  have F : CallFix pr mm cc0 cX1_addLast 3 s0 (([.ref (ad 5), .int (nI a), .int (nI b)] : List Value).toArray) (wsO yX1_addLast cX1_addLast 3 none) RX1 := ⟨B.exec, B.bytes, hml, findClass_of_methodNamed B.named, hts⟩
  have hx := F.1
  have hb := F.2.1
  have hlocks := B.notSynchronized
  have hS : va_S (fun q => lo ≤ q) s0.heap s0.heap [] := va_S.rf
  have hl := lv_entry ([.ref (ad 5), .int (nI a), .int (nI b)]) (n := 3) (Nat.le_of_ble_eq_true rfl)
  rw [lg_entry_eq]
  generalize (lg_sl ([.ref (ad 5), .int (nI a), .int (nI b)]) ++ List.replicate (3 - (lg_sl ([.ref (ad 5), .int (nI a), .int (nI b)])).length) Slot.unset).toArray = ls at hl ⊢
  have hl : lv_has ls 3 [(0, .ref (ad 5)), (1, .int (nI a)), (2, .int (nI b))] := hl
  refine lv_aload_n hx hb dX1_addLast_0 rfl (lv_at hl 0 rfl) ?_
  refine m_get F (ci := 1) (v := .int (nI hc)) (fun w h => tb_O (inX1 w h)) hK hM h5 rfl 2 (by decide) (tb_O lkX1_18) rfl dX1_addLast_1 ?_
  refine lv_aload_n hx hb dX1_addLast_4 rfl (lv_at hl 0 rfl) ?_
  refine m_get F (ci := 1) (v := .ref (ad 6)) (fun w h => tb_O (inX1 w h)) hK hM h5 rfl 0 (by decide) (tb_O lkX1_9) rfl dX1_addLast_5 ?_
  refine m_alen F hK hM 0 rfl h6 dX1_addLast_8 ?_
  refine m_icmp_ge F (a := hc) (b := 200) (by omega) (by omega) (tgt := 42) dX1_addLast_9 (by decide) (fun c_9 => ?_) (fun c_9 => ?_)
  · skip
    exact absurd c_9 (by omega)
  · skip
    refine lv_aload_n hx hb dX1_addLast_12 rfl (lv_at hl 0 rfl) ?_
    refine m_get F (ci := 1) (v := .ref (ad 6)) (fun w h => tb_O (inX1 w h)) hK hM h5 rfl 0 (by decide) (tb_O lkX1_9) rfl dX1_addLast_13 ?_
    refine lv_aload_n hx hb dX1_addLast_16 rfl (lv_at hl 0 rfl) ?_
    refine m_get F (ci := 1) (v := .int (nI hc)) (fun w h => tb_O (inX1 w h)) hK hM h5 rfl 2 (by decide) (tb_O lkX1_18) rfl dX1_addLast_17 ?_
    refine lv_iload_n hx hb dX1_addLast_20 rfl (lv_at hl 1 rfl) ?_
    refine m_iast F hK hM hS 0 rfl (j := hc) (x := (nI a)) h6 (by omega) (by decide) dX1_addLast_21 (fun H locs hM hS => ?_)
    have hM : mw D vwCl lo ad (va_up ct 6 (some (.inl (aC 0, 200, .inl (upd (fun j => nI (hn j)) hc (nI a)))))) H := hM
    have hM : mw D vwCl lo ad (va_up ct 6 (some (iA aC 200 (fun j => nI ((un hn hc a) j))))) H := by rw [upd_nI] at hM; exact hM
    refine lv_aload_n hx hb dX1_addLast_22 rfl (lv_at hl 0 rfl) ?_
    refine m_get F (ci := 1) (v := .ref (ad 7)) (fun w h => tb_O (inX1 w h)) hK hM ((va_up_ne _ _ (by decide)).trans h5) rfl 1 (by decide) (tb_O lkX1_15) rfl dX1_addLast_23 ?_
    refine lv_aload_n hx hb dX1_addLast_26 rfl (lv_at hl 0 rfl) ?_
    refine m_get F (ci := 1) (v := .int (nI hc)) (fun w h => tb_O (inX1 w h)) hK hM ((va_up_ne _ _ (by decide)).trans h5) rfl 2 (by decide) (tb_O lkX1_18) rfl dX1_addLast_27 ?_
    refine lv_iload_n hx hb dX1_addLast_30 rfl (lv_at hl 2 rfl) ?_
    refine m_iast F hK hM hS 0 rfl (j := hc) (x := (nI b)) ((va_up_ne _ _ (by decide)).trans h7) (by omega) (by decide) dX1_addLast_31 (fun H locs hM hS => ?_)
    have hM : mw D vwCl lo ad (va_up (va_up ct 6 (some (iA aC 200 (fun j => nI ((un hn hc a) j))))) 7 (some (.inl (aC 0, 200, .inl (upd (fun j => nI (hs j)) hc (nI b)))))) H := hM
    have hM : mw D vwCl lo ad (va_up (va_up ct 6 (some (iA aC 200 (fun j => nI ((un hn hc a) j))))) 7 (some (iA aC 200 (fun j => nI ((un hs hc b) j))))) H := by rw [upd_nI] at hM; exact hM
    refine lv_aload_n hx hb dX1_addLast_32 rfl (lv_at hl 0 rfl) ?_
    refine lv_dup hx hb dX1_addLast_33 rfl ?_
    refine m_get F (ci := 1) (v := .int (nI hc)) (fun w h => tb_O (inX1 w h)) hK hM ((va_up_ne _ _ (by decide)).trans ((va_up_ne _ _ (by decide)).trans h5)) rfl 2 (by decide) (tb_O lkX1_18) rfl dX1_addLast_34 ?_
    refine lv_iconst (v := (nI 1)) hx hb dX1_addLast_37 (by decide) ?_
    refine lv_iadd hx hb dX1_addLast_38 ?_
    refine m_top (nI_add hc 1) ?_
    refine m_put F (ci := 1) (v := .int (nI (hc + 1))) (fun w h => tb_O (inX1 w h)) mc_X1 hK hM hS ((va_up_ne _ _ (by decide)).trans ((va_up_ne _ _ (by decide)).trans h5)) 2 (by decide) (tb_O lkX1_18) rfl rfl rfl (Nat.le_of_ble_eq_true rfl) dX1_addLast_39 (fun H locs hM hS => ?_)
    have hM : mw D vwCl lo ad (va_up (va_up (va_up ct 6 (some (iA aC 200 (fun j => nI ((un hn hc a) j))))) 7 (some (iA aC 200 (fun j => nI ((un hs hc b) j))))) 5 (some (.inr (1, [.ref (ad 6), .ref (ad 7), .int (nI (hc + 1))])))) H := hM
    exact W.vret hx hb hr (fun t ht hW => ⟨⟨_, _, rfl, ⟨rfl, rfl⟩, by rw [ht]; exact hM⟩, hS.F ht⟩) hS.2.2 dX1_addLast_42

set_option maxHeartbeats 4000000 in
set_option maxRecDepth 100000 in
theorem c_addBySum (l : Launch) {D : va_G} {aC : Nat → ClassId} {lo : Nat} {ad : Nat → Nat} {ct : Nat → Option va_E} {hc : Nat} {hn hs : Nat → Nat} (a b : Nat) (hh : hc < 200) (hb31 : b < 2 ^ 31) (hs31 : ∀ j, hs j < 2 ^ 31) (h5 : ct 5 = some (.inr (1, [.ref (ad 6), .ref (ad 7), .int (nI hc)]))) (h6 : ct 6 = some (iA aC 200 (fun j => nI (hn j)))) (h7 : ct 7 = some (iA aC 200 (fun j => nI (hs j)))) : Met l yX1_addBySum (wsO yX1_addBySum cX1_addBySum 4 none) ({ frames := 0, cells := 0, slots := 0, locals := 0 } : Room) (mPc D vwCl (tyA aC) lo ad ct [.ref (ad 5), .int (nI a), .int (nI b)]) (mD0 D vwCl lo ad (va_up (va_up (va_up ct 6 (some (iA aC 200 (fun j => nI ((insR hn (inP hs b hc) hc a) j))))) 7 (some (iA aC 200 (fun j => nI ((insR hs (inP hs b hc) hc b) j))))) 5 (some (.inr (1, [.ref (ad 6), .ref (ad 7), .int (nI (hc + 1))]))))) 0 0 (fun q => lo ≤ q) := by
  refine Met.ofW (cc := cX1_addBySum) (maxL := 4) (ret := none) (by decide) rfl ?_
  intro pr en s0 mm args below meth cc0 s₁ B hml hv
  obtain ⟨rfl, hlo, hM, hKK⟩ := hv
  have hK := hKK.1
  have hr := B.returns
  have hts := atoms_spec (ws := (wsO yX1_addBySum cX1_addBySum 4 none)) B.pre
  have F : CallFix pr mm cc0 cX1_addBySum 4 s0 (([.ref (ad 5), .int (nI a), .int (nI b)] : List Value).toArray) (wsO yX1_addBySum cX1_addBySum 4 none) RX1 := ⟨B.exec, B.bytes, hml, findClass_of_methodNamed B.named, hts⟩
  have hx := F.1
  have hb := F.2.1
  have hlocks := B.notSynchronized
  have hS : va_S (fun q => lo ≤ q) s0.heap s0.heap [] := va_S.rf
  have hl := lv_entry ([.ref (ad 5), .int (nI a), .int (nI b)]) (n := 4) (Nat.le_of_ble_eq_true rfl)
  rw [lg_entry_eq]
  generalize (lg_sl ([.ref (ad 5), .int (nI a), .int (nI b)]) ++ List.replicate (4 - (lg_sl ([.ref (ad 5), .int (nI a), .int (nI b)])).length) Slot.unset).toArray = ls at hl ⊢
  have hl : lv_has ls 4 [(0, .ref (ad 5)), (1, .int (nI a)), (2, .int (nI b))] := hl
  have loop_18 : ∀ (fu : Nat) (i : Nat), (i ≤ hc) → (inP hs b hc = inP hs b i) → i + 1 ≤ fu → ∀ (H : Heap) (locs : List Loc) (ls : Array Slot), mw D vwCl lo ad (va_up (va_up ct 6 (some (iA aC 200 (fun j => nI ((shf hn i hc) j))))) 7 (some (iA aC 200 (fun j => nI ((shf hs i hc) j))))) H → va_S (fun q => lo ≤ q) s0.heap H locs → lv_has ls 4 [(0, .ref (ad 5)), (1, .int (nI a)), (2, .int (nI b)), (3, .int (nI i))] → W pr l en (headSpec (wsO yX1_addBySum cX1_addBySum 4 none) ({ frames := 0, cells := 0, slots := 0, locals := 0 } : Room)).room s0 mm (([.ref (ad 5), .int (nI a), .int (nI b)] : List Value).toArray) below meth cc0 H locs 0 0 (MQ below (mD0 D vwCl lo ad (va_up (va_up (va_up ct 6 (some (iA aC 200 (fun j => nI ((insR hn (inP hs b hc) hc a) j))))) 7 (some (iA aC 200 (fun j => nI ((insR hs (inP hs b hc) hc b) j))))) 5 (some (.inr (1, [.ref (ad 6), .ref (ad 7), .int (nI (hc + 1))]))))) (([.ref (ad 5), .int (nI a), .int (nI b)] : List Value).toArray) s0 0 0 (fun q => lo ≤ q)) (F0 mm 18 ls []) := by
    intro fu
    induction fu with
    | zero =>
      intro i hi hin hfu H locs ls hM hS hl
      exact absurd hfu (by omega)
    | succ fu ih_18 =>
      intro i hi hin hfu H locs ls hM hS hl
      refine lv_iload_n hx hb dX1_addBySum_18 rfl (lv_at hl 3 rfl) ?_
      refine lv_if_le (tgt := 68) hx hb dX1_addBySum_19 (by decide) (fun c_19 => ?_) (fun c_19 => ?_)
      · skip
        have hi0 : i = 0 := Nat.eq_zero_of_not_pos (fun q => nI_nle q (by omega) c_19)
        have hpos : inP hs b hc = i := by rw [hin, hi0]; rfl
        refine lv_aload_n hx hb dX1_addBySum_68 rfl (lv_at hl 0 rfl) ?_
        refine m_get F (ci := 1) (v := .ref (ad 6)) (fun w h => tb_O (inX1 w h)) hK hM ((va_up_ne _ _ (by decide)).trans ((va_up_ne _ _ (by decide)).trans h5)) rfl 0 (by decide) (tb_O lkX1_9) rfl dX1_addBySum_69 ?_
        refine lv_iload_n hx hb dX1_addBySum_72 rfl (lv_at hl 3 rfl) ?_
        refine lv_iload_n hx hb dX1_addBySum_73 rfl (lv_at hl 1 rfl) ?_
        refine m_iast F hK hM hS 0 rfl (j := i) (x := (nI a)) ((va_up_ne _ _ (by decide)).trans (va_up_self _ _ _)) (by omega) (by decide) dX1_addBySum_74 (fun H locs hM hS => ?_)
        have hM : mw D vwCl lo ad (va_up (va_up (va_up ct 6 (some (iA aC 200 (fun j => nI ((shf hn i hc) j))))) 7 (some (iA aC 200 (fun j => nI ((shf hs i hc) j))))) 6 (some (.inl (aC 0, 200, .inl (upd (fun j => nI ((shf hn i hc) j)) i (nI a)))))) H := hM
        have hM : mw D vwCl lo ad (va_up (va_up ct 6 (some (iA aC 200 (fun j => nI ((insR hn (i) hc a) j))))) 7 (some (iA aC 200 (fun j => nI ((shf hs (i) hc) j))))) H := by rw [upd_nI, va_up_c76] at hM; exact hM
        refine lv_aload_n hx hb dX1_addBySum_75 rfl (lv_at hl 0 rfl) ?_
        refine m_get F (ci := 1) (v := .ref (ad 7)) (fun w h => tb_O (inX1 w h)) hK hM ((va_up_ne _ _ (by decide)).trans ((va_up_ne _ _ (by decide)).trans h5)) rfl 1 (by decide) (tb_O lkX1_15) rfl dX1_addBySum_76 ?_
        refine lv_iload_n hx hb dX1_addBySum_79 rfl (lv_at hl 3 rfl) ?_
        refine lv_iload_n hx hb dX1_addBySum_80 rfl (lv_at hl 2 rfl) ?_
        refine m_iast F hK hM hS 0 rfl (j := i) (x := (nI b)) (va_up_self _ _ _) (by omega) (by decide) dX1_addBySum_81 (fun H locs hM hS => ?_)
        have hM : mw D vwCl lo ad (va_up (va_up (va_up ct 6 (some (iA aC 200 (fun j => nI ((insR hn (i) hc a) j))))) 7 (some (iA aC 200 (fun j => nI ((shf hs (i) hc) j))))) 7 (some (.inl (aC 0, 200, .inl (upd (fun j => nI ((shf hs (i) hc) j)) i (nI b)))))) H := hM
        have hM : mw D vwCl lo ad (va_up (va_up ct 6 (some (iA aC 200 (fun j => nI ((insR hn (i) hc a) j))))) 7 (some (iA aC 200 (fun j => nI ((insR hs (i) hc b) j))))) H := by rw [upd_nI, bx_uu] at hM; exact hM
        refine lv_aload_n hx hb dX1_addBySum_82 rfl (lv_at hl 0 rfl) ?_
        refine lv_dup hx hb dX1_addBySum_83 rfl ?_
        refine m_get F (ci := 1) (v := .int (nI hc)) (fun w h => tb_O (inX1 w h)) hK hM ((va_up_ne _ _ (by decide)).trans ((va_up_ne _ _ (by decide)).trans h5)) rfl 2 (by decide) (tb_O lkX1_18) rfl dX1_addBySum_84 ?_
        refine lv_iconst (v := (nI 1)) hx hb dX1_addBySum_87 (by decide) ?_
        refine lv_iadd hx hb dX1_addBySum_88 ?_
        refine m_top (nI_add hc 1) ?_
        refine m_put F (ci := 1) (v := .int (nI (hc + 1))) (fun w h => tb_O (inX1 w h)) mc_X1 hK hM hS ((va_up_ne _ _ (by decide)).trans ((va_up_ne _ _ (by decide)).trans h5)) 2 (by decide) (tb_O lkX1_18) rfl rfl rfl (Nat.le_of_ble_eq_true rfl) dX1_addBySum_89 (fun H locs hM hS => ?_)
        have hM : mw D vwCl lo ad (va_up (va_up (va_up ct 6 (some (iA aC 200 (fun j => nI ((insR hn (i) hc a) j))))) 7 (some (iA aC 200 (fun j => nI ((insR hs (i) hc b) j))))) 5 (some (.inr (1, [.ref (ad 6), .ref (ad 7), .int (nI (hc + 1))])))) H := hM
        exact W.vret hx hb hr (fun t ht hW => ⟨⟨_, _, rfl, ⟨rfl, by rw [hpos]⟩, by rw [ht]; exact hM⟩, hS.F ht⟩) hS.2.2 dX1_addBySum_92
      · skip
        obtain ⟨k, rfl⟩ : ∃ k, i = k + 1 := ⟨i - 1, by have : i ≠ 0 := fun q => c_19 (by rw [q]; decide +kernel); omega⟩
        refine lv_aload_n hx hb dX1_addBySum_22 rfl (lv_at hl 0 rfl) ?_
        refine m_get F (ci := 1) (v := .ref (ad 7)) (fun w h => tb_O (inX1 w h)) hK hM ((va_up_ne _ _ (by decide)).trans ((va_up_ne _ _ (by decide)).trans h5)) rfl 1 (by decide) (tb_O lkX1_15) rfl dX1_addBySum_23 ?_
        refine lv_iload_n hx hb dX1_addBySum_26 rfl (lv_at hl 3 rfl) ?_
        refine lv_iconst (v := (nI 1)) hx hb dX1_addBySum_27 (by decide) ?_
        refine lv_isub hx hb dX1_addBySum_28 ?_
        refine m_top (y := (nI k)) (nI_pred k) ?_
        refine m_iald F hK hM 0 rfl (j := k) (va_up_self _ _ _) (by omega) (by decide) dX1_addBySum_29 ?_
        refine m_top (y := (nI (hs k))) (congrArg nI (show shf hs (k + 1) hc k = hs k from if_neg (by omega))) ?_
        refine lv_iload_n hx hb dX1_addBySum_30 rfl (lv_at hl 2 rfl) ?_
        refine m_icmp_le F (a := (hs k)) (b := b) (hs31 k) hb31 (tgt := 68) dX1_addBySum_31 (by decide) (fun c_31 => ?_) (fun c_31 => ?_)
        · skip
          have hpos : inP hs b hc = k + 1 := by rw [hin]; exact if_neg (Nat.not_lt.mpr c_31)
          refine lv_aload_n hx hb dX1_addBySum_68 rfl (lv_at hl 0 rfl) ?_
          refine m_get F (ci := 1) (v := .ref (ad 6)) (fun w h => tb_O (inX1 w h)) hK hM ((va_up_ne _ _ (by decide)).trans ((va_up_ne _ _ (by decide)).trans h5)) rfl 0 (by decide) (tb_O lkX1_9) rfl dX1_addBySum_69 ?_
          refine lv_iload_n hx hb dX1_addBySum_72 rfl (lv_at hl 3 rfl) ?_
          refine lv_iload_n hx hb dX1_addBySum_73 rfl (lv_at hl 1 rfl) ?_
          refine m_iast F hK hM hS 0 rfl (j := (k + 1)) (x := (nI a)) ((va_up_ne _ _ (by decide)).trans (va_up_self _ _ _)) (by omega) (by decide) dX1_addBySum_74 (fun H locs hM hS => ?_)
          have hM : mw D vwCl lo ad (va_up (va_up (va_up ct 6 (some (iA aC 200 (fun j => nI ((shf hn (k + 1) hc) j))))) 7 (some (iA aC 200 (fun j => nI ((shf hs (k + 1) hc) j))))) 6 (some (.inl (aC 0, 200, .inl (upd (fun j => nI ((shf hn (k + 1) hc) j)) (k + 1) (nI a)))))) H := hM
          have hM : mw D vwCl lo ad (va_up (va_up ct 6 (some (iA aC 200 (fun j => nI ((insR hn (k + 1) hc a) j))))) 7 (some (iA aC 200 (fun j => nI ((shf hs (k + 1) hc) j))))) H := by rw [upd_nI, va_up_c76] at hM; exact hM
          refine lv_aload_n hx hb dX1_addBySum_75 rfl (lv_at hl 0 rfl) ?_
          refine m_get F (ci := 1) (v := .ref (ad 7)) (fun w h => tb_O (inX1 w h)) hK hM ((va_up_ne _ _ (by decide)).trans ((va_up_ne _ _ (by decide)).trans h5)) rfl 1 (by decide) (tb_O lkX1_15) rfl dX1_addBySum_76 ?_
          refine lv_iload_n hx hb dX1_addBySum_79 rfl (lv_at hl 3 rfl) ?_
          refine lv_iload_n hx hb dX1_addBySum_80 rfl (lv_at hl 2 rfl) ?_
          refine m_iast F hK hM hS 0 rfl (j := (k + 1)) (x := (nI b)) (va_up_self _ _ _) (by omega) (by decide) dX1_addBySum_81 (fun H locs hM hS => ?_)
          have hM : mw D vwCl lo ad (va_up (va_up (va_up ct 6 (some (iA aC 200 (fun j => nI ((insR hn (k + 1) hc a) j))))) 7 (some (iA aC 200 (fun j => nI ((shf hs (k + 1) hc) j))))) 7 (some (.inl (aC 0, 200, .inl (upd (fun j => nI ((shf hs (k + 1) hc) j)) (k + 1) (nI b)))))) H := hM
          have hM : mw D vwCl lo ad (va_up (va_up ct 6 (some (iA aC 200 (fun j => nI ((insR hn (k + 1) hc a) j))))) 7 (some (iA aC 200 (fun j => nI ((insR hs (k + 1) hc b) j))))) H := by rw [upd_nI, bx_uu] at hM; exact hM
          refine lv_aload_n hx hb dX1_addBySum_82 rfl (lv_at hl 0 rfl) ?_
          refine lv_dup hx hb dX1_addBySum_83 rfl ?_
          refine m_get F (ci := 1) (v := .int (nI hc)) (fun w h => tb_O (inX1 w h)) hK hM ((va_up_ne _ _ (by decide)).trans ((va_up_ne _ _ (by decide)).trans h5)) rfl 2 (by decide) (tb_O lkX1_18) rfl dX1_addBySum_84 ?_
          refine lv_iconst (v := (nI 1)) hx hb dX1_addBySum_87 (by decide) ?_
          refine lv_iadd hx hb dX1_addBySum_88 ?_
          refine m_top (nI_add hc 1) ?_
          refine m_put F (ci := 1) (v := .int (nI (hc + 1))) (fun w h => tb_O (inX1 w h)) mc_X1 hK hM hS ((va_up_ne _ _ (by decide)).trans ((va_up_ne _ _ (by decide)).trans h5)) 2 (by decide) (tb_O lkX1_18) rfl rfl rfl (Nat.le_of_ble_eq_true rfl) dX1_addBySum_89 (fun H locs hM hS => ?_)
          have hM : mw D vwCl lo ad (va_up (va_up (va_up ct 6 (some (iA aC 200 (fun j => nI ((insR hn (k + 1) hc a) j))))) 7 (some (iA aC 200 (fun j => nI ((insR hs (k + 1) hc b) j))))) 5 (some (.inr (1, [.ref (ad 6), .ref (ad 7), .int (nI (hc + 1))])))) H := hM
          exact W.vret hx hb hr (fun t ht hW => ⟨⟨_, _, rfl, ⟨rfl, by rw [hpos]⟩, by rw [ht]; exact hM⟩, hS.F ht⟩) hS.2.2 dX1_addBySum_92
        · skip
          refine lv_aload_n hx hb dX1_addBySum_34 rfl (lv_at hl 0 rfl) ?_
          refine m_get F (ci := 1) (v := .ref (ad 6)) (fun w h => tb_O (inX1 w h)) hK hM ((va_up_ne _ _ (by decide)).trans ((va_up_ne _ _ (by decide)).trans h5)) rfl 0 (by decide) (tb_O lkX1_9) rfl dX1_addBySum_35 ?_
          refine lv_iload_n hx hb dX1_addBySum_38 rfl (lv_at hl 3 rfl) ?_
          refine lv_aload_n hx hb dX1_addBySum_39 rfl (lv_at hl 0 rfl) ?_
          refine m_get F (ci := 1) (v := .ref (ad 6)) (fun w h => tb_O (inX1 w h)) hK hM ((va_up_ne _ _ (by decide)).trans ((va_up_ne _ _ (by decide)).trans h5)) rfl 0 (by decide) (tb_O lkX1_9) rfl dX1_addBySum_40 ?_
          refine lv_iload_n hx hb dX1_addBySum_43 rfl (lv_at hl 3 rfl) ?_
          refine lv_iconst (v := (nI 1)) hx hb dX1_addBySum_44 (by decide) ?_
          refine lv_isub hx hb dX1_addBySum_45 ?_
          refine m_top (y := (nI k)) (nI_pred k) ?_
          refine m_iald F hK hM 0 rfl (j := k) ((va_up_ne _ _ (by decide)).trans (va_up_self _ _ _)) (by omega) (by decide) dX1_addBySum_46 ?_
          refine m_top (y := (nI (shf hn (k + 1) hc k))) rfl ?_
          refine m_iast F hK hM hS 0 rfl (j := (k + 1)) (x := (nI (shf hn (k + 1) hc k))) ((va_up_ne _ _ (by decide)).trans (va_up_self _ _ _)) (by omega) (by decide) dX1_addBySum_47 (fun H locs hM hS => ?_)
          have hM : mw D vwCl lo ad (va_up (va_up (va_up ct 6 (some (iA aC 200 (fun j => nI ((shf hn (k + 1) hc) j))))) 7 (some (iA aC 200 (fun j => nI ((shf hs (k + 1) hc) j))))) 6 (some (.inl (aC 0, 200, .inl (upd (fun j => nI ((shf hn (k + 1) hc) j)) (k + 1) (nI (shf hn (k + 1) hc k))))))) H := hM
          have hM : mw D vwCl lo ad (va_up (va_up ct 6 (some (iA aC 200 (fun j => nI ((shf hn k hc) j))))) 7 (some (iA aC 200 (fun j => nI ((shf hs (k + 1) hc) j))))) H := by rw [upd_nI, va_up_c76, shf_s hi] at hM; exact hM
          refine lv_aload_n hx hb dX1_addBySum_48 rfl (lv_at hl 0 rfl) ?_
          refine m_get F (ci := 1) (v := .ref (ad 7)) (fun w h => tb_O (inX1 w h)) hK hM ((va_up_ne _ _ (by decide)).trans ((va_up_ne _ _ (by decide)).trans h5)) rfl 1 (by decide) (tb_O lkX1_15) rfl dX1_addBySum_49 ?_
          refine lv_iload_n hx hb dX1_addBySum_52 rfl (lv_at hl 3 rfl) ?_
          refine lv_aload_n hx hb dX1_addBySum_53 rfl (lv_at hl 0 rfl) ?_
          refine m_get F (ci := 1) (v := .ref (ad 7)) (fun w h => tb_O (inX1 w h)) hK hM ((va_up_ne _ _ (by decide)).trans ((va_up_ne _ _ (by decide)).trans h5)) rfl 1 (by decide) (tb_O lkX1_15) rfl dX1_addBySum_54 ?_
          refine lv_iload_n hx hb dX1_addBySum_57 rfl (lv_at hl 3 rfl) ?_
          refine lv_iconst (v := (nI 1)) hx hb dX1_addBySum_58 (by decide) ?_
          refine lv_isub hx hb dX1_addBySum_59 ?_
          refine m_top (y := (nI k)) (nI_pred k) ?_
          refine m_iald F hK hM 0 rfl (j := k) (va_up_self _ _ _) (by omega) (by decide) dX1_addBySum_60 ?_
          refine m_top (y := (nI (shf hs (k + 1) hc k))) rfl ?_
          refine m_iast F hK hM hS 0 rfl (j := (k + 1)) (x := (nI (shf hs (k + 1) hc k))) (va_up_self _ _ _) (by omega) (by decide) dX1_addBySum_61 (fun H locs hM hS => ?_)
          have hM : mw D vwCl lo ad (va_up (va_up (va_up ct 6 (some (iA aC 200 (fun j => nI ((shf hn k hc) j))))) 7 (some (iA aC 200 (fun j => nI ((shf hs (k + 1) hc) j))))) 7 (some (.inl (aC 0, 200, .inl (upd (fun j => nI ((shf hs (k + 1) hc) j)) (k + 1) (nI (shf hs (k + 1) hc k))))))) H := hM
          have hM : mw D vwCl lo ad (va_up (va_up ct 6 (some (iA aC 200 (fun j => nI ((shf hn k hc) j))))) 7 (some (iA aC 200 (fun j => nI ((shf hs k hc) j))))) H := by rw [upd_nI, bx_uu, shf_s hi] at hM; exact hM
          refine lv_iinc (v := (nI k)) (lv' := [(3, .int (nI k)), (0, .ref (ad 5)), (1, .int (nI a)), (2, .int (nI b))]) hx hb dX1_addBySum_62 hl (k := 3) rfl (pk_m1 _) (by decide) rfl (fun ls hl => ?_)
          refine lv_goto (tgt := 18) hx hb dX1_addBySum_65 (by decide) ?_
          exact ih_18 k (by omega) (by rw [hin]; exact if_pos c_31) (by omega) _ _ _ hM hS (lv_sub hl [1, 2, 3, 0] rfl)
  refine lv_aload_n hx hb dX1_addBySum_0 rfl (lv_at hl 0 rfl) ?_
  refine m_get F (ci := 1) (v := .int (nI hc)) (fun w h => tb_O (inX1 w h)) hK hM h5 rfl 2 (by decide) (tb_O lkX1_18) rfl dX1_addBySum_1 ?_
  refine lv_aload_n hx hb dX1_addBySum_4 rfl (lv_at hl 0 rfl) ?_
  refine m_get F (ci := 1) (v := .ref (ad 6)) (fun w h => tb_O (inX1 w h)) hK hM h5 rfl 0 (by decide) (tb_O lkX1_9) rfl dX1_addBySum_5 ?_
  refine m_alen F hK hM 0 rfl h6 dX1_addBySum_8 ?_
  refine m_icmp_lt F (a := hc) (b := 200) (by omega) (by omega) (tgt := 13) dX1_addBySum_9 (by decide) (fun c_9 => ?_) (fun c_9 => ?_)
  · skip
    refine lv_aload_n hx hb dX1_addBySum_13 rfl (lv_at hl 0 rfl) ?_
    refine m_get F (ci := 1) (v := .int (nI hc)) (fun w h => tb_O (inX1 w h)) hK hM h5 rfl 2 (by decide) (tb_O lkX1_18) rfl dX1_addBySum_14 ?_
    refine lv_istore_n (lv' := [(3, .int (nI hc)), (0, .ref (ad 5)), (1, .int (nI a)), (2, .int (nI b))]) hx hb dX1_addBySum_17 rfl hl (by decide) rfl (fun ls hl => ?_)
    have hM : mw D vwCl lo ad (va_up (va_up ct 6 (some (iA aC 200 (fun j => nI ((shf hn hc hc) j))))) 7 (some (iA aC 200 (fun j => nI ((shf hs hc hc) j))))) s0.heap := hM.eq (fun k => by
      rw [shf_0, shf_0]
      by_cases hk : k = 7
      · subst hk; rw [va_up_self]; exact h7
      · rw [va_up_ne _ _ hk]
        by_cases hk6 : k = 6
        · subst hk6; rw [va_up_self]; exact h6
        · rw [va_up_ne _ _ hk6])
    exact loop_18 (hc + 1) hc (Nat.le_refl _) rfl (Nat.le_refl _) _ _ _ hM hS (lv_sub hl [1, 2, 3, 0] rfl)
  · skip
    exact absurd c_9 (by omega)

set_option maxHeartbeats 4000000 in
set_option maxRecDepth 100000 in
theorem c_keepFirst (l : Launch) {D : va_G} {aC : Nat → ClassId} {lo : Nat} {ad : Nat → Nat} {ct : Nat → Option va_E} {hc : Nat} (k : Nat) (hh : hc ≤ 200) (hk : k ≤ 1000) (h5 : ct 5 = some (.inr (1, [.ref (ad 6), .ref (ad 7), .int (nI hc)]))) : Met l yX1_keepFirst (wsO yX1_keepFirst cX1_keepFirst 2 none) ({ frames := 1, cells := 0, slots := 0, locals := 14 } : Room) (mPc D vwCl (tyA aC) lo ad ct [.ref (ad 5), .int (nI k)]) (mD0 D vwCl lo ad (va_up ct 5 (some (.inr (1, [.ref (ad 6), .ref (ad 7), .int (nI (min hc k))]))))) 0 0 (fun q => lo ≤ q) := by
  refine Met.ofW (cc := cX1_keepFirst) (maxL := 2) (ret := none) (by decide) rfl ?_
  intro pr en s0 mm args below meth cc0 s₁ B hml hv
  obtain ⟨rfl, hlo, hM, hKK⟩ := hv
  have hK := hKK.1
  have hr := B.returns
  have hts := atoms_spec (ws := (wsO yX1_keepFirst cX1_keepFirst 2 none)) B.pre
  have F : CallFix pr mm cc0 cX1_keepFirst 2 s0 (([.ref (ad 5), .int (nI k)] : List Value).toArray) (wsO yX1_keepFirst cX1_keepFirst 2 none) RX1 := ⟨B.exec, B.bytes, hml, findClass_of_methodNamed B.named, hts⟩
  have hx := F.1
  have hb := F.2.1
  have hlocks := B.notSynchronized
  have hS : va_S (fun q => lo ≤ q) s0.heap s0.heap [] := va_S.rf
  have hl := lv_entry ([.ref (ad 5), .int (nI k)]) (n := 2) (Nat.le_of_ble_eq_true rfl)
  rw [lg_entry_eq]
  generalize (lg_sl ([.ref (ad 5), .int (nI k)]) ++ List.replicate (2 - (lg_sl ([.ref (ad 5), .int (nI k)])).length) Slot.unset).toArray = ls at hl ⊢
  have hl : lv_has ls 2 [(0, .ref (ad 5)), (1, .int (nI k))] := hl
  refine lv_aload_n hx hb dX1_keepFirst_0 rfl (lv_at hl 0 rfl) ?_
  refine lv_aload_n hx hb dX1_keepFirst_1 rfl (lv_at hl 0 rfl) ?_
  refine m_get F (ci := 1) (v := .int (nI hc)) (fun w h => tb_O (inX1 w h)) hK hM h5 rfl 2 (by decide) (tb_O lkX1_18) rfl dX1_keepFirst_2 ?_
  refine lv_iload_n hx hb dX1_keepFirst_5 rfl (lv_at hl 1 rfl) ?_
  refine va_mmin hx hb (F.2.2.1.trans hl.1.symm) F.2.2.2.1 (F.2.2.2.2 _ (tb_O mlX1_22)) (F.2.2.2.2 _ (tb_O st_min)) (F.2.2.2.2 _ (tb_O iniMath)) (F.2.2.2.2 _ (tb_O cd_min)) (Nat.le_of_ble_eq_true rfl) (Nat.le_of_ble_eq_true rfl) (Nat.le_of_ble_eq_true rfl) (Nat.le_of_ble_eq_true rfl) dX1_keepFirst_6 ?_
  refine m_top (y := (nI (min hc k))) (mn_nI (by omega) (by omega)) ?_
  refine m_put F (ci := 1) (v := .int (nI (min hc k))) (fun w h => tb_O (inX1 w h)) mc_X1 hK hM hS h5 2 (by decide) (tb_O lkX1_18) rfl rfl rfl (Nat.le_of_ble_eq_true rfl) dX1_keepFirst_9 (fun H locs hM hS => ?_)
  have hM : mw D vwCl lo ad (va_up ct 5 (some (.inr (1, [.ref (ad 6), .ref (ad 7), .int (nI (min hc k))])))) H := hM
  exact W.vret hx hb hr (fun t ht hW => ⟨⟨_, _, rfl, ⟨rfl, rfl⟩, by rw [ht]; exact hM⟩, hS.F ht⟩) hS.2.2 dX1_keepFirst_12

set_option maxHeartbeats 4000000 in
set_option maxRecDepth 100000 in
theorem c_append (l : Launch) {D : va_G} {aC : Nat → ClassId} {lo : Nat} {ad : Nat → Nat} {ct : Nat → Option va_E} {ke ks len : Nat} {gb db lv : Int32} {sv : Value} {g : Nat → Nat} (q : Nat) (hl20 : len < 20) (hne : ke ≠ ks) (he : ct ke = some (.inr (0, [.ref (ad ks), .int (nI len), .int gb, .int db, sv, .int lv]))) (hg : ct ks = some (iA aC 20 (fun j => nI (g j)))) : Met l yX0_append (wsO yX0_append cX0_append 2 (some .boolean)) ({ frames := 0, cells := 0, slots := 0, locals := 0 } : Room) (mPc D vwCl (tyA aC) lo ad ct [.ref (ad ke), .int (nI q)]) (mD1 D vwCl lo (.int (nI 1)) ad (va_up (va_up ct ks (some (iA aC 20 (fun j => nI (un g len q j))))) ke (some (.inr (0, [.ref (ad ks), .int (nI (len + 1)), .int gb, .int db, sv, .int lv]))))) 0 0 (fun q => lo ≤ q) := by
  refine Met.ofW (cc := cX0_append) (maxL := 2) (ret := (some .boolean)) (by decide) rfl ?_
  intro pr en s0 mm args below meth cc0 s₁ B hml hv
  obtain ⟨rfl, hlo, hM, hKK⟩ := hv
  have hK := hKK.1
  have hr := B.returns
  have hts := atoms_spec (ws := (wsO yX0_append cX0_append 2 (some .boolean))) B.pre
  have F : CallFix pr mm cc0 cX0_append 2 s0 (([.ref (ad ke), .int (nI q)] : List Value).toArray) (wsO yX0_append cX0_append 2 (some .boolean)) RX0 := ⟨B.exec, B.bytes, hml, findClass_of_methodNamed B.named, hts⟩
  have hx := F.1
  have hb := F.2.1
  have hlocks := B.notSynchronized
  have hS : va_S (fun q => lo ≤ q) s0.heap s0.heap [] := va_S.rf
  have hl := lv_entry ([.ref (ad ke), .int (nI q)]) (n := 2) (Nat.le_of_ble_eq_true rfl)
  rw [lg_entry_eq]
  generalize (lg_sl ([.ref (ad ke), .int (nI q)]) ++ List.replicate (2 - (lg_sl ([.ref (ad ke), .int (nI q)])).length) Slot.unset).toArray = ls at hl ⊢
  have hl : lv_has ls 2 [(0, .ref (ad ke)), (1, .int (nI q))] := hl
  refine lv_aload_n hx hb dX0_append_0 rfl (lv_at hl 0 rfl) ?_
  refine m_get F (ci := 0) (v := .int (nI len)) (fun w h => tb_O (inX0 w h)) hK hM he rfl 1 (by decide) (tb_O lkX0_15) rfl dX0_append_1 ?_
  refine lv_aload_n hx hb dX0_append_4 rfl (lv_at hl 0 rfl) ?_
  refine m_get F (ci := 0) (v := .ref (ad ks)) (fun w h => tb_O (inX0 w h)) hK hM he rfl 0 (by decide) (tb_O lkX0_9) rfl dX0_append_5 ?_
  refine m_alen F hK hM 0 rfl hg dX0_append_8 ?_
  refine m_icmp_lt F (a := len) (b := 20) (by omega) (by omega) (tgt := 14) dX0_append_9 (by decide) (fun c_9 => ?_) (fun c_9 => ?_)
  · skip
    refine lv_aload_n hx hb dX0_append_14 rfl (lv_at hl 0 rfl) ?_
    refine m_get F (ci := 0) (v := .ref (ad ks)) (fun w h => tb_O (inX0 w h)) hK hM he rfl 0 (by decide) (tb_O lkX0_9) rfl dX0_append_15 ?_
    refine lv_aload_n hx hb dX0_append_18 rfl (lv_at hl 0 rfl) ?_
    refine m_get F (ci := 0) (v := .int (nI len)) (fun w h => tb_O (inX0 w h)) hK hM he rfl 1 (by decide) (tb_O lkX0_15) rfl dX0_append_19 ?_
    refine lv_iload_n hx hb dX0_append_22 rfl (lv_at hl 1 rfl) ?_
    refine m_iast F hK hM hS 0 rfl (j := len) (x := (nI q)) hg (by omega) (by decide) dX0_append_23 (fun H locs hM hS => ?_)
    have hM : mw D vwCl lo ad (va_up ct ks (some (.inl (aC 0, 20, .inl (upd (fun j => nI (g j)) len (nI q)))))) H := hM
    have hM : mw D vwCl lo ad (va_up ct ks (some (iA aC 20 (fun j => nI (un g len q j))))) H := by rw [upd_nI] at hM; exact hM
    refine lv_aload_n hx hb dX0_append_24 rfl (lv_at hl 0 rfl) ?_
    refine lv_dup hx hb dX0_append_25 rfl ?_
    refine m_get F (ci := 0) (v := .int (nI len)) (fun w h => tb_O (inX0 w h)) hK hM ((va_up_ne _ _ hne).trans he) rfl 1 (by decide) (tb_O lkX0_15) rfl dX0_append_26 ?_
    refine lv_iconst (v := (nI 1)) hx hb dX0_append_29 (by decide) ?_
    refine lv_iadd hx hb dX0_append_30 ?_
    refine m_top (nI_add len 1) ?_
    refine m_put F (ci := 0) (v := .int (nI (len + 1))) (fun w h => tb_O (inX0 w h)) mc_X0 hK hM hS ((va_up_ne _ _ hne).trans he) 1 (by decide) (tb_O lkX0_15) rfl rfl rfl (Nat.le_of_ble_eq_true rfl) dX0_append_31 (fun H locs hM hS => ?_)
    have hM : mw D vwCl lo ad (va_up (va_up ct ks (some (iA aC 20 (fun j => nI (un g len q j))))) ke (some (.inr (0, [.ref (ad ks), .int (nI (len + 1)), .int gb, .int db, sv, .int lv])))) H := hM
    refine lv_iconst (v := (nI 1)) hx hb dX0_append_34 (by decide) ?_
    exact W.zret hx hb hr rfl (fun t ht hW => ⟨⟨_, _, _, rfl, ⟨rfl, rfl, rfl⟩, by rw [ht]; exact hM⟩, hS.F ht⟩) hS.2.2 dX0_append_35
  · skip
    exact absurd c_9 (by omega)

set_option maxHeartbeats 4000000 in
set_option maxRecDepth 100000 in
theorem c_appendF (l : Launch) {D : va_G} {aC : Nat → ClassId} {lo : Nat} {ad : Nat → Nat} {ct : Nat → Option va_E} {ke ks len : Nat} {gb db lv : Int32} {sv : Value} {g : Nat → Nat} (q : Nat) (hl20 : len = 20) (he : ct ke = some (.inr (0, [.ref (ad ks), .int (nI len), .int gb, .int db, sv, .int lv]))) (hg : ct ks = some (iA aC 20 (fun j => nI (g j)))) : Met l yX0_append (wsO yX0_append cX0_append 2 (some .boolean)) ({ frames := 0, cells := 0, slots := 0, locals := 0 } : Room) (mPc D vwCl (tyA aC) lo ad ct [.ref (ad ke), .int (nI q)]) (mD1 D vwCl lo (.int (nI 0)) ad ct) 0 0 (fun q => lo ≤ q) := by
  refine Met.ofW (cc := cX0_append) (maxL := 2) (ret := (some .boolean)) (by decide) rfl ?_
  intro pr en s0 mm args below meth cc0 s₁ B hml hv
  obtain ⟨rfl, hlo, hM, hKK⟩ := hv
  have hK := hKK.1
  have hr := B.returns
  have hts := atoms_spec (ws := (wsO yX0_append cX0_append 2 (some .boolean))) B.pre
  have F : CallFix pr mm cc0 cX0_append 2 s0 (([.ref (ad ke), .int (nI q)] : List Value).toArray) (wsO yX0_append cX0_append 2 (some .boolean)) RX0 := ⟨B.exec, B.bytes, hml, findClass_of_methodNamed B.named, hts⟩
  have hx := F.1
  have hb := F.2.1
  have hlocks := B.notSynchronized
  have hS : va_S (fun q => lo ≤ q) s0.heap s0.heap [] := va_S.rf
  have hl := lv_entry ([.ref (ad ke), .int (nI q)]) (n := 2) (Nat.le_of_ble_eq_true rfl)
  rw [lg_entry_eq]
  generalize (lg_sl ([.ref (ad ke), .int (nI q)]) ++ List.replicate (2 - (lg_sl ([.ref (ad ke), .int (nI q)])).length) Slot.unset).toArray = ls at hl ⊢
  have hl : lv_has ls 2 [(0, .ref (ad ke)), (1, .int (nI q))] := hl
  refine lv_aload_n hx hb dX0_append_0 rfl (lv_at hl 0 rfl) ?_
  refine m_get F (ci := 0) (v := .int (nI len)) (fun w h => tb_O (inX0 w h)) hK hM he rfl 1 (by decide) (tb_O lkX0_15) rfl dX0_append_1 ?_
  refine lv_aload_n hx hb dX0_append_4 rfl (lv_at hl 0 rfl) ?_
  refine m_get F (ci := 0) (v := .ref (ad ks)) (fun w h => tb_O (inX0 w h)) hK hM he rfl 0 (by decide) (tb_O lkX0_9) rfl dX0_append_5 ?_
  refine m_alen F hK hM 0 rfl hg dX0_append_8 ?_
  refine m_icmp_lt F (a := len) (b := 20) (by omega) (by omega) (tgt := 14) dX0_append_9 (by decide) (fun c_9 => ?_) (fun c_9 => ?_)
  · skip
    exact absurd c_9 (by omega)
  · skip
    refine lv_iconst (v := (nI 0)) hx hb dX0_append_12 (by decide) ?_
    exact W.zret hx hb hr rfl (fun t ht hW => ⟨⟨_, _, _, rfl, ⟨rfl, rfl, rfl⟩, by rw [ht]; exact hM⟩, hS.F ht⟩) hS.2.2 dX0_append_13

set_option maxHeartbeats 4000000 in
set_option maxRecDepth 100000 in
theorem c_join (l : Launch) {D : va_G} {aC : Nat → ClassId} {lo : Nat} {ad : Nat → Nat} {ct : Nat → Option va_E} {ke ks len : Nat} {gb db lv : Int32} {sv : Value} (x : Int32) (he : ct ke = some (.inr (0, [.ref (ad ks), .int (nI len), .int gb, .int db, sv, .int lv]))) : Met l yX0_join (wsO yX0_join cX0_join 2 none) ({ frames := 0, cells := 0, slots := 0, locals := 0 } : Room) (mPc D vwCl (tyA aC) lo ad ct [.ref (ad ke), .int x]) (mD0 D vwCl lo ad (va_up ct ke (some (.inr (0, [.ref (ad ks), .int (nI len), .int (gb ||| (nI 1) <<< (x &&& 31)), .int db, sv, .int lv]))))) 0 0 (fun q => lo ≤ q) := by
  refine Met.ofW (cc := cX0_join) (maxL := 2) (ret := none) (by decide) rfl ?_
  intro pr en s0 mm args below meth cc0 s₁ B hml hv
  obtain ⟨rfl, hlo, hM, hKK⟩ := hv
  have hK := hKK.1
  have hr := B.returns
  have hts := atoms_spec (ws := (wsO yX0_join cX0_join 2 none)) B.pre
  have F : CallFix pr mm cc0 cX0_join 2 s0 (([.ref (ad ke), .int x] : List Value).toArray) (wsO yX0_join cX0_join 2 none) RX0 := ⟨B.exec, B.bytes, hml, findClass_of_methodNamed B.named, hts⟩
  have hx := F.1
  have hb := F.2.1
  have hlocks := B.notSynchronized
  have hS : va_S (fun q => lo ≤ q) s0.heap s0.heap [] := va_S.rf
  have hl := lv_entry ([.ref (ad ke), .int x]) (n := 2) (Nat.le_of_ble_eq_true rfl)
  rw [lg_entry_eq]
  generalize (lg_sl ([.ref (ad ke), .int x]) ++ List.replicate (2 - (lg_sl ([.ref (ad ke), .int x])).length) Slot.unset).toArray = ls at hl ⊢
  have hl : lv_has ls 2 [(0, .ref (ad ke)), (1, .int x)] := hl
  refine lv_aload_n hx hb dX0_join_0 rfl (lv_at hl 0 rfl) ?_
  refine lv_dup hx hb dX0_join_1 rfl ?_
  refine m_get F (ci := 0) (v := .int gb) (fun w h => tb_O (inX0 w h)) hK hM he rfl 2 (by decide) (tb_O lkX0_19) rfl dX0_join_2 ?_
  refine lv_iconst (v := (nI 1)) hx hb dX0_join_5 (by decide) ?_
  refine lv_iload_n hx hb dX0_join_6 rfl (lv_at hl 1 rfl) ?_
  refine lv_ishl hx hb dX0_join_7 ?_
  refine lv_ior hx hb dX0_join_8 ?_
  refine m_put F (ci := 0) (v := .int (gb ||| ((nI 1) <<< (x &&& 31)))) (fun w h => tb_O (inX0 w h)) mc_X0 hK hM hS he 2 (by decide) (tb_O lkX0_19) rfl rfl rfl (Nat.le_of_ble_eq_true rfl) dX0_join_9 (fun H locs hM hS => ?_)
  have hM : mw D vwCl lo ad (va_up ct ke (some (.inr (0, [.ref (ad ks), .int (nI len), .int (gb ||| ((nI 1) <<< (x &&& 31))), .int db, sv, .int lv])))) H := hM
  exact W.vret hx hb hr (fun t ht hW => ⟨⟨_, _, rfl, ⟨rfl, rfl⟩, by rw [ht]; exact hM⟩, hS.F ht⟩) hS.2.2 dX0_join_12

set_option maxHeartbeats 4000000 in
set_option maxRecDepth 100000 in
theorem c_isWithin (l : Launch) {D : va_G} {aC : Nat → ClassId} {lo : Nat} {ad : Nat → Nat} {ct : Nat → Option va_E} {ke ks len : Nat} {gb db lv : Int32} {sv : Value} (x : Int32) (he : ct ke = some (.inr (0, [.ref (ad ks), .int (nI len), .int gb, .int db, sv, .int lv]))) : Met l yX0_isWithin (wsO yX0_isWithin cX0_isWithin 2 (some .boolean)) ({ frames := 0, cells := 0, slots := 0, locals := 0 } : Room) (mPc D vwCl (tyA aC) lo ad ct [.ref (ad ke), .int x]) (mD1 D vwCl lo (.int (bI (inG gb x))) ad ct) 0 0 (fun q => lo ≤ q) := by
  refine Met.ofW (cc := cX0_isWithin) (maxL := 2) (ret := (some .boolean)) (by decide) rfl ?_
  intro pr en s0 mm args below meth cc0 s₁ B hml hv
  obtain ⟨rfl, hlo, hM, hKK⟩ := hv
  have hK := hKK.1
  have hr := B.returns
  have hts := atoms_spec (ws := (wsO yX0_isWithin cX0_isWithin 2 (some .boolean))) B.pre
  have F : CallFix pr mm cc0 cX0_isWithin 2 s0 (([.ref (ad ke), .int x] : List Value).toArray) (wsO yX0_isWithin cX0_isWithin 2 (some .boolean)) RX0 := ⟨B.exec, B.bytes, hml, findClass_of_methodNamed B.named, hts⟩
  have hx := F.1
  have hb := F.2.1
  have hlocks := B.notSynchronized
  have hS : va_S (fun q => lo ≤ q) s0.heap s0.heap [] := va_S.rf
  have hl := lv_entry ([.ref (ad ke), .int x]) (n := 2) (Nat.le_of_ble_eq_true rfl)
  rw [lg_entry_eq]
  generalize (lg_sl ([.ref (ad ke), .int x]) ++ List.replicate (2 - (lg_sl ([.ref (ad ke), .int x])).length) Slot.unset).toArray = ls at hl ⊢
  have hl : lv_has ls 2 [(0, .ref (ad ke)), (1, .int x)] := hl
  refine lv_iload_n hx hb dX0_isWithin_0 rfl (lv_at hl 1 rfl) ?_
  refine lv_iconst (v := (-1)) hx hb dX0_isWithin_1 (by decide) ?_
  refine lv_icmp_eq (tgt := 16) hx hb dX0_isWithin_2 (by decide) (fun c_2 => ?_) (fun c_2 => ?_)
  · skip
    refine lv_iconst (v := (nI 1)) hx hb dX0_isWithin_16 (by decide) ?_
    refine lv_goto (tgt := 21) hx hb dX0_isWithin_17 (by decide) ?_
    exact W.zret hx hb hr rfl (fun t ht hW => ⟨⟨_, _, _, rfl, ⟨by rw [show inG gb x = true by first | simp [inG, c_2, c_13] | simp [inG, c_2]]; rfl, rfl, rfl⟩, by rw [ht]; exact hM⟩, hS.F ht⟩) hS.2.2 dX0_isWithin_21
  · skip
    refine lv_aload_n hx hb dX0_isWithin_5 rfl (lv_at hl 0 rfl) ?_
    refine m_get F (ci := 0) (v := .int gb) (fun w h => tb_O (inX0 w h)) hK hM he rfl 2 (by decide) (tb_O lkX0_19) rfl dX0_isWithin_6 ?_
    refine lv_iconst (v := (nI 1)) hx hb dX0_isWithin_9 (by decide) ?_
    refine lv_iload_n hx hb dX0_isWithin_10 rfl (lv_at hl 1 rfl) ?_
    refine lv_ishl hx hb dX0_isWithin_11 ?_
    refine lv_iand hx hb dX0_isWithin_12 ?_
    refine lv_if_eq (tgt := 20) hx hb dX0_isWithin_13 (by decide) (fun c_13 => ?_) (fun c_13 => ?_)
    · skip
      refine lv_iconst (v := (nI 0)) hx hb dX0_isWithin_20 (by decide) ?_
      exact W.zret hx hb hr rfl (fun t ht hW => ⟨⟨_, _, _, rfl, ⟨by rw [show inG gb x = false by simp [inG, c_2, c_13]]; rfl, rfl, rfl⟩, by rw [ht]; exact hM⟩, hS.F ht⟩) hS.2.2 dX0_isWithin_21
    · skip
      refine lv_iconst (v := (nI 1)) hx hb dX0_isWithin_16 (by decide) ?_
      refine lv_goto (tgt := 21) hx hb dX0_isWithin_17 (by decide) ?_
      exact W.zret hx hb hr rfl (fun t ht hW => ⟨⟨_, _, _, rfl, ⟨by rw [show inG gb x = true by first | simp [inG, c_2, c_13] | simp [inG, c_2]]; rfl, rfl, rfl⟩, by rw [ht]; exact hM⟩, hS.F ht⟩) hS.2.2 dX0_isWithin_21
end
section
set_option maxHeartbeats 4000000 in
set_option maxRecDepth 100000 in
theorem c_living (l : Launch) {D : va_G} {aC : Nat → ClassId} {lo : Nat} {ad : Nat → Nat} {n : Nat} {gl : Int32} {E : Nat → Ent} {G : Nat → Nat → Nat} {P : Nat} {co : Nat → Option Nat} {lc : Nat → Nat} {hc : Nat} {hn hs : Nat → Nat} {X : Nat → Option va_E} (x : Int32) (h200 : n ≤ 200) : Met l yX3_living (wsO yX3_living cX3_living 3 (some (.object "WordTrees$Entry"))) ({ frames := 0, cells := 0, slots := 0, locals := 0 } : Room) (mPc D vwCl (tyA aC) lo ad (ctC aC ad n gl E G P co lc hc hn hs X) [.ref (ad 0), .int x]) (mD1 D vwCl lo (va_rf (oE ad (cLiv n E x))) ad (ctC aC ad n gl E G P co lc hc hn hs X)) 0 0 (fun q => lo ≤ q) := by
  refine Met.ofW (cc := cX3_living) (maxL := 3) (ret := (some (.object "WordTrees$Entry"))) (by decide) rfl ?_
  intro pr en s0 mm args below meth cc0 s₁ B hml hv
  obtain ⟨rfl, hlo, hM, hKK⟩ := hv
  have hK := hKK.1
  have hr := B.returns
  have hts := atoms_spec (ws := (wsO yX3_living cX3_living 3 (some (.object "WordTrees$Entry")))) B.pre
  have F : CallFix pr mm cc0 cX3_living 3 s0 (([.ref (ad 0), .int x] : List Value).toArray) (wsO yX3_living cX3_living 3 (some (.object "WordTrees$Entry"))) RX3 := ⟨B.exec, B.bytes, hml, findClass_of_methodNamed B.named, hts⟩
  have hx := F.1
  have hb := F.2.1
  have hlocks := B.notSynchronized
  have hS : va_S (fun q => lo ≤ q) s0.heap s0.heap [] := va_S.rf
  have hl := lv_entry ([.ref (ad 0), .int x]) (n := 3) (Nat.le_of_ble_eq_true rfl)
  rw [lg_entry_eq]
  generalize (lg_sl ([.ref (ad 0), .int x]) ++ List.replicate (3 - (lg_sl ([.ref (ad 0), .int x])).length) Slot.unset).toArray = ls at hl ⊢
  have hl : lv_has ls 3 [(0, .ref (ad 0)), (1, .int x)] := hl
  refine lv_iload_n hx hb dX3_living_0 rfl (lv_at hl 1 rfl) ?_
  refine lv_iconst (v := (nI 1)) hx hb dX3_living_1 (by decide) ?_
  refine lv_icmp_lt (tgt := 22) hx hb dX3_living_2 (by decide) (fun c_2 => ?_) (fun c_2 => ?_)
  · skip
    refine lv_null hx hb dX3_living_22 ?_
    exact W.aret hx hb hr (Or.inl ⟨_, rfl⟩) (Or.inl rfl) (fun t ht hW => ⟨⟨_, _, _, rfl, ⟨by first | (rw [cLiv_lo c_2]; rfl) | (rw [cLiv_hi c_2 c_10]; rfl), rfl, rfl⟩, by rw [ht]; exact hM⟩, hS.F ht⟩) hS.2.2 dX3_living_23
  · skip
    refine lv_iload_n hx hb dX3_living_5 rfl (lv_at hl 1 rfl) ?_
    refine lv_aload_n hx hb dX3_living_6 rfl (lv_at hl 0 rfl) ?_
    refine m_get F (ci := 3) (v := .int (nI n)) (fun w h => tb_O (inX3 w h)) hK hM ctC_0 rfl 1 (by decide) (tb_O lkX3_15) rfl dX3_living_7 ?_
    refine lv_icmp_gt (tgt := 22) hx hb dX3_living_10 (by decide) (fun c_10 => ?_) (fun c_10 => ?_)
    · skip
      refine lv_null hx hb dX3_living_22 ?_
      exact W.aret hx hb hr (Or.inl ⟨_, rfl⟩) (Or.inl rfl) (fun t ht hW => ⟨⟨_, _, _, rfl, ⟨by first | (rw [cLiv_lo c_2]; rfl) | (rw [cLiv_hi c_2 c_10]; rfl), rfl, rfl⟩, by rw [ht]; exact hM⟩, hS.F ht⟩) hS.2.2 dX3_living_23
    · skip
      obtain ⟨j, hj1, hj2, rfl⟩ := cLiv_in c_2 c_10 h200
      refine lv_iload_n hx hb dX3_living_13 rfl (lv_at hl 1 rfl) ?_
      refine lv_aload_n hx hb dX3_living_14 rfl (lv_at hl 0 rfl) ?_
      refine m_get F (ci := 3) (v := .ref (ad 1)) (fun w h => tb_O (inX3 w h)) hK hM ctC_0 rfl 0 (by decide) (tb_O lkX3_11) rfl dX3_living_15 ?_
      refine m_alen F hK hM 1 rfl ctC_1 dX3_living_18 ?_
      refine m_icmp_lt F (a := j) (b := 201) (by omega) (by omega) (tgt := 24) dX3_living_19 (by decide) (fun c_19 => ?_) (fun c_19 => ?_)
      · skip
        refine lv_aload_n hx hb dX3_living_24 rfl (lv_at hl 0 rfl) ?_
        refine m_get F (ci := 3) (v := .ref (ad 1)) (fun w h => tb_O (inX3 w h)) hK hM ctC_0 rfl 0 (by decide) (tb_O lkX3_11) rfl dX3_living_25 ?_
        refine lv_iload_n hx hb dX3_living_28 rfl (lv_at hl 1 rfl) ?_
        refine m_aald F hK hM 1 rfl (j := j) ctC_1 (by omega) (by decide) dX3_living_29 ?_
        refine m_val (v' := .ref (ad (2 * j + 8))) (by rw [show rowE ad n j = some (ad (2 * j + 8)) from if_pos ⟨hj1, hj2⟩]; rfl) ?_
        refine lv_astore_n (lv' := [(2, .ref (ad (2 * j + 8))), (0, .ref (ad 0)), (1, .int (nI j))]) hx hb dX3_living_30 rfl hl (by decide) rfl (fun ls hl => ?_)
        refine lv_aload_n hx hb dX3_living_31 rfl (lv_at hl 0 rfl) ?_
        refine lv_ifnull hx hb dX3_living_32 ?_
        refine lv_aload_n hx hb dX3_living_35 rfl (lv_at hl 0 rfl) ?_
        refine m_get F (ci := 0) (v := .int (bI (E j).2.2.1)) (fun w h => tb_O (inX0 w h)) hK hM (ctC_e hj1 hj2 h200) rfl 3 (by decide) (tb_O lkX3_51) rfl dX3_living_36 ?_
        refine lv_if_eq (tgt := 46) hx hb dX3_living_39 (by decide) (fun c_39 => ?_) (fun c_39 => ?_)
        · skip
          refine lv_aload_n hx hb dX3_living_46 rfl (lv_at hl 0 rfl) ?_
          exact W.aret hx hb hr (Or.inl ⟨_, rfl⟩) (Or.inr ⟨_, rfl⟩) (fun t ht hW => ⟨⟨_, _, _, rfl, ⟨by rw [cLiv_nI hj1 hj2 h200, if_neg (by rw [bI_eq c_39]; decide)]; rfl, rfl, rfl⟩, by rw [ht]; exact hM⟩, hS.F ht⟩) hS.2.2 dX3_living_47
        · skip
          refine lv_null hx hb dX3_living_42 ?_
          refine lv_goto (tgt := 47) hx hb dX3_living_43 (by decide) ?_
          exact W.aret hx hb hr (Or.inl ⟨_, rfl⟩) (Or.inl rfl) (fun t ht hW => ⟨⟨_, _, _, rfl, ⟨by rw [cLiv_nI hj1 hj2 h200, if_pos (bI_ne c_39)]; rfl, rfl, rfl⟩, by rw [ht]; exact hM⟩, hS.F ht⟩) hS.2.2 dX3_living_47
      · skip
        exact absurd c_19 (by omega)

theorem c_livT (l : Launch) {D : va_G} {aC : Nat → ClassId} {lo : Nat} {ad : Nat → Nat} {n : Nat} {gl : Int32} {E : Nat → Ent} {G : Nat → Nat → Nat} {P : Nat} {co : Nat → Option Nat} {lc : Nat → Nat} {hc : Nat} {hn hs : Nat → Nat} {X : Nat → Option va_E} (j : Nat) (h1 : 1 ≤ j) (h2 : j ≤ n) (h200 : n ≤ 200) (hd : (E j).2.2.1 = false) : Met l yX3_living (wsO yX3_living cX3_living 3 (some (.object "WordTrees$Entry"))) ({ frames := 0, cells := 0, slots := 0, locals := 0 } : Room) (mPc D vwCl (tyA aC) lo ad (ctC aC ad n gl E G P co lc hc hn hs X) [.ref (ad 0), .int (nI j)]) (mD1 D vwCl lo (.ref (ad (2 * j + 8))) ad (ctC aC ad n gl E G P co lc hc hn hs X)) 0 0 (fun q => lo ≤ q) := by
  have h := c_living l (D := D) (aC := aC) (lo := lo) (ad := ad) (n := n) (gl := gl) (E := E) (G := G) (P := P) (co := co) (lc := lc) (hc := hc) (hn := hn) (hs := hs) (X := X) (nI j) h200
  rw [cLiv_nI h1 h2 h200, hd] at h
  exact h

theorem c_livF (l : Launch) {D : va_G} {aC : Nat → ClassId} {lo : Nat} {ad : Nat → Nat} {n : Nat} {gl : Int32} {E : Nat → Ent} {G : Nat → Nat → Nat} {P : Nat} {co : Nat → Option Nat} {lc : Nat → Nat} {hc : Nat} {hn hs : Nat → Nat} {X : Nat → Option va_E} (j : Nat) (h1 : 1 ≤ j) (h2 : j ≤ n) (h200 : n ≤ 200) (hd : (E j).2.2.1 = true) : Met l yX3_living (wsO yX3_living cX3_living 3 (some (.object "WordTrees$Entry"))) ({ frames := 0, cells := 0, slots := 0, locals := 0 } : Room) (mPc D vwCl (tyA aC) lo ad (ctC aC ad n gl E G P co lc hc hn hs X) [.ref (ad 0), .int (nI j)]) (mD1 D vwCl lo (.null) ad (ctC aC ad n gl E G P co lc hc hn hs X)) 0 0 (fun q => lo ≤ q) := by
  have h := c_living l (D := D) (aC := aC) (lo := lo) (ad := ad) (n := n) (gl := gl) (E := E) (G := G) (P := P) (co := co) (lc := lc) (hc := hc) (hn := hn) (hs := hs) (X := X) (nI j) h200
  rw [cLiv_nI h1 h2 h200, hd] at h
  exact h

set_option maxHeartbeats 4000000 in
set_option maxRecDepth 100000 in
theorem c_mayBeFound (l : Launch) {D : va_G} {aC : Nat → ClassId} {lo : Nat} {ad : Nat → Nat} {n : Nat} {gl : Int32} {E : Nat → Ent} {G : Nat → Nat → Nat} {P : Nat} {co : Nat → Option Nat} {lc : Nat → Nat} {hc : Nat} {hn hs : Nat → Nat} {X : Nat → Option va_E} (i : Nat) (h1 : 1 ≤ i) (h2 : i ≤ n) (h200 : n ≤ 200) : Met l yX3_mayBeFound (wsO yX3_mayBeFound cX3_mayBeFound 2 (some .boolean)) ({ frames := 1, cells := 0, slots := 0, locals := 21 } : Room) (mPc D vwCl (tyA aC) lo ad (ctC aC ad n gl E G P co lc hc hn hs X) [.ref (ad 0), .ref (ad (2 * i + 8))]) (mD1 D vwCl lo (.int (bI (mbf gl (E i)))) ad (ctC aC ad n gl E G P co lc hc hn hs X)) 0 0 (fun q => lo ≤ q) := by
  refine Met.ofW (cc := cX3_mayBeFound) (maxL := 2) (ret := (some .boolean)) (by decide) rfl ?_
  intro pr en s0 mm args below meth cc0 s₁ B hml hv
  obtain ⟨rfl, hlo, hM, hKK⟩ := hv
  have hK := hKK.1
  have hr := B.returns
  have hts := atoms_spec (ws := (wsO yX3_mayBeFound cX3_mayBeFound 2 (some .boolean))) B.pre
  have F : CallFix pr mm cc0 cX3_mayBeFound 2 s0 (([.ref (ad 0), .ref (ad (2 * i + 8))] : List Value).toArray) (wsO yX3_mayBeFound cX3_mayBeFound 2 (some .boolean)) RX3 := ⟨B.exec, B.bytes, hml, findClass_of_methodNamed B.named, hts⟩
  have hx := F.1
  have hb := F.2.1
  have hlocks := B.notSynchronized
  have hS : va_S (fun q => lo ≤ q) s0.heap s0.heap [] := va_S.rf
  have hl := lv_entry ([.ref (ad 0), .ref (ad (2 * i + 8))]) (n := 2) (Nat.le_of_ble_eq_true rfl)
  rw [lg_entry_eq]
  generalize (lg_sl ([.ref (ad 0), .ref (ad (2 * i + 8))]) ++ List.replicate (2 - (lg_sl ([.ref (ad 0), .ref (ad (2 * i + 8))])).length) Slot.unset).toArray = ls at hl ⊢
  have hl : lv_has ls 2 [(0, .ref (ad 0)), (1, .ref (ad (2 * i + 8)))] := hl
  refine lv_aload_n hx hb dX3_mayBeFound_0 rfl (lv_at hl 1 rfl) ?_
  refine m_get F (ci := 0) (v := va_rf (oE ad (E i).2.2.2.1)) (fun w h => tb_O (inX0 w h)) hK hM (ctC_e h1 h2 h200) rfl 4 (by decide) (tb_O lkX3_55) rfl dX3_mayBeFound_1 ?_
  rcases hsf : (E i).2.2.2.1 with _ | k
  · skip
    refine m_val (v' := .null) rfl ?_
    refine lv_ifnonnullN hx hb dX3_mayBeFound_4 ?_
    refine lv_aload_n hx hb dX3_mayBeFound_7 rfl (lv_at hl 1 rfl) ?_
    refine lv_aload_n hx hb dX3_mayBeFound_8 rfl (lv_at hl 0 rfl) ?_
    refine m_get F (ci := 3) (v := .int gl) (fun w h => tb_O (inX3 w h)) hK hM ctC_0 rfl 4 (by decide) (tb_O lkX3_33) rfl dX3_mayBeFound_9 ?_
    refine m_d1 (v := .int (bI (inG (E i).2.1 gl))) (ct1 := ctC aC ad n gl E G P co lc hc hn hs X) (va_runV (As := [.int gl]) (rest := []) F (c_isWithin l (ke := 2 * i + 8) (ks := 2 * i + 9) (len := (E i).1) (gb := (E i).2.1) (db := bI (E i).2.2.1) (lv := nI (E i).2.2.2.2) (sv := va_rf (oE ad (E i).2.2.2.1)) gl (ctC_e h1 h2 h200)) (cwV 1 F.2.2.2.2 (go_V (fun _ h => tb_O h) mlX3_129 imX0_isWithin seX0_isWithin iniX0 cdX0_isWithin) rfl rfl rfl (by decide +kernel) ⟨Nat.le_of_ble_eq_true rfl, Nat.le_of_ble_eq_true rfl⟩) (mPreV hKK hM (Nat.le_trans hlo hS.1) (ctC_e h1 h2 h200) rfl) rfl rfl hl.1 rfl (lv_room (Nat.le_of_ble_eq_true rfl)) dX3_mayBeFound_12 ⟨Nat.le_of_ble_eq_true rfl, Nat.le_of_ble_eq_true rfl⟩) hS (fun H locs hM hS => ?_)
    refine lv_if_eq (tgt := 22) hx hb dX3_mayBeFound_15 (by decide) (fun c_15 => ?_) (fun c_15 => ?_)
    · skip
      refine lv_iconst (v := (nI 0)) hx hb dX3_mayBeFound_22 (by decide) ?_
      exact W.zret hx hb hr rfl (fun t ht hW => ⟨⟨_, _, _, rfl, ⟨by rw [show mbf gl (E i) = false by first | simp [mbf, hsf, bI_eq c_15] | simp [mbf, hsf]]; rfl, rfl, rfl⟩, by rw [ht]; exact hM⟩, hS.F ht⟩) hS.2.2 dX3_mayBeFound_23
    · skip
      refine lv_iconst (v := (nI 1)) hx hb dX3_mayBeFound_18 (by decide) ?_
      refine lv_goto (tgt := 23) hx hb dX3_mayBeFound_19 (by decide) ?_
      exact W.zret hx hb hr rfl (fun t ht hW => ⟨⟨_, _, _, rfl, ⟨by rw [show mbf gl (E i) = true by simp [mbf, hsf, bI_ne c_15]]; rfl, rfl, rfl⟩, by rw [ht]; exact hM⟩, hS.F ht⟩) hS.2.2 dX3_mayBeFound_23
  · skip
    refine m_val (v' := .ref (ad (2 * k + 8))) rfl ?_
    refine lv_ifnonnull (tgt := 22) hx hb dX3_mayBeFound_4 (by decide) ?_
    refine lv_iconst (v := (nI 0)) hx hb dX3_mayBeFound_22 (by decide) ?_
    exact W.zret hx hb hr rfl (fun t ht hW => ⟨⟨_, _, _, rfl, ⟨by rw [show mbf gl (E i) = false by first | simp [mbf, hsf, bI_eq c_15] | simp [mbf, hsf]]; rfl, rfl, rfl⟩, by rw [ht]; exact hM⟩, hS.F ht⟩) hS.2.2 dX3_mayBeFound_23

set_option maxHeartbeats 4000000 in
set_option maxRecDepth 100000 in
theorem c_countWithin (l : Launch) {D : va_G} {aC : Nat → ClassId} {lo : Nat} {ad : Nat → Nat} {n : Nat} {gl : Int32} {E : Nat → Ent} {G : Nat → Nat → Nat} {P : Nat} {co : Nat → Option Nat} {lc : Nat → Nat} {hc : Nat} {hn hs : Nat → Nat} {X : Nat → Option va_E} (x : Int32) (h200 : n ≤ 200) : Met l yX3_countWithin (wsO yX3_countWithin cX3_countWithin 5 (some .int)) ({ frames := 1, cells := 0, slots := 0, locals := 22 } : Room) (mPc D vwCl (tyA aC) lo ad (ctC aC ad n gl E G P co lc hc hn hs X) [.ref (ad 0), .int x]) (mD1 D vwCl lo (.int (nI (cnt (inW E x) n))) ad (ctC aC ad n gl E G P co lc hc hn hs X)) 0 0 (fun q => lo ≤ q) := by
  refine Met.ofW (cc := cX3_countWithin) (maxL := 5) (ret := (some .int)) (by decide) rfl ?_
  intro pr en s0 mm args below meth cc0 s₁ B hml hv
  obtain ⟨rfl, hlo, hM, hKK⟩ := hv
  have hK := hKK.1
  have hr := B.returns
  have hts := atoms_spec (ws := (wsO yX3_countWithin cX3_countWithin 5 (some .int))) B.pre
  have F : CallFix pr mm cc0 cX3_countWithin 5 s0 (([.ref (ad 0), .int x] : List Value).toArray) (wsO yX3_countWithin cX3_countWithin 5 (some .int)) RX3 := ⟨B.exec, B.bytes, hml, findClass_of_methodNamed B.named, hts⟩
  have hx := F.1
  have hb := F.2.1
  have hlocks := B.notSynchronized
  have hS : va_S (fun q => lo ≤ q) s0.heap s0.heap [] := va_S.rf
  have hl := lv_entry ([.ref (ad 0), .int x]) (n := 5) (Nat.le_of_ble_eq_true rfl)
  rw [lg_entry_eq]
  generalize (lg_sl ([.ref (ad 0), .int x]) ++ List.replicate (5 - (lg_sl ([.ref (ad 0), .int x])).length) Slot.unset).toArray = ls at hl ⊢
  have hl : lv_has ls 5 [(0, .ref (ad 0)), (1, .int x)] := hl
  have loop_4 : ∀ (fu : Nat) (i : Nat), (i ≤ n) → n + 1 - i ≤ fu → ∀ (H : Heap) (locs : List Loc) (ls : Array Slot), mw D vwCl lo ad (ctC aC ad n gl E G P co lc hc hn hs X) H → va_S (fun q => lo ≤ q) s0.heap H locs → lv_has ls 5 [(0, .ref (ad 0)), (1, .int x), (2, .int (nI (cnt (inW E x) i))), (3, .int (nI (i + 1)))] → W pr l en (headSpec (wsO yX3_countWithin cX3_countWithin 5 (some .int)) ({ frames := 1, cells := 0, slots := 0, locals := 22 } : Room)).room s0 mm (([.ref (ad 0), .int x] : List Value).toArray) below meth cc0 H locs 0 0 (MQ below (mD1 D vwCl lo (.int (nI (cnt (inW E x) n))) ad (ctC aC ad n gl E G P co lc hc hn hs X)) (([.ref (ad 0), .int x] : List Value).toArray) s0 0 0 (fun q => lo ≤ q)) (F0 mm 4 ls []) := by
    intro fu
    induction fu with
    | zero =>
      intro i hi hfu H locs ls hM hS hl
      exact absurd hfu (by omega)
    | succ fu ih_4 =>
      intro i hi hfu H locs ls hM hS hl
      have hcl := cnt_le (inW E x) i
      refine lv_iload_n hx hb dX3_countWithin_4 rfl (lv_at hl 3 rfl) ?_
      refine lv_aload_n hx hb dX3_countWithin_5 rfl (lv_at hl 0 rfl) ?_
      refine m_get F (ci := 3) (v := .int (nI n)) (fun w h => tb_O (inX3 w h)) hK hM ctC_0 rfl 1 (by decide) (tb_O lkX3_15) rfl dX3_countWithin_6 ?_
      refine m_icmp_gt F (a := (i + 1)) (b := n) (by omega) (by omega) (tgt := 42) dX3_countWithin_9 (by decide) (fun c_9 => ?_) (fun c_9 => ?_)
      · skip
        have hin : n = i := by omega
        subst hin
        refine lv_iload_n hx hb dX3_countWithin_42 rfl (lv_at hl 2 rfl) ?_
        exact W.iret hx hb hr (fun t ht hW => ⟨⟨_, _, _, rfl, ⟨rfl, rfl, rfl⟩, by rw [ht]; exact hM⟩, hS.F ht⟩) hS.2.2 dX3_countWithin_43
      · skip
        refine lv_aload_n hx hb dX3_countWithin_12 rfl (lv_at hl 0 rfl) ?_
        refine lv_iload_n hx hb dX3_countWithin_13 rfl (lv_at hl 3 rfl) ?_
        rcases hdr : (E (i + 1)).2.2.1 with _ | _
        · skip
          refine m_d1 (v := .ref (ad (2 * (i + 1) + 8))) (ct1 := ctC aC ad n gl E G P co lc hc hn hs X) (va_runV (As := [.int (nI (i + 1))]) (rest := []) F (c_livT l (i + 1) (by omega) (by omega) h200 hdr) (cwV 1 F.2.2.2.2 (go_V (fun _ h => tb_O h) mlX3_37 imX3_living seX3_living iniX3 cdX3_living) rfl rfl rfl (by decide +kernel) ⟨Nat.le_of_ble_eq_true rfl, Nat.le_of_ble_eq_true rfl⟩) (mPreV hKK hM (Nat.le_trans hlo hS.1) ctC_0 rfl) rfl rfl hl.1 rfl (lv_room (Nat.le_of_ble_eq_true rfl)) dX3_countWithin_14 ⟨Nat.le_of_ble_eq_true rfl, Nat.le_of_ble_eq_true rfl⟩) hS (fun H locs hM hS => ?_)
          refine lv_astore (lv' := [(4, .ref (ad (2 * (i + 1) + 8))), (0, .ref (ad 0)), (1, .int x), (2, .int (nI (cnt (inW E x) i))), (3, .int (nI (i + 1)))]) hx hb dX3_countWithin_17 hl (by decide) rfl (fun ls hl => ?_)
          refine lv_aload hx hb dX3_countWithin_19 (lv_at hl 0 rfl) ?_
          refine lv_ifnull hx hb dX3_countWithin_21 ?_
          refine lv_aload hx hb dX3_countWithin_24 (lv_at hl 0 rfl) ?_
          refine lv_iload_n hx hb dX3_countWithin_26 rfl (lv_at hl 2 rfl) ?_
          refine m_d1 (v := .int (bI (inG (E (i + 1)).2.1 x))) (ct1 := ctC aC ad n gl E G P co lc hc hn hs X) (va_runV (As := [.int x]) (rest := []) F (c_isWithin l (ke := 2 * (i + 1) + 8) (ks := 2 * (i + 1) + 9) (len := (E (i + 1)).1) (gb := (E (i + 1)).2.1) (db := bI (E (i + 1)).2.2.1) (lv := nI (E (i + 1)).2.2.2.2) (sv := va_rf (oE ad (E (i + 1)).2.2.2.1)) x (ctC_e (by omega) (by omega) h200)) (cwV 1 F.2.2.2.2 (go_V (fun _ h => tb_O h) mlX3_129 imX0_isWithin seX0_isWithin iniX0 cdX0_isWithin) rfl rfl rfl (by decide +kernel) ⟨Nat.le_of_ble_eq_true rfl, Nat.le_of_ble_eq_true rfl⟩) (mPreV hKK hM (Nat.le_trans hlo hS.1) (ctC_e (by omega) (by omega) h200) rfl) rfl rfl hl.1 rfl (lv_room (Nat.le_of_ble_eq_true rfl)) dX3_countWithin_27 ⟨Nat.le_of_ble_eq_true rfl, Nat.le_of_ble_eq_true rfl⟩) hS (fun H locs hM hS => ?_)
          refine lv_if_eq (tgt := 36) hx hb dX3_countWithin_30 (by decide) (fun c_30 => ?_) (fun c_30 => ?_)
          · skip
            refine lv_iinc (v := (nI (i + 1 + 1))) (lv' := [(3, .int (nI (i + 1 + 1))), (4, .ref (ad (2 * (i + 1) + 8))), (0, .ref (ad 0)), (1, .int x), (2, .int (nI (cnt (inW E x) i)))]) hx hb dX3_countWithin_36 hl (k := 4) rfl (nI_1 (i + 1)) (by decide) rfl (fun ls hl => ?_)
            refine lv_goto (tgt := 4) hx hb dX3_countWithin_39 (by decide) ?_
            have hcn : cnt (inW E x) (i + 1) = cnt (inW E x) i := by show cnt (inW E x) i + _ = _; rw [if_neg (by simp [inW, hdr, bI_eq c_30])]; rfl
            rw [← hcn] at hl
            exact ih_4 (i + 1) (by omega) (by omega) _ _ _ hM hS (lv_sub hl [2, 3, 4, 0] rfl)
          · skip
            refine lv_iinc (v := (nI (cnt (inW E x) i + 1))) (lv' := [(2, .int (nI (cnt (inW E x) i + 1))), (4, .ref (ad (2 * (i + 1) + 8))), (0, .ref (ad 0)), (1, .int x), (3, .int (nI (i + 1)))]) hx hb dX3_countWithin_33 hl (k := 3) rfl (nI_1 (cnt (inW E x) i)) (by decide) rfl (fun ls hl => ?_)
            refine lv_iinc (v := (nI (i + 1 + 1))) (lv' := [(3, .int (nI (i + 1 + 1))), (2, .int (nI (cnt (inW E x) i + 1))), (4, .ref (ad (2 * (i + 1) + 8))), (0, .ref (ad 0)), (1, .int x)]) hx hb dX3_countWithin_36 hl (k := 4) rfl (nI_1 (i + 1)) (by decide) rfl (fun ls hl => ?_)
            refine lv_goto (tgt := 4) hx hb dX3_countWithin_39 (by decide) ?_
            have hcn : cnt (inW E x) (i + 1) = cnt (inW E x) i + 1 := by show cnt (inW E x) i + _ = _; rw [if_pos (by simp [inW, hdr, bI_ne c_30])]
            rw [← hcn] at hl
            exact ih_4 (i + 1) (by omega) (by omega) _ _ _ hM hS (lv_sub hl [3, 4, 1, 0] rfl)
        · skip
          refine m_d1 (v := .null) (ct1 := ctC aC ad n gl E G P co lc hc hn hs X) (va_runV (As := [.int (nI (i + 1))]) (rest := []) F (c_livF l (i + 1) (by omega) (by omega) h200 hdr) (cwV 1 F.2.2.2.2 (go_V (fun _ h => tb_O h) mlX3_37 imX3_living seX3_living iniX3 cdX3_living) rfl rfl rfl (by decide +kernel) ⟨Nat.le_of_ble_eq_true rfl, Nat.le_of_ble_eq_true rfl⟩) (mPreV hKK hM (Nat.le_trans hlo hS.1) ctC_0 rfl) rfl rfl hl.1 rfl (lv_room (Nat.le_of_ble_eq_true rfl)) dX3_countWithin_14 ⟨Nat.le_of_ble_eq_true rfl, Nat.le_of_ble_eq_true rfl⟩) hS (fun H locs hM hS => ?_)
          refine lv_astoreN (lv' := [(4, .null), (0, .ref (ad 0)), (1, .int x), (2, .int (nI (cnt (inW E x) i))), (3, .int (nI (i + 1)))]) hx hb dX3_countWithin_17 hl (by decide) rfl (fun ls hl => ?_)
          refine lv_aloadN hx hb dX3_countWithin_19 (lv_at hl 0 rfl) ?_
          refine lv_ifnullN (tgt := 36) hx hb dX3_countWithin_21 (by decide) ?_
          refine lv_iinc (v := (nI (i + 1 + 1))) (lv' := [(3, .int (nI (i + 1 + 1))), (4, .null), (0, .ref (ad 0)), (1, .int x), (2, .int (nI (cnt (inW E x) i)))]) hx hb dX3_countWithin_36 hl (k := 4) rfl (nI_1 (i + 1)) (by decide) rfl (fun ls hl => ?_)
          refine lv_goto (tgt := 4) hx hb dX3_countWithin_39 (by decide) ?_
          have hcn : cnt (inW E x) (i + 1) = cnt (inW E x) i := by show cnt (inW E x) i + _ = _; rw [if_neg (by simp [inW, hdr])]; rfl
          rw [← hcn] at hl
          exact ih_4 (i + 1) (by omega) (by omega) _ _ _ hM hS (lv_sub hl [2, 3, 4, 0] rfl)
  refine lv_iconst (v := (nI 0)) hx hb dX3_countWithin_0 (by decide) ?_
  refine lv_istore_n (lv' := [(2, .int (nI 0)), (0, .ref (ad 0)), (1, .int x)]) hx hb dX3_countWithin_1 rfl hl (by decide) rfl (fun ls hl => ?_)
  refine lv_iconst (v := (nI 1)) hx hb dX3_countWithin_2 (by decide) ?_
  refine lv_istore_n (lv' := [(3, .int (nI 1)), (2, .int (nI 0)), (0, .ref (ad 0)), (1, .int x)]) hx hb dX3_countWithin_3 rfl hl (by decide) rfl (fun ls hl => ?_)
  exact loop_4 (n + 1) 0 (Nat.zero_le _) (by omega) _ _ _ hM hS (lv_sub hl [2, 3, 1, 0] rfl)

set_option maxHeartbeats 4000000 in
set_option maxRecDepth 100000 in
theorem c_countAb (l : Launch) {D : va_G} {aC : Nat → ClassId} {lo : Nat} {ad : Nat → Nat} {n : Nat} {gl : Int32} {E : Nat → Ent} {G : Nat → Nat → Nat} {P : Nat} {co : Nat → Option Nat} {lc : Nat → Nat} {hc : Nat} {hn hs : Nat → Nat} {X : Nat → Option va_E} (d : Nat) (hd1 : 1 ≤ d) (hd2 : d ≤ n) (h200 : n ≤ 200) (hsf : sfOk n E) : Met l yX3_countAbbreviations (wsO yX3_countAbbreviations cX3_countAbbreviations 5 (some .int)) ({ frames := 1, cells := 0, slots := 0, locals := 22 } : Room) (mPc D vwCl (tyA aC) lo ad (ctC aC ad n gl E G P co lc hc hn hs X) [.ref (ad 0), .ref (ad (2 * d + 8))]) (mD1 D vwCl lo (.int (nI (cnt (abO E d) n))) ad (ctC aC ad n gl E G P co lc hc hn hs X)) 0 0 (fun q => lo ≤ q) := by
  refine Met.ofW (cc := cX3_countAbbreviations) (maxL := 5) (ret := (some .int)) (by decide) rfl ?_
  intro pr en s0 mm args below meth cc0 s₁ B hml hv
  obtain ⟨rfl, hlo, hM, hKK⟩ := hv
  have hK := hKK.1
  have hr := B.returns
  have hts := atoms_spec (ws := (wsO yX3_countAbbreviations cX3_countAbbreviations 5 (some .int))) B.pre
  have F : CallFix pr mm cc0 cX3_countAbbreviations 5 s0 (([.ref (ad 0), .ref (ad (2 * d + 8))] : List Value).toArray) (wsO yX3_countAbbreviations cX3_countAbbreviations 5 (some .int)) RX3 := ⟨B.exec, B.bytes, hml, findClass_of_methodNamed B.named, hts⟩
  have hx := F.1
  have hb := F.2.1
  have hlocks := B.notSynchronized
  have hS : va_S (fun q => lo ≤ q) s0.heap s0.heap [] := va_S.rf
  have hl := lv_entry ([.ref (ad 0), .ref (ad (2 * d + 8))]) (n := 5) (Nat.le_of_ble_eq_true rfl)
  rw [lg_entry_eq]
  generalize (lg_sl ([.ref (ad 0), .ref (ad (2 * d + 8))]) ++ List.replicate (5 - (lg_sl ([.ref (ad 0), .ref (ad (2 * d + 8))])).length) Slot.unset).toArray = ls at hl ⊢
  have hl : lv_has ls 5 [(0, .ref (ad 0)), (1, .ref (ad (2 * d + 8)))] := hl
  have loop_4 : ∀ (fu : Nat) (i : Nat), (i ≤ n) → n + 1 - i ≤ fu → ∀ (H : Heap) (locs : List Loc) (ls : Array Slot), mw D vwCl lo ad (ctC aC ad n gl E G P co lc hc hn hs X) H → va_S (fun q => lo ≤ q) s0.heap H locs → lv_has ls 5 [(0, .ref (ad 0)), (1, .ref (ad (2 * d + 8))), (2, .int (nI (cnt (abO E d) i))), (3, .int (nI (i + 1)))] → W pr l en (headSpec (wsO yX3_countAbbreviations cX3_countAbbreviations 5 (some .int)) ({ frames := 1, cells := 0, slots := 0, locals := 22 } : Room)).room s0 mm (([.ref (ad 0), .ref (ad (2 * d + 8))] : List Value).toArray) below meth cc0 H locs 0 0 (MQ below (mD1 D vwCl lo (.int (nI (cnt (abO E d) n))) ad (ctC aC ad n gl E G P co lc hc hn hs X)) (([.ref (ad 0), .ref (ad (2 * d + 8))] : List Value).toArray) s0 0 0 (fun q => lo ≤ q)) (F0 mm 4 ls []) := by
    intro fu
    induction fu with
    | zero =>
      intro i hi hfu H locs ls hM hS hl
      exact absurd hfu (by omega)
    | succ fu ih_4 =>
      intro i hi hfu H locs ls hM hS hl
      have hcl := cnt_le (abO E d) i
      refine lv_iload_n hx hb dX3_countAbbreviations_4 rfl (lv_at hl 3 rfl) ?_
      refine lv_aload_n hx hb dX3_countAbbreviations_5 rfl (lv_at hl 0 rfl) ?_
      refine m_get F (ci := 3) (v := .int (nI n)) (fun w h => tb_O (inX3 w h)) hK hM ctC_0 rfl 1 (by decide) (tb_O lkX3_15) rfl dX3_countAbbreviations_6 ?_
      refine m_icmp_gt F (a := (i + 1)) (b := n) (by omega) (by omega) (tgt := 42) dX3_countAbbreviations_9 (by decide) (fun c_9 => ?_) (fun c_9 => ?_)
      · skip
        have hin : n = i := by omega
        subst hin
        refine lv_iload_n hx hb dX3_countAbbreviations_42 rfl (lv_at hl 2 rfl) ?_
        exact W.iret hx hb hr (fun t ht hW => ⟨⟨_, _, _, rfl, ⟨rfl, rfl, rfl⟩, by rw [ht]; exact hM⟩, hS.F ht⟩) hS.2.2 dX3_countAbbreviations_43
      · skip
        refine lv_aload_n hx hb dX3_countAbbreviations_12 rfl (lv_at hl 0 rfl) ?_
        refine lv_iload_n hx hb dX3_countAbbreviations_13 rfl (lv_at hl 3 rfl) ?_
        rcases hdr : (E (i + 1)).2.2.1 with _ | _
        · skip
          refine m_d1 (v := .ref (ad (2 * (i + 1) + 8))) (ct1 := ctC aC ad n gl E G P co lc hc hn hs X) (va_runV (As := [.int (nI (i + 1))]) (rest := []) F (c_livT l (i + 1) (by omega) (by omega) h200 hdr) (cwV 1 F.2.2.2.2 (go_V (fun _ h => tb_O h) mlX3_37 imX3_living seX3_living iniX3 cdX3_living) rfl rfl rfl (by decide +kernel) ⟨Nat.le_of_ble_eq_true rfl, Nat.le_of_ble_eq_true rfl⟩) (mPreV hKK hM (Nat.le_trans hlo hS.1) ctC_0 rfl) rfl rfl hl.1 rfl (lv_room (Nat.le_of_ble_eq_true rfl)) dX3_countAbbreviations_14 ⟨Nat.le_of_ble_eq_true rfl, Nat.le_of_ble_eq_true rfl⟩) hS (fun H locs hM hS => ?_)
          refine lv_astore (lv' := [(4, .ref (ad (2 * (i + 1) + 8))), (0, .ref (ad 0)), (1, .ref (ad (2 * d + 8))), (2, .int (nI (cnt (abO E d) i))), (3, .int (nI (i + 1)))]) hx hb dX3_countAbbreviations_17 hl (by decide) rfl (fun ls hl => ?_)
          refine lv_aload hx hb dX3_countAbbreviations_19 (lv_at hl 0 rfl) ?_
          refine lv_ifnull hx hb dX3_countAbbreviations_21 ?_
          refine lv_aload hx hb dX3_countAbbreviations_24 (lv_at hl 0 rfl) ?_
          refine m_get F (ci := 0) (v := va_rf (oE ad (E (i + 1)).2.2.2.1)) (fun w h => tb_O (inX0 w h)) hK hM (ctC_e (by omega) (by omega) h200) rfl 4 (by decide) (tb_O lkX3_55) rfl dX3_countAbbreviations_26 ?_
          refine lv_aload_n hx hb dX3_countAbbreviations_29 rfl (lv_at hl 2 rfl) ?_
          refine m_acmp_ne F (rx := oE ad (E (i + 1)).2.2.2.1) (tgt := 36) dX3_countAbbreviations_30 (by decide) (fun c_30 => ?_) (fun c_30 => ?_)
          · skip
            have hno : ¬ (E (i + 1)).2.2.2.1 = some d := fun q => c_30 ((oE_inj hM h200 hd1 hd2 (hsf (i + 1) (by omega) (by omega))).mpr q)
            refine lv_iinc (v := (nI (i + 1 + 1))) (lv' := [(3, .int (nI (i + 1 + 1))), (4, .ref (ad (2 * (i + 1) + 8))), (0, .ref (ad 0)), (1, .ref (ad (2 * d + 8))), (2, .int (nI (cnt (abO E d) i)))]) hx hb dX3_countAbbreviations_36 hl (k := 4) rfl (nI_1 (i + 1)) (by decide) rfl (fun ls hl => ?_)
            refine lv_goto (tgt := 4) hx hb dX3_countAbbreviations_39 (by decide) ?_
            have hcn : cnt (abO E d) (i + 1) = cnt (abO E d) i := by show cnt (abO E d) i + _ = _; rw [if_neg (by simp [abO, hdr, hno])]; rfl
            rw [← hcn] at hl
            exact ih_4 (i + 1) (by omega) (by omega) _ _ _ hM hS (lv_sub hl [2, 3, 4, 0] rfl)
          · skip
            have hno : (E (i + 1)).2.2.2.1 = some d := (oE_inj hM h200 hd1 hd2 (hsf (i + 1) (by omega) (by omega))).mp c_30
            refine lv_iinc (v := (nI (cnt (abO E d) i + 1))) (lv' := [(2, .int (nI (cnt (abO E d) i + 1))), (4, .ref (ad (2 * (i + 1) + 8))), (0, .ref (ad 0)), (1, .ref (ad (2 * d + 8))), (3, .int (nI (i + 1)))]) hx hb dX3_countAbbreviations_33 hl (k := 3) rfl (nI_1 (cnt (abO E d) i)) (by decide) rfl (fun ls hl => ?_)
            refine lv_iinc (v := (nI (i + 1 + 1))) (lv' := [(3, .int (nI (i + 1 + 1))), (2, .int (nI (cnt (abO E d) i + 1))), (4, .ref (ad (2 * (i + 1) + 8))), (0, .ref (ad 0)), (1, .ref (ad (2 * d + 8)))]) hx hb dX3_countAbbreviations_36 hl (k := 4) rfl (nI_1 (i + 1)) (by decide) rfl (fun ls hl => ?_)
            refine lv_goto (tgt := 4) hx hb dX3_countAbbreviations_39 (by decide) ?_
            have hcn : cnt (abO E d) (i + 1) = cnt (abO E d) i + 1 := by show cnt (abO E d) i + _ = _; rw [if_pos (by simp [abO, hdr, hno])]
            rw [← hcn] at hl
            exact ih_4 (i + 1) (by omega) (by omega) _ _ _ hM hS (lv_sub hl [3, 4, 1, 0] rfl)
        · skip
          refine m_d1 (v := .null) (ct1 := ctC aC ad n gl E G P co lc hc hn hs X) (va_runV (As := [.int (nI (i + 1))]) (rest := []) F (c_livF l (i + 1) (by omega) (by omega) h200 hdr) (cwV 1 F.2.2.2.2 (go_V (fun _ h => tb_O h) mlX3_37 imX3_living seX3_living iniX3 cdX3_living) rfl rfl rfl (by decide +kernel) ⟨Nat.le_of_ble_eq_true rfl, Nat.le_of_ble_eq_true rfl⟩) (mPreV hKK hM (Nat.le_trans hlo hS.1) ctC_0 rfl) rfl rfl hl.1 rfl (lv_room (Nat.le_of_ble_eq_true rfl)) dX3_countAbbreviations_14 ⟨Nat.le_of_ble_eq_true rfl, Nat.le_of_ble_eq_true rfl⟩) hS (fun H locs hM hS => ?_)
          refine lv_astoreN (lv' := [(4, .null), (0, .ref (ad 0)), (1, .ref (ad (2 * d + 8))), (2, .int (nI (cnt (abO E d) i))), (3, .int (nI (i + 1)))]) hx hb dX3_countAbbreviations_17 hl (by decide) rfl (fun ls hl => ?_)
          refine lv_aloadN hx hb dX3_countAbbreviations_19 (lv_at hl 0 rfl) ?_
          refine lv_ifnullN (tgt := 36) hx hb dX3_countAbbreviations_21 (by decide) ?_
          refine lv_iinc (v := (nI (i + 1 + 1))) (lv' := [(3, .int (nI (i + 1 + 1))), (4, .null), (0, .ref (ad 0)), (1, .ref (ad (2 * d + 8))), (2, .int (nI (cnt (abO E d) i)))]) hx hb dX3_countAbbreviations_36 hl (k := 4) rfl (nI_1 (i + 1)) (by decide) rfl (fun ls hl => ?_)
          refine lv_goto (tgt := 4) hx hb dX3_countAbbreviations_39 (by decide) ?_
          have hcn : cnt (abO E d) (i + 1) = cnt (abO E d) i := by show cnt (abO E d) i + _ = _; rw [if_neg (by simp [abO, hdr])]; rfl
          rw [← hcn] at hl
          exact ih_4 (i + 1) (by omega) (by omega) _ _ _ hM hS (lv_sub hl [2, 3, 4, 0] rfl)
  refine lv_iconst (v := (nI 0)) hx hb dX3_countAbbreviations_0 (by decide) ?_
  refine lv_istore_n (lv' := [(2, .int (nI 0)), (0, .ref (ad 0)), (1, .ref (ad (2 * d + 8)))]) hx hb dX3_countAbbreviations_1 rfl hl (by decide) rfl (fun ls hl => ?_)
  refine lv_iconst (v := (nI 1)) hx hb dX3_countAbbreviations_2 (by decide) ?_
  refine lv_istore_n (lv' := [(3, .int (nI 1)), (2, .int (nI 0)), (0, .ref (ad 0)), (1, .ref (ad (2 * d + 8)))]) hx hb dX3_countAbbreviations_3 rfl hl (by decide) rfl (fun ls hl => ?_)
  exact loop_4 (n + 1) 0 (Nat.zero_le _) (by omega) _ _ _ hM hS (lv_sub hl [2, 3, 1, 0] rfl)

set_option maxHeartbeats 4000000 in
set_option maxRecDepth 100000 in
theorem c_lookAtN (l : Launch) {D : va_G} {aC : Nat → ClassId} {lo : Nat} {ad : Nat → Nat} {n : Nat} {gl : Int32} {E : Nat → Ent} {G : Nat → Nat → Nat} {P : Nat} {co : Nat → Option Nat} {lc : Nat → Nat} {hc : Nat} {hn hs : Nat → Nat} {X : Nat → Option va_E} (x : Int32) (hx1 : ¬ x = -1) (hx2 : isGr x = false) (h200 : n ≤ 200) : Met l yX3_lookAt (wsO yX3_lookAt cX3_lookAt 2 (some .int)) ({ frames := 1, cells := 0, slots := 0, locals := 20 } : Room) (mPc D vwCl (tyA aC) lo ad (ctC aC ad n gl E G P co lc hc hn hs X) [.ref (ad 0), .int x]) (mD1 D vwCl lo (.int (-2)) ad (ctC aC ad n gl E G P co lc hc hn hs X)) 0 0 (fun q => lo ≤ q) := by
  refine Met.ofW (cc := cX3_lookAt) (maxL := 2) (ret := (some .int)) (by decide) rfl ?_
  intro pr en s0 mm args below meth cc0 s₁ B hml hv
  obtain ⟨rfl, hlo, hM, hKK⟩ := hv
  have hK := hKK.1
  have hr := B.returns
  have hts := atoms_spec (ws := (wsO yX3_lookAt cX3_lookAt 2 (some .int))) B.pre
  have F : CallFix pr mm cc0 cX3_lookAt 2 s0 (([.ref (ad 0), .int x] : List Value).toArray) (wsO yX3_lookAt cX3_lookAt 2 (some .int)) RX3 := ⟨B.exec, B.bytes, hml, findClass_of_methodNamed B.named, hts⟩
  have hx := F.1
  have hb := F.2.1
  have hlocks := B.notSynchronized
  have hS : va_S (fun q => lo ≤ q) s0.heap s0.heap [] := va_S.rf
  have hl := lv_entry ([.ref (ad 0), .int x]) (n := 2) (Nat.le_of_ble_eq_true rfl)
  rw [lg_entry_eq]
  generalize (lg_sl ([.ref (ad 0), .int x]) ++ List.replicate (2 - (lg_sl ([.ref (ad 0), .int x])).length) Slot.unset).toArray = ls at hl ⊢
  have hl : lv_has ls 2 [(0, .ref (ad 0)), (1, .int x)] := hl
  refine lv_iload_n hx hb dX3_lookAt_0 rfl (lv_at hl 1 rfl) ?_
  refine lv_iconst (v := (-1)) hx hb dX3_lookAt_1 (by decide) ?_
  refine lv_icmp_eq (tgt := 15) hx hb dX3_lookAt_2 (by decide) (fun c_2 => ?_) (fun c_2 => ?_)
  · skip
    exact absurd c_2 hx1
  · skip
    refine lv_iload_n hx hb dX3_lookAt_5 rfl (lv_at hl 1 rfl) ?_
    refine m_d1 (v := .int (bI (isGr x))) (ct1 := ctC aC ad n gl E G P co lc hc hn hs X) (va_runS (As := [.int x]) (rest := []) F (c_isGroup l x) (va_cwS 1 F.2.2.2.2 (go_S (fun _ h => tb_O h) mlX3_113 stX3_isGroup iniX3 cdX3_isGroup) rfl rfl rfl (by decide +kernel) ⟨Nat.le_of_ble_eq_true rfl, Nat.le_of_ble_eq_true rfl⟩) (mPreS hKK hM (Nat.le_trans hlo hS.1)) rfl rfl hl.1 rfl (lv_room (Nat.le_of_ble_eq_true rfl)) dX3_lookAt_6 ⟨Nat.le_of_ble_eq_true rfl, Nat.le_of_ble_eq_true rfl⟩) hS (fun H locs hM hS => ?_)
    refine lv_if_ne (tgt := 15) hx hb dX3_lookAt_9 (by decide) (fun c_9 => ?_) (fun c_9 => ?_)
    · skip
      exact absurd (by rw [hx2]; rfl) c_9
    · skip
      refine lv_bipush (v := (-2)) hx hb dX3_lookAt_12 (by decide) ?_
      exact W.iret hx hb hr (fun t ht hW => ⟨⟨_, _, _, rfl, ⟨rfl, rfl, rfl⟩, by rw [ht]; exact hM⟩, hS.F ht⟩) hS.2.2 dX3_lookAt_14

set_option maxHeartbeats 4000000 in
set_option maxRecDepth 100000 in
theorem c_lookAt (l : Launch) {D : va_G} {aC : Nat → ClassId} {lo : Nat} {ad : Nat → Nat} {n : Nat} {gl : Int32} {E : Nat → Ent} {G : Nat → Nat → Nat} {P : Nat} {co : Nat → Option Nat} {lc : Nat → Nat} {hc : Nat} {hn hs : Nat → Nat} {X : Nat → Option va_E} (x : Int32) (hxg : x = -1 ∨ isGr x = true) (h200 : n ≤ 200) : Met l yX3_lookAt (wsO yX3_lookAt cX3_lookAt 2 (some .int)) ({ frames := 2, cells := 0, slots := 0, locals := 46 } : Room) (mPc D vwCl (tyA aC) lo ad (ctC aC ad n gl E G P co lc hc hn hs X) [.ref (ad 0), .int x]) (mD1 D vwCl lo (.int (nI (cnt (inW E x) n))) ad (ctC aC ad n x E G P co lc hc hn hs X)) 0 0 (fun q => lo ≤ q) := by
  refine Met.ofW (cc := cX3_lookAt) (maxL := 2) (ret := (some .int)) (by decide) rfl ?_
  intro pr en s0 mm args below meth cc0 s₁ B hml hv
  obtain ⟨rfl, hlo, hM, hKK⟩ := hv
  have hK := hKK.1
  have hr := B.returns
  have hts := atoms_spec (ws := (wsO yX3_lookAt cX3_lookAt 2 (some .int))) B.pre
  have F : CallFix pr mm cc0 cX3_lookAt 2 s0 (([.ref (ad 0), .int x] : List Value).toArray) (wsO yX3_lookAt cX3_lookAt 2 (some .int)) RX3 := ⟨B.exec, B.bytes, hml, findClass_of_methodNamed B.named, hts⟩
  have hx := F.1
  have hb := F.2.1
  have hlocks := B.notSynchronized
  have hS : va_S (fun q => lo ≤ q) s0.heap s0.heap [] := va_S.rf
  have hl := lv_entry ([.ref (ad 0), .int x]) (n := 2) (Nat.le_of_ble_eq_true rfl)
  rw [lg_entry_eq]
  generalize (lg_sl ([.ref (ad 0), .int x]) ++ List.replicate (2 - (lg_sl ([.ref (ad 0), .int x])).length) Slot.unset).toArray = ls at hl ⊢
  have hl : lv_has ls 2 [(0, .ref (ad 0)), (1, .int x)] := hl
  refine lv_iload_n hx hb dX3_lookAt_0 rfl (lv_at hl 1 rfl) ?_
  refine lv_iconst (v := (-1)) hx hb dX3_lookAt_1 (by decide) ?_
  refine lv_icmp_eq (tgt := 15) hx hb dX3_lookAt_2 (by decide) (fun c_2 => ?_) (fun c_2 => ?_)
  · skip
    refine lv_aload_n hx hb dX3_lookAt_15 rfl (lv_at hl 0 rfl) ?_
    refine lv_iload_n hx hb dX3_lookAt_16 rfl (lv_at hl 1 rfl) ?_
    refine m_put F (ci := 3) (v := .int x) (fun w h => tb_O (inX3 w h)) mc_X3 hK hM hS ctC_0 4 (by decide) (tb_O lkX3_33) rfl rfl rfl (Nat.le_of_ble_eq_true rfl) dX3_lookAt_17 (fun H locs hM hS => ?_)
    have hM : mw D vwCl lo ad (va_up (ctC aC ad n gl E G P co lc hc hn hs X) 0 (some (.inr (3, [.ref (ad 1), .int (nI n), .ref (ad 2), .ref (ad 5), .int x])))) H := hM
    have hM : mw D vwCl lo ad (ctC aC ad n x E G P co lc hc hn hs X) H := by rw [ctC_gl] at hM; exact hM
    refine lv_aload_n hx hb dX3_lookAt_20 rfl (lv_at hl 0 rfl) ?_
    refine lv_iload_n hx hb dX3_lookAt_21 rfl (lv_at hl 1 rfl) ?_
    refine m_d1 (v := .int (nI (cnt (inW E x) n))) (ct1 := ctC aC ad n x E G P co lc hc hn hs X) (va_runV (As := [.int x]) (rest := []) F (c_countWithin l x h200) (cwV 1 F.2.2.2.2 (go_V (fun _ h => tb_O h) mlX3_59 imX3_countWithin seX3_countWithin iniX3 cdX3_countWithin) rfl rfl rfl (by decide +kernel) ⟨Nat.le_of_ble_eq_true rfl, Nat.le_of_ble_eq_true rfl⟩) (mPreV hKK hM (Nat.le_trans hlo hS.1) ctC_0 rfl) rfl rfl hl.1 rfl (lv_room (Nat.le_of_ble_eq_true rfl)) dX3_lookAt_22 ⟨Nat.le_of_ble_eq_true rfl, Nat.le_of_ble_eq_true rfl⟩) hS (fun H locs hM hS => ?_)
    exact W.iret hx hb hr (fun t ht hW => ⟨⟨_, _, _, rfl, ⟨rfl, rfl, rfl⟩, by rw [ht]; exact hM⟩, hS.F ht⟩) hS.2.2 dX3_lookAt_25
  · skip
    refine lv_iload_n hx hb dX3_lookAt_5 rfl (lv_at hl 1 rfl) ?_
    refine m_d1 (v := .int (bI (isGr x))) (ct1 := ctC aC ad n gl E G P co lc hc hn hs X) (va_runS (As := [.int x]) (rest := []) F (c_isGroup l x) (va_cwS 1 F.2.2.2.2 (go_S (fun _ h => tb_O h) mlX3_113 stX3_isGroup iniX3 cdX3_isGroup) rfl rfl rfl (by decide +kernel) ⟨Nat.le_of_ble_eq_true rfl, Nat.le_of_ble_eq_true rfl⟩) (mPreS hKK hM (Nat.le_trans hlo hS.1)) rfl rfl hl.1 rfl (lv_room (Nat.le_of_ble_eq_true rfl)) dX3_lookAt_6 ⟨Nat.le_of_ble_eq_true rfl, Nat.le_of_ble_eq_true rfl⟩) hS (fun H locs hM hS => ?_)
    refine lv_if_ne (tgt := 15) hx hb dX3_lookAt_9 (by decide) (fun c_9 => ?_) (fun c_9 => ?_)
    · skip
      refine lv_aload_n hx hb dX3_lookAt_15 rfl (lv_at hl 0 rfl) ?_
      refine lv_iload_n hx hb dX3_lookAt_16 rfl (lv_at hl 1 rfl) ?_
      refine m_put F (ci := 3) (v := .int x) (fun w h => tb_O (inX3 w h)) mc_X3 hK hM hS ctC_0 4 (by decide) (tb_O lkX3_33) rfl rfl rfl (Nat.le_of_ble_eq_true rfl) dX3_lookAt_17 (fun H locs hM hS => ?_)
      have hM : mw D vwCl lo ad (va_up (ctC aC ad n gl E G P co lc hc hn hs X) 0 (some (.inr (3, [.ref (ad 1), .int (nI n), .ref (ad 2), .ref (ad 5), .int x])))) H := hM
      have hM : mw D vwCl lo ad (ctC aC ad n x E G P co lc hc hn hs X) H := by rw [ctC_gl] at hM; exact hM
      refine lv_aload_n hx hb dX3_lookAt_20 rfl (lv_at hl 0 rfl) ?_
      refine lv_iload_n hx hb dX3_lookAt_21 rfl (lv_at hl 1 rfl) ?_
      refine m_d1 (v := .int (nI (cnt (inW E x) n))) (ct1 := ctC aC ad n x E G P co lc hc hn hs X) (va_runV (As := [.int x]) (rest := []) F (c_countWithin l x h200) (cwV 1 F.2.2.2.2 (go_V (fun _ h => tb_O h) mlX3_59 imX3_countWithin seX3_countWithin iniX3 cdX3_countWithin) rfl rfl rfl (by decide +kernel) ⟨Nat.le_of_ble_eq_true rfl, Nat.le_of_ble_eq_true rfl⟩) (mPreV hKK hM (Nat.le_trans hlo hS.1) ctC_0 rfl) rfl rfl hl.1 rfl (lv_room (Nat.le_of_ble_eq_true rfl)) dX3_lookAt_22 ⟨Nat.le_of_ble_eq_true rfl, Nat.le_of_ble_eq_true rfl⟩) hS (fun H locs hM hS => ?_)
      exact W.iret hx hb hr (fun t ht hW => ⟨⟨_, _, _, rfl, ⟨rfl, rfl, rfl⟩, by rw [ht]; exact hM⟩, hS.F ht⟩) hS.2.2 dX3_lookAt_25
    · skip
      exact absurd (hxg.resolve_left c_2) (by rw [bI_eq c_9]; decide)
end
section
set_option maxHeartbeats 4000000 in
set_option maxRecDepth 100000 in
theorem c_reckon (l : Launch) {D : va_G} {aC : Nat → ClassId} {lo : Nat} {ad : Nat → Nat} {n : Nat} {gl : Int32} {E : Nat → Ent} {G : Nat → Nat → Nat} {P : Nat} {co : Nat → Option Nat} {lc : Nat → Nat} {hc : Nat} {hn hs : Nat → Nat} {X : Nat → Option va_E} (h200 : n ≤ 200) (hP : P ≤ 20) (hco : ∀ k c, co k = some c → c ≤ 1000) (hlen : ∀ j, (E j).1 ≤ 20) (hsg : ∀ j k, 1 ≤ j → j ≤ n → k < (E j).1 → 33 ≤ G j k ∧ G j k ≤ 126) (hls : ∀ j, (E j).2.2.2.2 ≤ 100000) (hsfo : sfOk n E) : Met l yX3_reckonSums (wsO yX3_reckonSums cX3_reckonSums 3 none) ({ frames := 6, cells := 0, slots := 0, locals := 135 } : Room) (mPc D vwCl (tyA aC) lo ad (ctC aC ad n gl E G P co lc hc hn hs X) [.ref (ad 0)]) (mQ0 D vwCl lo (fun ad1 ct1 => ad1 = ad ∧ ∃ lc1, ct1 = ctC aC ad n gl (rkE P co G E n) G P co lc1 hc hn hs X)) 0 0 (fun q => lo ≤ q) := by
  refine Met.ofW (cc := cX3_reckonSums) (maxL := 3) (ret := none) (by decide) rfl ?_
  intro pr en s0 mm args below meth cc0 s₁ B hml hv
  obtain ⟨rfl, hlo, hM, hKK⟩ := hv
  have hK := hKK.1
  have hr := B.returns
  have hts := atoms_spec (ws := (wsO yX3_reckonSums cX3_reckonSums 3 none)) B.pre
  have F : CallFix pr mm cc0 cX3_reckonSums 3 s0 (([.ref (ad 0)] : List Value).toArray) (wsO yX3_reckonSums cX3_reckonSums 3 none) RX3 := ⟨B.exec, B.bytes, hml, findClass_of_methodNamed B.named, hts⟩
  have hx := F.1
  have hb := F.2.1
  have hlocks := B.notSynchronized
  have hS : va_S (fun q => lo ≤ q) s0.heap s0.heap [] := va_S.rf
  have hl := lv_entry ([.ref (ad 0)]) (n := 3) (Nat.le_of_ble_eq_true rfl)
  rw [lg_entry_eq]
  generalize (lg_sl ([.ref (ad 0)]) ++ List.replicate (3 - (lg_sl ([.ref (ad 0)])).length) Slot.unset).toArray = ls at hl ⊢
  have hl : lv_has ls 3 [(0, .ref (ad 0))] := hl
  have loop_40 : ∀ (fu : Nat) (i : Nat) (lc : Nat → Nat), (i ≤ n) → n + 1 - i ≤ fu → ∀ (H : Heap) (locs : List Loc) (ls : Array Slot), mw D vwCl lo ad (ctC aC ad n gl (rk2 (rk1 P co G E n) i) G P co lc hc hn hs X) H → va_S (fun q => lo ≤ q) s0.heap H locs → lv_has ls 3 [(0, .ref (ad 0)), (1, .int (nI (i + 1)))] → W pr l en (headSpec (wsO yX3_reckonSums cX3_reckonSums 3 none) ({ frames := 6, cells := 0, slots := 0, locals := 135 } : Room)).room s0 mm (([.ref (ad 0)] : List Value).toArray) below meth cc0 H locs 0 0 (MQ below (mQ0 D vwCl lo (fun ad1 ct1 => ad1 = ad ∧ ∃ lc1, ct1 = ctC aC ad n gl (rkE P co G E n) G P co lc1 hc hn hs X)) (([.ref (ad 0)] : List Value).toArray) s0 0 0 (fun q => lo ≤ q)) (F0 mm 40 ls []) := by
    intro fu
    induction fu with
    | zero =>
      intro i lc hi hfu H locs ls hM hS hl
      exact absurd hfu (by omega)
    | succ fu ih_40 =>
      intro i lc hi hfu H locs ls hM hS hl
      refine lv_iload_n hx hb dX3_reckonSums_40 rfl (lv_at hl 1 rfl) ?_
      refine lv_aload_n hx hb dX3_reckonSums_41 rfl (lv_at hl 0 rfl) ?_
      refine m_get F (ci := 3) (v := .int (nI n)) (fun w h => tb_O (inX3 w h)) hK hM ctC_0 rfl 1 (by decide) (tb_O lkX3_15) rfl dX3_reckonSums_42 ?_
      refine m_icmp_gt F (a := (i + 1)) (b := n) (by omega) (by omega) (tgt := 92) dX3_reckonSums_45 (by decide) (fun c_45 => ?_) (fun c_45 => ?_)
      · skip
        have hin : n = i := by omega
        subst hin
        exact W.vret hx hb hr (fun t ht hW => ⟨⟨_, _, rfl, ⟨rfl, _, rfl⟩, by rw [ht]; exact hM⟩, hS.F ht⟩) hS.2.2 dX3_reckonSums_92
      · skip
        have hk3 := rk2_keep (rk1 P co G E n) i (i + 1)
        have hdq : (rk1 P co G E n (i + 1)).2.2.1 = (E (i + 1)).2.2.1 := rk1_dr
        have hsq : (rk1 P co G E n (i + 1)).2.2.2.1 = (E (i + 1)).2.2.2.1 := rk1_sf
        refine lv_aload_n hx hb dX3_reckonSums_48 rfl (lv_at hl 0 rfl) ?_
        refine lv_iload_n hx hb dX3_reckonSums_49 rfl (lv_at hl 1 rfl) ?_
        rcases hdr : (E (i + 1)).2.2.1 with _ | _
        · skip
          refine m_d1 (v := .ref (ad (2 * (i + 1) + 8))) (ct1 := ctC aC ad n gl (rk2 (rk1 P co G E n) i) G P co lc hc hn hs X) (va_runV (As := [.int (nI (i + 1))]) (rest := []) F (c_livT l (i + 1) (by omega) (by omega) h200 (by rw [hk3.2.2.1, hdq]; exact hdr)) (cwV 1 F.2.2.2.2 (go_V (fun _ h => tb_O h) mlX3_37 imX3_living seX3_living iniX3 cdX3_living) rfl rfl rfl (by decide +kernel) ⟨Nat.le_of_ble_eq_true rfl, Nat.le_of_ble_eq_true rfl⟩) (mPreV hKK hM (Nat.le_trans hlo hS.1) ctC_0 rfl) rfl rfl hl.1 rfl (lv_room (Nat.le_of_ble_eq_true rfl)) dX3_reckonSums_50 ⟨Nat.le_of_ble_eq_true rfl, Nat.le_of_ble_eq_true rfl⟩) hS (fun H locs hM hS => ?_)
          refine lv_astore_n (lv' := [(2, .ref (ad (2 * (i + 1) + 8))), (0, .ref (ad 0)), (1, .int (nI (i + 1)))]) hx hb dX3_reckonSums_53 rfl hl (by decide) rfl (fun ls hl => ?_)
          refine lv_aload_n hx hb dX3_reckonSums_54 rfl (lv_at hl 0 rfl) ?_
          refine lv_ifnull hx hb dX3_reckonSums_55 ?_
          refine lv_aload_n hx hb dX3_reckonSums_58 rfl (lv_at hl 0 rfl) ?_
          refine m_get F (ci := 0) (v := va_rf (oE ad ((rk2 (rk1 P co G E n) i) (i + 1)).2.2.2.1)) (fun w h => tb_O (inX0 w h)) hK hM (ctC_e (by omega) (by omega) h200) rfl 4 (by decide) (tb_O lkX3_55) rfl dX3_reckonSums_59 ?_
          rcases hsf : ((rk2 (rk1 P co G E n) i) (i + 1)).2.2.2.1 with _ | k
          · skip
            refine m_val (v' := .null) rfl ?_
            have hsn : (E (i + 1)).2.2.2.1 = none := by rw [← hsq, ← hk3.2.2.2]; exact hsf
            refine lv_ifnullN (tgt := 86) hx hb dX3_reckonSums_62 (by decide) ?_
            refine lv_iinc (v := (nI (i + 1 + 1))) (lv' := [(1, .int (nI (i + 1 + 1))), (2, .ref (ad (2 * (i + 1) + 8))), (0, .ref (ad 0))]) hx hb dX3_reckonSums_86 hl (k := 2) rfl (nI_1 (i + 1)) (by decide) rfl (fun ls hl => ?_)
            refine lv_goto (tgt := 40) hx hb dX3_reckonSums_89 (by decide) ?_
            exact ih_40 (i + 1) lc (by omega) (by omega) _ _ _ (by rw [rk2_no (by rw [hdq]; exact hdr) (by rw [hsq]; exact hsn)]; exact hM) hS (lv_sub hl [2, 0] rfl)
          · skip
            refine m_val (v' := .ref (ad (2 * k + 8))) rfl ?_
            have hsn : (E (i + 1)).2.2.2.1 = some k := by rw [← hsq, ← hk3.2.2.2]; exact hsf
            have hkk := hsfo (i + 1) (by omega) (by omega) k hsn
            have hk1 := hkk.1
            have hk2 := hkk.2
            have hlk := rk2_ls (rk1_ls (P := P) (co := co) (G := G) (i := n) hP hlen hls) i k
            have hli := rk2_ls (rk1_ls (P := P) (co := co) (G := G) (i := n) hP hlen hls) i (i + 1)
            refine lv_ifnull hx hb dX3_reckonSums_62 ?_
            refine lv_aload_n hx hb dX3_reckonSums_65 rfl (lv_at hl 0 rfl) ?_
            refine m_get F (ci := 0) (v := va_rf (oE ad ((rk2 (rk1 P co G E n) i) (i + 1)).2.2.2.1)) (fun w h => tb_O (inX0 w h)) hK hM (ctC_e (by omega) (by omega) h200) rfl 4 (by decide) (tb_O lkX3_55) rfl dX3_reckonSums_66 ?_
            refine m_val (v' := .ref (ad (2 * k + 8))) (by rw [hsf]; rfl) ?_
            refine lv_aload_n hx hb dX3_reckonSums_69 rfl (lv_at hl 0 rfl) ?_
            refine m_get F (ci := 0) (v := va_rf (oE ad ((rk2 (rk1 P co G E n) i) (i + 1)).2.2.2.1)) (fun w h => tb_O (inX0 w h)) hK hM (ctC_e (by omega) (by omega) h200) rfl 4 (by decide) (tb_O lkX3_55) rfl dX3_reckonSums_70 ?_
            refine m_val (v' := .ref (ad (2 * k + 8))) (by rw [hsf]; rfl) ?_
            refine m_get F (ci := 0) (v := .int (nI (((rk2 (rk1 P co G E n) i) k).2.2.2.2))) (fun w h => tb_O (inX0 w h)) hK hM (ctC_e hk1 hk2 h200) rfl 5 (by decide) (tb_O lkX3_84) rfl dX3_reckonSums_73 ?_
            refine lv_aload_n hx hb dX3_reckonSums_76 rfl (lv_at hl 0 rfl) ?_
            refine m_get F (ci := 0) (v := .int (nI (((rk2 (rk1 P co G E n) i) (i + 1)).2.2.2.2))) (fun w h => tb_O (inX0 w h)) hK hM (ctC_e (by omega) (by omega) h200) rfl 5 (by decide) (tb_O lkX3_84) rfl dX3_reckonSums_77 ?_
            refine va_mmin hx hb (F.2.2.1.trans hl.1.symm) F.2.2.2.1 (F.2.2.2.2 _ (tb_O mlX3_135)) (F.2.2.2.2 _ (tb_O st_min)) (F.2.2.2.2 _ (tb_O iniMath)) (F.2.2.2.2 _ (tb_O cd_min)) (Nat.le_of_ble_eq_true rfl) (Nat.le_of_ble_eq_true rfl) (Nat.le_of_ble_eq_true rfl) (Nat.le_of_ble_eq_true rfl) dX3_reckonSums_80 ?_
            refine m_top (y := (nI (min ((rk2 (rk1 P co G E n) i) k).2.2.2.2 ((rk2 (rk1 P co G E n) i) (i + 1)).2.2.2.2))) (mn_nI (by omega) (by omega)) ?_
            refine m_put F (ci := 0) (v := .int (nI (min ((rk2 (rk1 P co G E n) i) k).2.2.2.2 ((rk2 (rk1 P co G E n) i) (i + 1)).2.2.2.2))) (fun w h => tb_O (inX0 w h)) mc_X0 hK hM hS (ctC_e hk1 hk2 h200) 5 (by decide) (tb_O lkX3_84) rfl rfl rfl (Nat.le_of_ble_eq_true rfl) dX3_reckonSums_83 (fun H locs hM hS => ?_)
            have hM : mw D vwCl lo ad (va_up (ctC aC ad n gl (rk2 (rk1 P co G E n) i) G P co lc hc hn hs X) (2 * k + 8) (some (.inr (0, [.ref (ad (2 * k + 9)), .int (nI (((rk2 (rk1 P co G E n) i) k).1)), .int (((rk2 (rk1 P co G E n) i) k).2.1), .int (bI ((rk2 (rk1 P co G E n) i) k).2.2.1), va_rf (oE ad ((rk2 (rk1 P co G E n) i) k).2.2.2.1), .int (nI (min ((rk2 (rk1 P co G E n) i) k).2.2.2.2 ((rk2 (rk1 P co G E n) i) (i + 1)).2.2.2.2))])))) H := hM
            have hM : mw D vwCl lo ad (ctC aC ad n gl (rk2 (rk1 P co G E n) (i + 1)) G P co lc hc hn hs X) H := by
                have h9 : mw D vwCl lo ad (va_up (ctC aC ad n gl (rk2 (rk1 P co G E n) i) G P co lc hc hn hs X) (2 * k + 8) (some (entO ad k (seL ((rk2 (rk1 P co G E n) i) k) (min ((rk2 (rk1 P co G E n) i) k).2.2.2.2 ((rk2 (rk1 P co G E n) i) (i + 1)).2.2.2.2))))) H := hM
                rw [ctC_E hk1 hk2 h200, ← rk2_so (by rw [hdq]; exact hdr) (by rw [hsq]; exact hsn)] at h9
                exact h9
            refine lv_iinc (v := (nI (i + 1 + 1))) (lv' := [(1, .int (nI (i + 1 + 1))), (2, .ref (ad (2 * (i + 1) + 8))), (0, .ref (ad 0))]) hx hb dX3_reckonSums_86 hl (k := 2) rfl (nI_1 (i + 1)) (by decide) rfl (fun ls hl => ?_)
            refine lv_goto (tgt := 40) hx hb dX3_reckonSums_89 (by decide) ?_
            exact ih_40 (i + 1) lc (by omega) (by omega) _ _ _ hM hS (lv_sub hl [2, 0] rfl)
        · skip
          refine m_d1 (v := .null) (ct1 := ctC aC ad n gl (rk2 (rk1 P co G E n) i) G P co lc hc hn hs X) (va_runV (As := [.int (nI (i + 1))]) (rest := []) F (c_livF l (i + 1) (by omega) (by omega) h200 (by rw [hk3.2.2.1, hdq]; exact hdr)) (cwV 1 F.2.2.2.2 (go_V (fun _ h => tb_O h) mlX3_37 imX3_living seX3_living iniX3 cdX3_living) rfl rfl rfl (by decide +kernel) ⟨Nat.le_of_ble_eq_true rfl, Nat.le_of_ble_eq_true rfl⟩) (mPreV hKK hM (Nat.le_trans hlo hS.1) ctC_0 rfl) rfl rfl hl.1 rfl (lv_room (Nat.le_of_ble_eq_true rfl)) dX3_reckonSums_50 ⟨Nat.le_of_ble_eq_true rfl, Nat.le_of_ble_eq_true rfl⟩) hS (fun H locs hM hS => ?_)
          refine lv_astore_nN (lv' := [(2, .null), (0, .ref (ad 0)), (1, .int (nI (i + 1)))]) hx hb dX3_reckonSums_53 rfl hl (by decide) rfl (fun ls hl => ?_)
          refine lv_aload_nN hx hb dX3_reckonSums_54 rfl (lv_at hl 0 rfl) ?_
          refine lv_ifnullN (tgt := 86) hx hb dX3_reckonSums_55 (by decide) ?_
          refine lv_iinc (v := (nI (i + 1 + 1))) (lv' := [(1, .int (nI (i + 1 + 1))), (2, .null), (0, .ref (ad 0))]) hx hb dX3_reckonSums_86 hl (k := 2) rfl (nI_1 (i + 1)) (by decide) rfl (fun ls hl => ?_)
          refine lv_goto (tgt := 40) hx hb dX3_reckonSums_89 (by decide) ?_
          exact ih_40 (i + 1) lc (by omega) (by omega) _ _ _ (by rw [rk2_dr (by rw [hdq]; exact hdr)]; exact hM) hS (lv_sub hl [2, 0] rfl)
  have loop_2 : ∀ (fu : Nat) (i : Nat) (lc : Nat → Nat), (i ≤ n) → n + 1 - i ≤ fu → ∀ (H : Heap) (locs : List Loc) (ls : Array Slot), mw D vwCl lo ad (ctC aC ad n gl (rk1 P co G E i) G P co lc hc hn hs X) H → va_S (fun q => lo ≤ q) s0.heap H locs → lv_has ls 3 [(0, .ref (ad 0)), (1, .int (nI (i + 1)))] → W pr l en (headSpec (wsO yX3_reckonSums cX3_reckonSums 3 none) ({ frames := 6, cells := 0, slots := 0, locals := 135 } : Room)).room s0 mm (([.ref (ad 0)] : List Value).toArray) below meth cc0 H locs 0 0 (MQ below (mQ0 D vwCl lo (fun ad1 ct1 => ad1 = ad ∧ ∃ lc1, ct1 = ctC aC ad n gl (rkE P co G E n) G P co lc1 hc hn hs X)) (([.ref (ad 0)] : List Value).toArray) s0 0 0 (fun q => lo ≤ q)) (F0 mm 2 ls []) := by
    intro fu
    induction fu with
    | zero =>
      intro i lc hi hfu H locs ls hM hS hl
      exact absurd hfu (by omega)
    | succ fu ih_2 =>
      intro i lc hi hfu H locs ls hM hS hl
      refine lv_iload_n hx hb dX3_reckonSums_2 rfl (lv_at hl 1 rfl) ?_
      refine lv_aload_n hx hb dX3_reckonSums_3 rfl (lv_at hl 0 rfl) ?_
      refine m_get F (ci := 3) (v := .int (nI n)) (fun w h => tb_O (inX3 w h)) hK hM ctC_0 rfl 1 (by decide) (tb_O lkX3_15) rfl dX3_reckonSums_4 ?_
      refine m_icmp_gt F (a := (i + 1)) (b := n) (by omega) (by omega) (tgt := 38) dX3_reckonSums_7 (by decide) (fun c_7 => ?_) (fun c_7 => ?_)
      · skip
        have hin : n = i := by omega
        subst hin
        refine lv_iconst (v := (nI 1)) hx hb dX3_reckonSums_38 (by decide) ?_
        refine lv_istore_n (lv' := [(1, .int (nI 1)), (0, .ref (ad 0))]) hx hb dX3_reckonSums_39 rfl hl (by decide) rfl (fun ls hl => ?_)
        exact loop_40 (n + 1) 0 lc (Nat.zero_le _) (by omega) _ _ _ hM hS (lv_sub hl [1, 0] rfl)
      · skip
        have hrk : rk1 P co G E i (i + 1) = E (i + 1) := rk1_at (by omega)
        refine lv_aload_n hx hb dX3_reckonSums_10 rfl (lv_at hl 0 rfl) ?_
        refine lv_iload_n hx hb dX3_reckonSums_11 rfl (lv_at hl 1 rfl) ?_
        rcases hdr : (E (i + 1)).2.2.1 with _ | _
        · skip
          refine m_d1 (v := .ref (ad (2 * (i + 1) + 8))) (ct1 := ctC aC ad n gl (rk1 P co G E i) G P co lc hc hn hs X) (va_runV (As := [.int (nI (i + 1))]) (rest := []) F (c_livT l (i + 1) (by omega) (by omega) h200 (by rw [rk1_dr]; exact hdr)) (cwV 1 F.2.2.2.2 (go_V (fun _ h => tb_O h) mlX3_37 imX3_living seX3_living iniX3 cdX3_living) rfl rfl rfl (by decide +kernel) ⟨Nat.le_of_ble_eq_true rfl, Nat.le_of_ble_eq_true rfl⟩) (mPreV hKK hM (Nat.le_trans hlo hS.1) ctC_0 rfl) rfl rfl hl.1 rfl (lv_room (Nat.le_of_ble_eq_true rfl)) dX3_reckonSums_12 ⟨Nat.le_of_ble_eq_true rfl, Nat.le_of_ble_eq_true rfl⟩) hS (fun H locs hM hS => ?_)
          refine lv_astore_n (lv' := [(2, .ref (ad (2 * (i + 1) + 8))), (0, .ref (ad 0)), (1, .int (nI (i + 1)))]) hx hb dX3_reckonSums_15 rfl hl (by decide) rfl (fun ls hl => ?_)
          refine lv_aload_n hx hb dX3_reckonSums_16 rfl (lv_at hl 0 rfl) ?_
          refine lv_ifnull hx hb dX3_reckonSums_17 ?_
          refine lv_aload_n hx hb dX3_reckonSums_20 rfl (lv_at hl 0 rfl) ?_
          refine lv_aload_n hx hb dX3_reckonSums_21 rfl (lv_at hl 1 rfl) ?_
          refine m_get F (ci := 3) (v := .ref (ad 2)) (fun w h => tb_O (inX3 w h)) hK hM ctC_0 rfl 2 (by decide) (tb_O lkX3_22) rfl dX3_reckonSums_22 ?_
          refine lv_aload_n hx hb dX3_reckonSums_25 rfl (lv_at hl 0 rfl) ?_
          refine m_d1 (v := .int (nI (lcR P co (G (i + 1)) lc (E (i + 1)).1 P))) (ct1 := va_up (ctC aC ad n gl (rk1 P co G E i) G P co lc hc hn hs X) 4 (some (iA aC 21 (fun j => nI ((lcR P co (G (i + 1)) lc (E (i + 1)).1) j))))) (va_runV (As := [.ref (ad (2 * (i + 1) + 8))]) (rest := [.ref (ad (2 * (i + 1) + 8))]) F (c_leastCostOf l (ke := 2 * (i + 1) + 8) (ks := 2 * (i + 1) + 9) (len := (E (i + 1)).1) (gb := (E (i + 1)).2.1) (db := bI (E (i + 1)).2.2.1) (lv := nI (E (i + 1)).2.2.2.2) (sv := va_rf (oE ad (E (i + 1)).2.2.2.1)) (g := G (i + 1)) ctC_2 ctC_3 ctC_4 (by rw [ctC_e (by omega) (by omega) h200, hrk]; rfl) (ctC_s (by omega) (by omega) h200) (by omega) (by omega) (fun j hj => hsg (i + 1) j (by omega) (by omega) hj) (hlen (i + 1)) hP hco) (cwV 1 F.2.2.2.2 (go_V (fun _ h => tb_O h) mlX3_132 imX2_leastCostOf seX2_leastCostOf iniX2 cdX2_leastCostOf) rfl rfl rfl (by decide +kernel) ⟨Nat.le_of_ble_eq_true rfl, Nat.le_of_ble_eq_true rfl⟩) (mPreV hKK hM (Nat.le_trans hlo hS.1) ctC_2 rfl) rfl rfl hl.1 rfl (lv_room (Nat.le_of_ble_eq_true rfl)) dX3_reckonSums_26 ⟨Nat.le_of_ble_eq_true rfl, Nat.le_of_ble_eq_true rfl⟩) hS (fun H locs hM hS => ?_)
          have hM : mw D vwCl lo ad (ctC aC ad n gl (rk1 P co G E i) G P co (lcR P co (G (i + 1)) lc (E (i + 1)).1) hc hn hs X) H := by rw [ctC_lc] at hM; exact hM
          refine m_top (y := nI (own P co (G (i + 1)) (E (i + 1)).1)) (congrArg nI (lcR_any (c' := fun _ => 0) (E (i + 1)).1 P (Nat.le_refl P))) ?_
          refine m_put F (ci := 0) (v := .int (nI (own P co (G (i + 1)) (E (i + 1)).1))) (fun w h => tb_O (inX0 w h)) mc_X0 hK hM hS (ctC_e (by omega) (by omega) h200) 5 (by decide) (tb_O lkX3_84) rfl rfl rfl (Nat.le_of_ble_eq_true rfl) dX3_reckonSums_29 (fun H locs hM hS => ?_)
          have hM : mw D vwCl lo ad (va_up (ctC aC ad n gl (rk1 P co G E i) G P co (lcR P co (G (i + 1)) lc (E (i + 1)).1) hc hn hs X) (2 * (i + 1) + 8) (some (.inr (0, [.ref (ad (2 * (i + 1) + 9)), .int (nI (((rk1 P co G E i) (i + 1)).1)), .int (((rk1 P co G E i) (i + 1)).2.1), .int (bI ((rk1 P co G E i) (i + 1)).2.2.1), va_rf (oE ad ((rk1 P co G E i) (i + 1)).2.2.2.1), .int (nI (own P co (G (i + 1)) (E (i + 1)).1))])))) H := hM
          have hM : mw D vwCl lo ad (ctC aC ad n gl (rk1 P co G E (i + 1)) G P co (lcR P co (G (i + 1)) lc (E (i + 1)).1) hc hn hs X) H := by
              have h9 : mw D vwCl lo ad (va_up (ctC aC ad n gl (rk1 P co G E i) G P co (lcR P co (G (i + 1)) lc (E (i + 1)).1) hc hn hs X) (2 * (i + 1) + 8) (some (entO ad (i + 1) (seL (rk1 P co G E i (i + 1)) (own P co (G (i + 1)) (E (i + 1)).1))))) H := hM
              rw [ctC_E (by omega) (by omega) h200, hrk, rk1_s hdr] at h9
              exact h9
          refine lv_iinc (v := (nI (i + 1 + 1))) (lv' := [(1, .int (nI (i + 1 + 1))), (2, .ref (ad (2 * (i + 1) + 8))), (0, .ref (ad 0))]) hx hb dX3_reckonSums_32 hl (k := 2) rfl (nI_1 (i + 1)) (by decide) rfl (fun ls hl => ?_)
          refine lv_goto (tgt := 2) hx hb dX3_reckonSums_35 (by decide) ?_
          exact ih_2 (i + 1) (lcR P co (G (i + 1)) lc (E (i + 1)).1) (by omega) (by omega) _ _ _ hM hS (lv_sub hl [2, 0] rfl)
        · skip
          refine m_d1 (v := .null) (ct1 := ctC aC ad n gl (rk1 P co G E i) G P co lc hc hn hs X) (va_runV (As := [.int (nI (i + 1))]) (rest := []) F (c_livF l (i + 1) (by omega) (by omega) h200 (by rw [rk1_dr]; exact hdr)) (cwV 1 F.2.2.2.2 (go_V (fun _ h => tb_O h) mlX3_37 imX3_living seX3_living iniX3 cdX3_living) rfl rfl rfl (by decide +kernel) ⟨Nat.le_of_ble_eq_true rfl, Nat.le_of_ble_eq_true rfl⟩) (mPreV hKK hM (Nat.le_trans hlo hS.1) ctC_0 rfl) rfl rfl hl.1 rfl (lv_room (Nat.le_of_ble_eq_true rfl)) dX3_reckonSums_12 ⟨Nat.le_of_ble_eq_true rfl, Nat.le_of_ble_eq_true rfl⟩) hS (fun H locs hM hS => ?_)
          refine lv_astore_nN (lv' := [(2, .null), (0, .ref (ad 0)), (1, .int (nI (i + 1)))]) hx hb dX3_reckonSums_15 rfl hl (by decide) rfl (fun ls hl => ?_)
          refine lv_aload_nN hx hb dX3_reckonSums_16 rfl (lv_at hl 0 rfl) ?_
          refine lv_ifnullN (tgt := 32) hx hb dX3_reckonSums_17 (by decide) ?_
          refine lv_iinc (v := (nI (i + 1 + 1))) (lv' := [(1, .int (nI (i + 1 + 1))), (2, .null), (0, .ref (ad 0))]) hx hb dX3_reckonSums_32 hl (k := 2) rfl (nI_1 (i + 1)) (by decide) rfl (fun ls hl => ?_)
          refine lv_goto (tgt := 2) hx hb dX3_reckonSums_35 (by decide) ?_
          exact ih_2 (i + 1) lc (by omega) (by omega) _ _ _ (by rw [rk1_n hdr]; exact hM) hS (lv_sub hl [2, 0] rfl)
  refine lv_iconst (v := (nI 1)) hx hb dX3_reckonSums_0 (by decide) ?_
  refine lv_istore_n (lv' := [(1, .int (nI 1)), (0, .ref (ad 0))]) hx hb dX3_reckonSums_1 rfl hl (by decide) rfl (fun ls hl => ?_)
  have hM : mw D vwCl lo ad (ctC aC ad n gl (rk1 P co G E 0) G P co lc hc hn hs X) s0.heap := by rw [rk1_0]; exact hM
  exact loop_2 (n + 1) 0 lc (Nat.zero_le _) (by omega) _ _ _ hM hS (lv_sub hl [1, 0] rfl)

set_option maxHeartbeats 4000000 in
set_option maxRecDepth 100000 in
theorem c_findN (l : Launch) {D : va_G} {aC : Nat → ClassId} {lo : Nat} {ad : Nat → Nat} {n : Nat} {gl : Int32} {E : Nat → Ent} {G : Nat → Nat → Nat} {P : Nat} {co : Nat → Option Nat} {lc : Nat → Nat} {hc : Nat} {hn hs : Nat → Nat} {X : Nat → Option va_E} (x : Int32) (hk : isK x = false) : Met l yX3_find (wsO yX3_find cX3_find 4 (some .int)) ({ frames := 1, cells := 0, slots := 0, locals := 20 } : Room) (mPc D vwCl (tyA aC) lo ad (ctC aC ad n gl E G P co lc hc hn hs X) [.ref (ad 0), .int x]) (mD1 D vwCl lo (.int (-2)) ad (ctC aC ad n gl E G P co lc hc hn hs X)) 0 0 (fun q => lo ≤ q) := by
  refine Met.ofW (cc := cX3_find) (maxL := 4) (ret := (some .int)) (by decide) rfl ?_
  intro pr en s0 mm args below meth cc0 s₁ B hml hv
  obtain ⟨rfl, hlo, hM, hKK⟩ := hv
  have hK := hKK.1
  have hr := B.returns
  have hts := atoms_spec (ws := (wsO yX3_find cX3_find 4 (some .int))) B.pre
  have F : CallFix pr mm cc0 cX3_find 4 s0 (([.ref (ad 0), .int x] : List Value).toArray) (wsO yX3_find cX3_find 4 (some .int)) RX3 := ⟨B.exec, B.bytes, hml, findClass_of_methodNamed B.named, hts⟩
  have hx := F.1
  have hb := F.2.1
  have hlocks := B.notSynchronized
  have hS : va_S (fun q => lo ≤ q) s0.heap s0.heap [] := va_S.rf
  have hl := lv_entry ([.ref (ad 0), .int x]) (n := 4) (Nat.le_of_ble_eq_true rfl)
  rw [lg_entry_eq]
  generalize (lg_sl ([.ref (ad 0), .int x]) ++ List.replicate (4 - (lg_sl ([.ref (ad 0), .int x])).length) Slot.unset).toArray = ls at hl ⊢
  have hl : lv_has ls 4 [(0, .ref (ad 0)), (1, .int x)] := hl
  refine lv_iload_n hx hb dX3_find_0 rfl (lv_at hl 1 rfl) ?_
  refine m_d1 (v := .int (bI (isK x))) (ct1 := ctC aC ad n gl E G P co lc hc hn hs X) (va_runS (As := [.int x]) (rest := []) F (c_mayBeAsked l x) (va_cwS 1 F.2.2.2.2 (go_S (fun _ h => tb_O h) mlX3_73 stX3_mayBeAsked iniX3 cdX3_mayBeAsked) rfl rfl rfl (by decide +kernel) ⟨Nat.le_of_ble_eq_true rfl, Nat.le_of_ble_eq_true rfl⟩) (mPreS hKK hM (Nat.le_trans hlo hS.1)) rfl rfl hl.1 rfl (lv_room (Nat.le_of_ble_eq_true rfl)) dX3_find_1 ⟨Nat.le_of_ble_eq_true rfl, Nat.le_of_ble_eq_true rfl⟩) hS (fun H locs hM hS => ?_)
  refine lv_if_ne (tgt := 10) hx hb dX3_find_4 (by decide) (fun c_4 => ?_) (fun c_4 => ?_)
  · skip
    exact absurd (by rw [hk]; rfl) c_4
  · skip
    refine lv_bipush (v := (-2)) hx hb dX3_find_7 (by decide) ?_
    exact W.iret hx hb hr (fun t ht hW => ⟨⟨_, _, _, rfl, ⟨rfl, rfl, rfl⟩, by rw [ht]; exact hM⟩, hS.F ht⟩) hS.2.2 dX3_find_9

set_option maxHeartbeats 4000000 in
set_option maxRecDepth 100000 in
theorem c_plainN (l : Launch) {D : va_G} {aC : Nat → ClassId} {lo : Nat} {ad : Nat → Nat} {n : Nat} {gl : Int32} {E : Nat → Ent} {G : Nat → Nat → Nat} {P : Nat} {co : Nat → Option Nat} {lc : Nat → Nat} {hc : Nat} {hn hs : Nat → Nat} {X : Nat → Option va_E} (x : Int32) (hk : isK x = false) : Met l yX3_plain (wsO yX3_plain cX3_plain 4 (some .int)) ({ frames := 1, cells := 0, slots := 0, locals := 20 } : Room) (mPc D vwCl (tyA aC) lo ad (ctC aC ad n gl E G P co lc hc hn hs X) [.ref (ad 0), .int x]) (mD1 D vwCl lo (.int (-2)) ad (ctC aC ad n gl E G P co lc hc hn hs X)) 0 0 (fun q => lo ≤ q) := by
  refine Met.ofW (cc := cX3_plain) (maxL := 4) (ret := (some .int)) (by decide) rfl ?_
  intro pr en s0 mm args below meth cc0 s₁ B hml hv
  obtain ⟨rfl, hlo, hM, hKK⟩ := hv
  have hK := hKK.1
  have hr := B.returns
  have hts := atoms_spec (ws := (wsO yX3_plain cX3_plain 4 (some .int))) B.pre
  have F : CallFix pr mm cc0 cX3_plain 4 s0 (([.ref (ad 0), .int x] : List Value).toArray) (wsO yX3_plain cX3_plain 4 (some .int)) RX3 := ⟨B.exec, B.bytes, hml, findClass_of_methodNamed B.named, hts⟩
  have hx := F.1
  have hb := F.2.1
  have hlocks := B.notSynchronized
  have hS : va_S (fun q => lo ≤ q) s0.heap s0.heap [] := va_S.rf
  have hl := lv_entry ([.ref (ad 0), .int x]) (n := 4) (Nat.le_of_ble_eq_true rfl)
  rw [lg_entry_eq]
  generalize (lg_sl ([.ref (ad 0), .int x]) ++ List.replicate (4 - (lg_sl ([.ref (ad 0), .int x])).length) Slot.unset).toArray = ls at hl ⊢
  have hl : lv_has ls 4 [(0, .ref (ad 0)), (1, .int x)] := hl
  refine lv_iload_n hx hb dX3_plain_0 rfl (lv_at hl 1 rfl) ?_
  refine m_d1 (v := .int (bI (isK x))) (ct1 := ctC aC ad n gl E G P co lc hc hn hs X) (va_runS (As := [.int x]) (rest := []) F (c_mayBeAsked l x) (va_cwS 1 F.2.2.2.2 (go_S (fun _ h => tb_O h) mlX3_73 stX3_mayBeAsked iniX3 cdX3_mayBeAsked) rfl rfl rfl (by decide +kernel) ⟨Nat.le_of_ble_eq_true rfl, Nat.le_of_ble_eq_true rfl⟩) (mPreS hKK hM (Nat.le_trans hlo hS.1)) rfl rfl hl.1 rfl (lv_room (Nat.le_of_ble_eq_true rfl)) dX3_plain_1 ⟨Nat.le_of_ble_eq_true rfl, Nat.le_of_ble_eq_true rfl⟩) hS (fun H locs hM hS => ?_)
  refine lv_if_ne (tgt := 10) hx hb dX3_plain_4 (by decide) (fun c_4 => ?_) (fun c_4 => ?_)
  · skip
    exact absurd (by rw [hk]; rfl) c_4
  · skip
    refine lv_bipush (v := (-2)) hx hb dX3_plain_7 (by decide) ?_
    exact W.iret hx hb hr (fun t ht hW => ⟨⟨_, _, _, rfl, ⟨rfl, rfl, rfl⟩, by rw [ht]; exact hM⟩, hS.F ht⟩) hS.2.2 dX3_plain_9

set_option maxHeartbeats 4000000 in
set_option maxRecDepth 100000 in
theorem c_find (l : Launch) {D : va_G} {aC : Nat → ClassId} {lo : Nat} {ad : Nat → Nat} {n : Nat} {gl : Int32} {E : Nat → Ent} {G : Nat → Nat → Nat} {P : Nat} {co : Nat → Option Nat} {lc : Nat → Nat} {hc : Nat} {hn hs : Nat → Nat} {X : Nat → Option va_E} (k : Nat) (hk1 : 1 ≤ k) (hk2 : k ≤ 1000) (hhs : ∀ j, hs j ≤ 100000) (h200 : n ≤ 200) (hP : P ≤ 20) (hco : ∀ k c, co k = some c → c ≤ 1000) (hlen : ∀ j, (E j).1 ≤ 20) (hsg : ∀ j k, 1 ≤ j → j ≤ n → k < (E j).1 → 33 ≤ G j k ∧ G j k ≤ 126) (hls : ∀ j, (E j).2.2.2.2 ≤ 100000) (hsfo : sfOk n E) : Met l yX3_find (wsO yX3_find cX3_find 4 (some .int)) ({ frames := 7, cells := 0, slots := 0, locals := 157 } : Room) (mPc D vwCl (tyA aC) lo ad (ctC aC ad n gl E G P co lc hc hn hs X) [.ref (ad 0), .int (nI k)]) (mQ1 D vwCl lo (fun v ad1 ct1 => v = .int (nI (min (fH (okF gl (rkE P co G E n)) (rkE P co G E n) hn hs n).1 k)) ∧ ad1 = ad ∧ ∃ lc1, ct1 = ctC aC ad n gl (rkE P co G E n) G P co lc1 (min (fH (okF gl (rkE P co G E n)) (rkE P co G E n) hn hs n).1 k) ((fH (okF gl (rkE P co G E n)) (rkE P co G E n) hn hs n).2.1) ((fH (okF gl (rkE P co G E n)) (rkE P co G E n) hn hs n).2.2) X)) 0 0 (fun q => lo ≤ q) := by
  refine Met.ofW (cc := cX3_find) (maxL := 4) (ret := (some .int)) (by decide) rfl ?_
  intro pr en s0 mm args below meth cc0 s₁ B hml hv
  obtain ⟨rfl, hlo, hM, hKK⟩ := hv
  have hK := hKK.1
  have hr := B.returns
  have hts := atoms_spec (ws := (wsO yX3_find cX3_find 4 (some .int))) B.pre
  have F : CallFix pr mm cc0 cX3_find 4 s0 (([.ref (ad 0), .int (nI k)] : List Value).toArray) (wsO yX3_find cX3_find 4 (some .int)) RX3 := ⟨B.exec, B.bytes, hml, findClass_of_methodNamed B.named, hts⟩
  have hx := F.1
  have hb := F.2.1
  have hlocks := B.notSynchronized
  have hS : va_S (fun q => lo ≤ q) s0.heap s0.heap [] := va_S.rf
  have hl := lv_entry ([.ref (ad 0), .int (nI k)]) (n := 4) (Nat.le_of_ble_eq_true rfl)
  rw [lg_entry_eq]
  generalize (lg_sl ([.ref (ad 0), .int (nI k)]) ++ List.replicate (4 - (lg_sl ([.ref (ad 0), .int (nI k)])).length) Slot.unset).toArray = ls at hl ⊢
  have hl : lv_has ls 4 [(0, .ref (ad 0)), (1, .int (nI k))] := hl
  have loop_23 : ∀ (fu : Nat) (i : Nat) (lc1 : Nat → Nat), (i ≤ n) → n + 1 - i ≤ fu → ∀ (H : Heap) (locs : List Loc) (ls : Array Slot), mw D vwCl lo ad (ctC aC ad n gl (rkE P co G E n) G P co lc1 ((fH (okF gl (rkE P co G E n)) (rkE P co G E n) hn hs i).1) ((fH (okF gl (rkE P co G E n)) (rkE P co G E n) hn hs i).2.1) ((fH (okF gl (rkE P co G E n)) (rkE P co G E n) hn hs i).2.2) X) H → va_S (fun q => lo ≤ q) s0.heap H locs → lv_has ls 4 [(0, .ref (ad 0)), (1, .int (nI k)), (2, .int (nI (i + 1)))] → W pr l en (headSpec (wsO yX3_find cX3_find 4 (some .int)) ({ frames := 7, cells := 0, slots := 0, locals := 157 } : Room)).room s0 mm (([.ref (ad 0), .int (nI k)] : List Value).toArray) below meth cc0 H locs 0 0 (MQ below (mQ1 D vwCl lo (fun v ad1 ct1 => v = .int (nI (min (fH (okF gl (rkE P co G E n)) (rkE P co G E n) hn hs n).1 k)) ∧ ad1 = ad ∧ ∃ lc1, ct1 = ctC aC ad n gl (rkE P co G E n) G P co lc1 (min (fH (okF gl (rkE P co G E n)) (rkE P co G E n) hn hs n).1 k) ((fH (okF gl (rkE P co G E n)) (rkE P co G E n) hn hs n).2.1) ((fH (okF gl (rkE P co G E n)) (rkE P co G E n) hn hs n).2.2) X)) (([.ref (ad 0), .int (nI k)] : List Value).toArray) s0 0 0 (fun q => lo ≤ q)) (F0 mm 23 ls []) := by
    intro fu
    induction fu with
    | zero =>
      intro i lc1 hi hfu H locs ls hM hS hl
      exact absurd hfu (by omega)
    | succ fu ih_23 =>
      intro i lc1 hi hfu H locs ls hM hS hl
      have hfl : (fH (okF gl (rkE P co G E n)) (rkE P co G E n) hn hs i).1 ≤ i := fH_le i
      have hE2 : ∀ j, (rkE P co G E n j).2.2.2.2 ≤ 100000 := rk2_ls (rk1_ls (P := P) (co := co) (G := G) (i := n) hP hlen hls) n
      refine lv_iload_n hx hb dX3_find_23 rfl (lv_at hl 2 rfl) ?_
      refine lv_aload_n hx hb dX3_find_24 rfl (lv_at hl 0 rfl) ?_
      refine m_get F (ci := 3) (v := .int (nI n)) (fun w h => tb_O (inX3 w h)) hK hM ctC_0 rfl 1 (by decide) (tb_O lkX3_15) rfl dX3_find_25 ?_
      refine m_icmp_gt F (a := (i + 1)) (b := n) (by omega) (by omega) (tgt := 77) dX3_find_28 (by decide) (fun c_28 => ?_) (fun c_28 => ?_)
      · skip
        have hin : n = i := by omega
        subst hin
        refine lv_aload_n hx hb dX3_find_77 rfl (lv_at hl 0 rfl) ?_
        refine m_get F (ci := 3) (v := .ref (ad 5)) (fun w h => tb_O (inX3 w h)) hK hM ctC_0 rfl 3 (by decide) (tb_O lkX3_29) rfl dX3_find_78 ?_
        refine lv_iload_n hx hb dX3_find_81 rfl (lv_at hl 1 rfl) ?_
        refine m_d0 (ct1 := va_up (ctC aC ad n gl (rkE P co G E n) G P co lc1 ((fH (okF gl (rkE P co G E n)) (rkE P co G E n) hn hs n).1) ((fH (okF gl (rkE P co G E n)) (rkE P co G E n) hn hs n).2.1) ((fH (okF gl (rkE P co G E n)) (rkE P co G E n) hn hs n).2.2) X) 5 (some (.inr (1, [.ref (ad 6), .ref (ad 7), .int (nI (min (fH (okF gl (rkE P co G E n)) (rkE P co G E n) hn hs n).1 k))])))) (va_runV (As := [.int (nI k)]) (rest := []) F (c_keepFirst l k (by omega) hk2 ctC_5) (cwV 1 F.2.2.2.2 (go_V (fun _ h => tb_O h) mlX3_91 imX1_keepFirst seX1_keepFirst iniX1 cdX1_keepFirst) rfl rfl rfl (by decide +kernel) ⟨Nat.le_of_ble_eq_true rfl, Nat.le_of_ble_eq_true rfl⟩) (mPreV hKK hM (Nat.le_trans hlo hS.1) ctC_5 rfl) rfl rfl hl.1 rfl (lv_room (Nat.le_of_ble_eq_true rfl)) dX3_find_82 ⟨Nat.le_of_ble_eq_true rfl, Nat.le_of_ble_eq_true rfl⟩) hS (fun H locs hM hS => ?_)
        have hM : mw D vwCl lo ad (ctC aC ad n gl (rkE P co G E n) G P co lc1 (min (fH (okF gl (rkE P co G E n)) (rkE P co G E n) hn hs n).1 k) ((fH (okF gl (rkE P co G E n)) (rkE P co G E n) hn hs n).2.1) ((fH (okF gl (rkE P co G E n)) (rkE P co G E n) hn hs n).2.2) X) H := by rw [ctC_hc] at hM; exact hM
        refine lv_aload_n hx hb dX3_find_85 rfl (lv_at hl 0 rfl) ?_
        refine m_get F (ci := 3) (v := .ref (ad 5)) (fun w h => tb_O (inX3 w h)) hK hM ctC_0 rfl 3 (by decide) (tb_O lkX3_29) rfl dX3_find_86 ?_
        refine m_get F (ci := 1) (v := .int (nI (min (fH (okF gl (rkE P co G E n)) (rkE P co G E n) hn hs n).1 k))) (fun w h => tb_O (inX1 w h)) hK hM ctC_5 rfl 2 (by decide) (tb_O lkX3_95) rfl dX3_find_89 ?_
        exact W.iret hx hb hr (fun t ht hW => ⟨⟨_, _, _, rfl, ⟨rfl, rfl, _, rfl⟩, by rw [ht]; exact hM⟩, hS.F ht⟩) hS.2.2 dX3_find_92
      · skip
        have hdq : (rkE P co G E n (i + 1)).2.2.1 = (E (i + 1)).2.2.1 := ((rk2_keep (rk1 P co G E n) n (i + 1)).2.2.1).trans rk1_dr
        refine lv_aload_n hx hb dX3_find_31 rfl (lv_at hl 0 rfl) ?_
        refine lv_iload_n hx hb dX3_find_32 rfl (lv_at hl 2 rfl) ?_
        rcases hdr : (E (i + 1)).2.2.1 with _ | _
        · skip
          refine m_d1 (v := .ref (ad (2 * (i + 1) + 8))) (ct1 := ctC aC ad n gl (rkE P co G E n) G P co lc1 ((fH (okF gl (rkE P co G E n)) (rkE P co G E n) hn hs i).1) ((fH (okF gl (rkE P co G E n)) (rkE P co G E n) hn hs i).2.1) ((fH (okF gl (rkE P co G E n)) (rkE P co G E n) hn hs i).2.2) X) (va_runV (As := [.int (nI (i + 1))]) (rest := []) F (c_livT l (i + 1) (by omega) (by omega) h200 (by rw [hdq]; exact hdr)) (cwV 1 F.2.2.2.2 (go_V (fun _ h => tb_O h) mlX3_37 imX3_living seX3_living iniX3 cdX3_living) rfl rfl rfl (by decide +kernel) ⟨Nat.le_of_ble_eq_true rfl, Nat.le_of_ble_eq_true rfl⟩) (mPreV hKK hM (Nat.le_trans hlo hS.1) ctC_0 rfl) rfl rfl hl.1 rfl (lv_room (Nat.le_of_ble_eq_true rfl)) dX3_find_33 ⟨Nat.le_of_ble_eq_true rfl, Nat.le_of_ble_eq_true rfl⟩) hS (fun H locs hM hS => ?_)
          refine lv_astore_n (lv' := [(3, .ref (ad (2 * (i + 1) + 8))), (0, .ref (ad 0)), (1, .int (nI k)), (2, .int (nI (i + 1)))]) hx hb dX3_find_36 rfl hl (by decide) rfl (fun ls hl => ?_)
          refine lv_aload_n hx hb dX3_find_37 rfl (lv_at hl 0 rfl) ?_
          refine lv_ifnull hx hb dX3_find_38 ?_
          refine lv_aload_n hx hb dX3_find_41 rfl (lv_at hl 1 rfl) ?_
          refine lv_aload_n hx hb dX3_find_42 rfl (lv_at hl 0 rfl) ?_
          refine m_d1 (v := .int (bI (mbf gl ((rkE P co G E n) (i + 1))))) (ct1 := ctC aC ad n gl (rkE P co G E n) G P co lc1 ((fH (okF gl (rkE P co G E n)) (rkE P co G E n) hn hs i).1) ((fH (okF gl (rkE P co G E n)) (rkE P co G E n) hn hs i).2.1) ((fH (okF gl (rkE P co G E n)) (rkE P co G E n) hn hs i).2.2) X) (va_runV (As := [.ref (ad (2 * (i + 1) + 8))]) (rest := []) F (c_mayBeFound l (i + 1) (by omega) (by omega) h200) (cwV 1 F.2.2.2.2 (go_V (fun _ h => tb_O h) mlX3_80 imX3_mayBeFound seX3_mayBeFound iniX3 cdX3_mayBeFound) rfl rfl rfl (by decide +kernel) ⟨Nat.le_of_ble_eq_true rfl, Nat.le_of_ble_eq_true rfl⟩) (mPreV hKK hM (Nat.le_trans hlo hS.1) ctC_0 rfl) rfl rfl hl.1 rfl (lv_room (Nat.le_of_ble_eq_true rfl)) dX3_find_43 ⟨Nat.le_of_ble_eq_true rfl, Nat.le_of_ble_eq_true rfl⟩) hS (fun H locs hM hS => ?_)
          refine lv_if_eq (tgt := 71) hx hb dX3_find_46 (by decide) (fun c_46 => ?_) (fun c_46 => ?_)
          · skip
            have hnq : ¬ okF gl (rkE P co G E n) (i + 1) = true := by simp [okF, bI_eq c_46]
            refine lv_iinc (v := (nI (i + 1 + 1))) (lv' := [(2, .int (nI (i + 1 + 1))), (3, .ref (ad (2 * (i + 1) + 8))), (0, .ref (ad 0)), (1, .int (nI k))]) hx hb dX3_find_71 hl (k := 3) rfl (nI_1 (i + 1)) (by decide) rfl (fun ls hl => ?_)
            refine lv_goto (tgt := 23) hx hb dX3_find_74 (by decide) ?_
            have hnq : ¬ okF gl (rkE P co G E n) (i + 1) = true := by first | exact hnq | simp [okF, hdq, hdr]
            exact ih_23 (i + 1) lc1 (by omega) (by omega) _ _ _ (by rw [fH_n hnq]; exact hM) hS (lv_sub hl [2, 3, 0] rfl)
          · skip
            refine lv_aload_n hx hb dX3_find_49 rfl (lv_at hl 0 rfl) ?_
            refine m_get F (ci := 0) (v := .int (nI (((rkE P co G E n) (i + 1)).2.2.2.2))) (fun w h => tb_O (inX0 w h)) hK hM (ctC_e (by omega) (by omega) h200) rfl 5 (by decide) (tb_O lkX3_84) rfl dX3_find_50 ?_
            refine lv_sipush (v := (nI 400)) hx hb dX3_find_53 (by decide) ?_
            refine m_icmp_gt F (a := (((rkE P co G E n) (i + 1)).2.2.2.2)) (b := 400) (by have := hE2 (i + 1); omega) (by omega) (tgt := 71) dX3_find_56 (by decide) (fun c_56 => ?_) (fun c_56 => ?_)
            · skip
              have hnq : ¬ okF gl (rkE P co G E n) (i + 1) = true := by simp [okF, show ¬ ((rkE P co G E n) (i + 1)).2.2.2.2 ≤ 400 by omega]
              refine lv_iinc (v := (nI (i + 1 + 1))) (lv' := [(2, .int (nI (i + 1 + 1))), (3, .ref (ad (2 * (i + 1) + 8))), (0, .ref (ad 0)), (1, .int (nI k))]) hx hb dX3_find_71 hl (k := 3) rfl (nI_1 (i + 1)) (by decide) rfl (fun ls hl => ?_)
              refine lv_goto (tgt := 23) hx hb dX3_find_74 (by decide) ?_
              have hnq : ¬ okF gl (rkE P co G E n) (i + 1) = true := by first | exact hnq | simp [okF, hdq, hdr]
              exact ih_23 (i + 1) lc1 (by omega) (by omega) _ _ _ (by rw [fH_n hnq]; exact hM) hS (lv_sub hl [2, 3, 0] rfl)
            · skip
              have hyq : okF gl (rkE P co G E n) (i + 1) = true := by simp [okF, hdq, hdr, bI_ne c_46, c_56]
              refine lv_aload_n hx hb dX3_find_59 rfl (lv_at hl 1 rfl) ?_
              refine m_get F (ci := 3) (v := .ref (ad 5)) (fun w h => tb_O (inX3 w h)) hK hM ctC_0 rfl 3 (by decide) (tb_O lkX3_29) rfl dX3_find_60 ?_
              refine lv_iload_n hx hb dX3_find_63 rfl (lv_at hl 3 rfl) ?_
              refine lv_aload_n hx hb dX3_find_64 rfl (lv_at hl 0 rfl) ?_
              refine m_get F (ci := 0) (v := .int (nI (((rkE P co G E n) (i + 1)).2.2.2.2))) (fun w h => tb_O (inX0 w h)) hK hM (ctC_e (by omega) (by omega) h200) rfl 5 (by decide) (tb_O lkX3_84) rfl dX3_find_65 ?_
              refine m_d0 (ct1 := va_up (va_up (va_up (ctC aC ad n gl (rkE P co G E n) G P co lc1 ((fH (okF gl (rkE P co G E n)) (rkE P co G E n) hn hs i).1) ((fH (okF gl (rkE P co G E n)) (rkE P co G E n) hn hs i).2.1) ((fH (okF gl (rkE P co G E n)) (rkE P co G E n) hn hs i).2.2) X) 6 (some (iA aC 200 (fun j => nI ((insR (fH (okF gl (rkE P co G E n)) (rkE P co G E n) hn hs i).2.1 (inP (fH (okF gl (rkE P co G E n)) (rkE P co G E n) hn hs i).2.2 ((rkE P co G E n) (i + 1)).2.2.2.2 (fH (okF gl (rkE P co G E n)) (rkE P co G E n) hn hs i).1) (fH (okF gl (rkE P co G E n)) (rkE P co G E n) hn hs i).1 (i + 1)) j))))) 7 (some (iA aC 200 (fun j => nI ((insR (fH (okF gl (rkE P co G E n)) (rkE P co G E n) hn hs i).2.2 (inP (fH (okF gl (rkE P co G E n)) (rkE P co G E n) hn hs i).2.2 ((rkE P co G E n) (i + 1)).2.2.2.2 (fH (okF gl (rkE P co G E n)) (rkE P co G E n) hn hs i).1) (fH (okF gl (rkE P co G E n)) (rkE P co G E n) hn hs i).1 ((rkE P co G E n) (i + 1)).2.2.2.2) j))))) 5 (some (.inr (1, [.ref (ad 6), .ref (ad 7), .int (nI ((fH (okF gl (rkE P co G E n)) (rkE P co G E n) hn hs i).1 + 1))])))) (va_runV (As := [.int (nI (i + 1)), .int (nI (((rkE P co G E n) (i + 1)).2.2.2.2))]) (rest := []) F (c_addBySum l (i + 1) (((rkE P co G E n) (i + 1)).2.2.2.2) (by omega) (by have := hE2 (i + 1); omega) (fun j => by have := fH_hs (q := okF gl (rkE P co G E n)) (hn := hn) hhs hE2 i j; omega) ctC_5 ctC_6 ctC_7) (cwV 2 F.2.2.2.2 (go_V (fun _ h => tb_O h) mlX3_87 imX1_addBySum seX1_addBySum iniX1 cdX1_addBySum) rfl rfl rfl (by decide +kernel) ⟨Nat.le_of_ble_eq_true rfl, Nat.le_of_ble_eq_true rfl⟩) (mPreV hKK hM (Nat.le_trans hlo hS.1) ctC_5 rfl) rfl rfl hl.1 rfl (lv_room (Nat.le_of_ble_eq_true rfl)) dX3_find_68 ⟨Nat.le_of_ble_eq_true rfl, Nat.le_of_ble_eq_true rfl⟩) hS (fun H locs hM hS => ?_)
              have hM : mw D vwCl lo ad (ctC aC ad n gl (rkE P co G E n) G P co lc1 ((fH (okF gl (rkE P co G E n)) (rkE P co G E n) hn hs (i + 1)).1) ((fH (okF gl (rkE P co G E n)) (rkE P co G E n) hn hs (i + 1)).2.1) ((fH (okF gl (rkE P co G E n)) (rkE P co G E n) hn hs (i + 1)).2.2) X) H := by rw [ctC_hn, ctC_hs, ctC_hc] at hM; rw [fH_y hyq]; exact hM
              refine lv_iinc (v := (nI (i + 1 + 1))) (lv' := [(2, .int (nI (i + 1 + 1))), (3, .ref (ad (2 * (i + 1) + 8))), (0, .ref (ad 0)), (1, .int (nI k))]) hx hb dX3_find_71 hl (k := 3) rfl (nI_1 (i + 1)) (by decide) rfl (fun ls hl => ?_)
              refine lv_goto (tgt := 23) hx hb dX3_find_74 (by decide) ?_
              exact ih_23 (i + 1) lc1 (by omega) (by omega) _ _ _ hM hS (lv_sub hl [2, 3, 0] rfl)
        · skip
          refine m_d1 (v := .null) (ct1 := ctC aC ad n gl (rkE P co G E n) G P co lc1 ((fH (okF gl (rkE P co G E n)) (rkE P co G E n) hn hs i).1) ((fH (okF gl (rkE P co G E n)) (rkE P co G E n) hn hs i).2.1) ((fH (okF gl (rkE P co G E n)) (rkE P co G E n) hn hs i).2.2) X) (va_runV (As := [.int (nI (i + 1))]) (rest := []) F (c_livF l (i + 1) (by omega) (by omega) h200 (by rw [hdq]; exact hdr)) (cwV 1 F.2.2.2.2 (go_V (fun _ h => tb_O h) mlX3_37 imX3_living seX3_living iniX3 cdX3_living) rfl rfl rfl (by decide +kernel) ⟨Nat.le_of_ble_eq_true rfl, Nat.le_of_ble_eq_true rfl⟩) (mPreV hKK hM (Nat.le_trans hlo hS.1) ctC_0 rfl) rfl rfl hl.1 rfl (lv_room (Nat.le_of_ble_eq_true rfl)) dX3_find_33 ⟨Nat.le_of_ble_eq_true rfl, Nat.le_of_ble_eq_true rfl⟩) hS (fun H locs hM hS => ?_)
          refine lv_astore_nN (lv' := [(3, .null), (0, .ref (ad 0)), (1, .int (nI k)), (2, .int (nI (i + 1)))]) hx hb dX3_find_36 rfl hl (by decide) rfl (fun ls hl => ?_)
          refine lv_aload_nN hx hb dX3_find_37 rfl (lv_at hl 0 rfl) ?_
          refine lv_ifnullN (tgt := 71) hx hb dX3_find_38 (by decide) ?_
          refine lv_iinc (v := (nI (i + 1 + 1))) (lv' := [(2, .int (nI (i + 1 + 1))), (3, .null), (0, .ref (ad 0)), (1, .int (nI k))]) hx hb dX3_find_71 hl (k := 3) rfl (nI_1 (i + 1)) (by decide) rfl (fun ls hl => ?_)
          refine lv_goto (tgt := 23) hx hb dX3_find_74 (by decide) ?_
          have hnq : ¬ okF gl (rkE P co G E n) (i + 1) = true := by first | exact hnq | simp [okF, hdq, hdr]
          exact ih_23 (i + 1) lc1 (by omega) (by omega) _ _ _ (by rw [fH_n hnq]; exact hM) hS (lv_sub hl [2, 3, 0] rfl)
  refine lv_iload_n hx hb dX3_find_0 rfl (lv_at hl 1 rfl) ?_
  refine m_d1 (v := .int (bI (isK (nI k)))) (ct1 := ctC aC ad n gl E G P co lc hc hn hs X) (va_runS (As := [.int (nI k)]) (rest := []) F (c_mayBeAsked l (nI k)) (va_cwS 1 F.2.2.2.2 (go_S (fun _ h => tb_O h) mlX3_73 stX3_mayBeAsked iniX3 cdX3_mayBeAsked) rfl rfl rfl (by decide +kernel) ⟨Nat.le_of_ble_eq_true rfl, Nat.le_of_ble_eq_true rfl⟩) (mPreS hKK hM (Nat.le_trans hlo hS.1)) rfl rfl hl.1 rfl (lv_room (Nat.le_of_ble_eq_true rfl)) dX3_find_1 ⟨Nat.le_of_ble_eq_true rfl, Nat.le_of_ble_eq_true rfl⟩) hS (fun H locs hM hS => ?_)
  refine lv_if_ne (tgt := 10) hx hb dX3_find_4 (by decide) (fun c_4 => ?_) (fun c_4 => ?_)
  · skip
    refine lv_aload_n hx hb dX3_find_10 rfl (lv_at hl 0 rfl) ?_
    refine m_ret0 (va_runV (As := []) (rest := []) F (c_reckon l h200 hP hco hlen hsg hls hsfo) (cwV 0 F.2.2.2.2 (go_V (fun _ h => tb_O h) mlX3_76 imX3_reckonSums seX3_reckonSums iniX3 cdX3_reckonSums) rfl rfl rfl (by decide +kernel) ⟨Nat.le_of_ble_eq_true rfl, Nat.le_of_ble_eq_true rfl⟩) (mPreV hKK hM (Nat.le_trans hlo hS.1) ctC_0 rfl) rfl rfl hl.1 rfl (lv_room (Nat.le_of_ble_eq_true rfl)) dX3_find_11 ⟨Nat.le_of_ble_eq_true rfl, Nat.le_of_ble_eq_true rfl⟩) hS (fun ad1 ct1 H locs hp hM hS => ?_)
    obtain ⟨h9, lc1, rfl⟩ := hp
    replace h9 := h9.symm
    subst h9
    refine lv_aload_n hx hb dX3_find_14 rfl (lv_at hl 0 rfl) ?_
    refine m_get F (ci := 3) (v := .ref (ad 5)) (fun w h => tb_O (inX3 w h)) hK hM ctC_0 rfl 3 (by decide) (tb_O lkX3_29) rfl dX3_find_15 ?_
    refine m_d0 (ct1 := va_up (ctC aC ad n gl (rkE P co G E n) G P co lc1 hc hn hs X) 5 (some (.inr (1, [.ref (ad 6), .ref (ad 7), .int (nI 0)])))) (va_runV (As := []) (rest := []) F (c_hforget l ctC_5) (cwV 0 F.2.2.2.2 (go_V (fun _ h => tb_O h) mlX3_79 imX1_forget seX1_forget iniX1 cdX1_forget) rfl rfl rfl (by decide +kernel) ⟨Nat.le_of_ble_eq_true rfl, Nat.le_of_ble_eq_true rfl⟩) (mPreV hKK hM (Nat.le_trans hlo hS.1) ctC_5 rfl) rfl rfl hl.1 rfl (lv_room (Nat.le_of_ble_eq_true rfl)) dX3_find_18 ⟨Nat.le_of_ble_eq_true rfl, Nat.le_of_ble_eq_true rfl⟩) hS (fun H locs hM hS => ?_)
    have hM : mw D vwCl lo ad (ctC aC ad n gl (rkE P co G E n) G P co lc1 0 hn hs X) H := by rw [ctC_hc] at hM; exact hM
    refine lv_iconst (v := (nI 1)) hx hb dX3_find_21 (by decide) ?_
    refine lv_istore_n (lv' := [(2, .int (nI 1)), (0, .ref (ad 0)), (1, .int (nI k))]) hx hb dX3_find_22 rfl hl (by decide) rfl (fun ls hl => ?_)
    exact loop_23 (n + 1) 0 lc1 (Nat.zero_le _) (by omega) _ _ _ hM hS (lv_sub hl [1, 2, 0] rfl)
  · skip
    exact absurd (by rw [isK_nI hk1 hk2]; decide) (fun h : ¬ bI (isK (nI k)) = 0 => h c_4)

set_option maxHeartbeats 4000000 in
set_option maxRecDepth 100000 in
theorem c_plain (l : Launch) {D : va_G} {aC : Nat → ClassId} {lo : Nat} {ad : Nat → Nat} {n : Nat} {gl : Int32} {E : Nat → Ent} {G : Nat → Nat → Nat} {P : Nat} {co : Nat → Option Nat} {lc : Nat → Nat} {hc : Nat} {hn hs : Nat → Nat} {X : Nat → Option va_E} (k : Nat) (hk1 : 1 ≤ k) (hk2 : k ≤ 1000) (hhs : ∀ j, hs j ≤ 100000) (h200 : n ≤ 200) (hP : P ≤ 20) (hco : ∀ k c, co k = some c → c ≤ 1000) (hlen : ∀ j, (E j).1 ≤ 20) (hsg : ∀ j k, 1 ≤ j → j ≤ n → k < (E j).1 → 33 ≤ G j k ∧ G j k ≤ 126) (hls : ∀ j, (E j).2.2.2.2 ≤ 100000) (hsfo : sfOk n E) : Met l yX3_plain (wsO yX3_plain cX3_plain 4 (some .int)) ({ frames := 7, cells := 0, slots := 0, locals := 157 } : Room) (mPc D vwCl (tyA aC) lo ad (ctC aC ad n gl E G P co lc hc hn hs X) [.ref (ad 0), .int (nI k)]) (mQ1 D vwCl lo (fun v ad1 ct1 => v = .int (nI ((pH (okP gl P co G (rkE P co G E n)) (rkE P co G E n) hn hs n).1)) ∧ ad1 = ad ∧ ∃ lc1, ct1 = ctC aC ad n gl (rkE P co G E n) G P co lc1 (min (pH (okP gl P co G (rkE P co G E n)) (rkE P co G E n) hn hs n).1 k) ((pH (okP gl P co G (rkE P co G E n)) (rkE P co G E n) hn hs n).2.1) ((pH (okP gl P co G (rkE P co G E n)) (rkE P co G E n) hn hs n).2.2) X)) 0 0 (fun q => lo ≤ q) := by
  refine Met.ofW (cc := cX3_plain) (maxL := 4) (ret := (some .int)) (by decide) rfl ?_
  intro pr en s0 mm args below meth cc0 s₁ B hml hv
  obtain ⟨rfl, hlo, hM, hKK⟩ := hv
  have hK := hKK.1
  have hr := B.returns
  have hts := atoms_spec (ws := (wsO yX3_plain cX3_plain 4 (some .int))) B.pre
  have F : CallFix pr mm cc0 cX3_plain 4 s0 (([.ref (ad 0), .int (nI k)] : List Value).toArray) (wsO yX3_plain cX3_plain 4 (some .int)) RX3 := ⟨B.exec, B.bytes, hml, findClass_of_methodNamed B.named, hts⟩
  have hx := F.1
  have hb := F.2.1
  have hlocks := B.notSynchronized
  have hS : va_S (fun q => lo ≤ q) s0.heap s0.heap [] := va_S.rf
  have hl := lv_entry ([.ref (ad 0), .int (nI k)]) (n := 4) (Nat.le_of_ble_eq_true rfl)
  rw [lg_entry_eq]
  generalize (lg_sl ([.ref (ad 0), .int (nI k)]) ++ List.replicate (4 - (lg_sl ([.ref (ad 0), .int (nI k)])).length) Slot.unset).toArray = ls at hl ⊢
  have hl : lv_has ls 4 [(0, .ref (ad 0)), (1, .int (nI k))] := hl
  have loop_23 : ∀ (fu : Nat) (i : Nat) (lc1 : Nat → Nat), (i ≤ n) → n + 1 - i ≤ fu → ∀ (H : Heap) (locs : List Loc) (ls : Array Slot), mw D vwCl lo ad (ctC aC ad n gl (rkE P co G E n) G P co lc1 ((pH (okP gl P co G (rkE P co G E n)) (rkE P co G E n) hn hs i).1) ((pH (okP gl P co G (rkE P co G E n)) (rkE P co G E n) hn hs i).2.1) ((pH (okP gl P co G (rkE P co G E n)) (rkE P co G E n) hn hs i).2.2) X) H → va_S (fun q => lo ≤ q) s0.heap H locs → lv_has ls 4 [(0, .ref (ad 0)), (1, .int (nI k)), (2, .int (nI (i + 1)))] → W pr l en (headSpec (wsO yX3_plain cX3_plain 4 (some .int)) ({ frames := 7, cells := 0, slots := 0, locals := 157 } : Room)).room s0 mm (([.ref (ad 0), .int (nI k)] : List Value).toArray) below meth cc0 H locs 0 0 (MQ below (mQ1 D vwCl lo (fun v ad1 ct1 => v = .int (nI ((pH (okP gl P co G (rkE P co G E n)) (rkE P co G E n) hn hs n).1)) ∧ ad1 = ad ∧ ∃ lc1, ct1 = ctC aC ad n gl (rkE P co G E n) G P co lc1 (min (pH (okP gl P co G (rkE P co G E n)) (rkE P co G E n) hn hs n).1 k) ((pH (okP gl P co G (rkE P co G E n)) (rkE P co G E n) hn hs n).2.1) ((pH (okP gl P co G (rkE P co G E n)) (rkE P co G E n) hn hs n).2.2) X)) (([.ref (ad 0), .int (nI k)] : List Value).toArray) s0 0 0 (fun q => lo ≤ q)) (F0 mm 23 ls []) := by
    intro fu
    induction fu with
    | zero =>
      intro i lc1 hi hfu H locs ls hM hS hl
      exact absurd hfu (by omega)
    | succ fu ih_23 =>
      intro i lc1 hi hfu H locs ls hM hS hl
      have hfl : (pH (okP gl P co G (rkE P co G E n)) (rkE P co G E n) hn hs i).1 ≤ i := pH_le i
      have hE2 : ∀ j, (rkE P co G E n j).2.2.2.2 ≤ 100000 := rk2_ls (rk1_ls (P := P) (co := co) (G := G) (i := n) hP hlen hls) n
      refine lv_iload_n hx hb dX3_plain_23 rfl (lv_at hl 2 rfl) ?_
      refine lv_aload_n hx hb dX3_plain_24 rfl (lv_at hl 0 rfl) ?_
      refine m_get F (ci := 3) (v := .int (nI n)) (fun w h => tb_O (inX3 w h)) hK hM ctC_0 rfl 1 (by decide) (tb_O lkX3_15) rfl dX3_plain_25 ?_
      refine m_icmp_gt F (a := (i + 1)) (b := n) (by omega) (by omega) (tgt := 78) dX3_plain_28 (by decide) (fun c_28 => ?_) (fun c_28 => ?_)
      · skip
        have hin : n = i := by omega
        subst hin
        refine lv_aload_n hx hb dX3_plain_78 rfl (lv_at hl 0 rfl) ?_
        refine m_get F (ci := 3) (v := .ref (ad 5)) (fun w h => tb_O (inX3 w h)) hK hM ctC_0 rfl 3 (by decide) (tb_O lkX3_29) rfl dX3_plain_79 ?_
        refine m_get F (ci := 1) (v := .int (nI ((pH (okP gl P co G (rkE P co G E n)) (rkE P co G E n) hn hs n).1))) (fun w h => tb_O (inX1 w h)) hK hM ctC_5 rfl 2 (by decide) (tb_O lkX3_95) rfl dX3_plain_82 ?_
        refine lv_istore_n (lv' := [(2, .int (nI ((pH (okP gl P co G (rkE P co G E n)) (rkE P co G E n) hn hs n).1))), (0, .ref (ad 0)), (1, .int (nI k))]) hx hb dX3_plain_85 rfl hl (by decide) rfl (fun ls hl => ?_)
        refine lv_aload_n hx hb dX3_plain_86 rfl (lv_at hl 1 rfl) ?_
        refine m_get F (ci := 3) (v := .ref (ad 5)) (fun w h => tb_O (inX3 w h)) hK hM ctC_0 rfl 3 (by decide) (tb_O lkX3_29) rfl dX3_plain_87 ?_
        refine lv_iload_n hx hb dX3_plain_90 rfl (lv_at hl 2 rfl) ?_
        refine m_d0 (ct1 := va_up (ctC aC ad n gl (rkE P co G E n) G P co lc1 ((pH (okP gl P co G (rkE P co G E n)) (rkE P co G E n) hn hs n).1) ((pH (okP gl P co G (rkE P co G E n)) (rkE P co G E n) hn hs n).2.1) ((pH (okP gl P co G (rkE P co G E n)) (rkE P co G E n) hn hs n).2.2) X) 5 (some (.inr (1, [.ref (ad 6), .ref (ad 7), .int (nI (min (pH (okP gl P co G (rkE P co G E n)) (rkE P co G E n) hn hs n).1 k))])))) (va_runV (As := [.int (nI k)]) (rest := []) F (c_keepFirst l k (by omega) hk2 ctC_5) (cwV 1 F.2.2.2.2 (go_V (fun _ h => tb_O h) mlX3_91 imX1_keepFirst seX1_keepFirst iniX1 cdX1_keepFirst) rfl rfl rfl (by decide +kernel) ⟨Nat.le_of_ble_eq_true rfl, Nat.le_of_ble_eq_true rfl⟩) (mPreV hKK hM (Nat.le_trans hlo hS.1) ctC_5 rfl) rfl rfl hl.1 rfl (lv_room (Nat.le_of_ble_eq_true rfl)) dX3_plain_91 ⟨Nat.le_of_ble_eq_true rfl, Nat.le_of_ble_eq_true rfl⟩) hS (fun H locs hM hS => ?_)
        have hM : mw D vwCl lo ad (ctC aC ad n gl (rkE P co G E n) G P co lc1 (min (pH (okP gl P co G (rkE P co G E n)) (rkE P co G E n) hn hs n).1 k) ((pH (okP gl P co G (rkE P co G E n)) (rkE P co G E n) hn hs n).2.1) ((pH (okP gl P co G (rkE P co G E n)) (rkE P co G E n) hn hs n).2.2) X) H := by rw [ctC_hc] at hM; exact hM
        refine lv_iload_n hx hb dX3_plain_94 rfl (lv_at hl 0 rfl) ?_
        exact W.iret hx hb hr (fun t ht hW => ⟨⟨_, _, _, rfl, ⟨rfl, rfl, _, rfl⟩, by rw [ht]; exact hM⟩, hS.F ht⟩) hS.2.2 dX3_plain_95
      · skip
        have hdq : (rkE P co G E n (i + 1)).2.2.1 = (E (i + 1)).2.2.1 := ((rk2_keep (rk1 P co G E n) n (i + 1)).2.2.1).trans rk1_dr
        refine lv_aload_n hx hb dX3_plain_31 rfl (lv_at hl 0 rfl) ?_
        refine lv_iload_n hx hb dX3_plain_32 rfl (lv_at hl 2 rfl) ?_
        rcases hdr : (E (i + 1)).2.2.1 with _ | _
        · skip
          refine m_d1 (v := .ref (ad (2 * (i + 1) + 8))) (ct1 := ctC aC ad n gl (rkE P co G E n) G P co lc1 ((pH (okP gl P co G (rkE P co G E n)) (rkE P co G E n) hn hs i).1) ((pH (okP gl P co G (rkE P co G E n)) (rkE P co G E n) hn hs i).2.1) ((pH (okP gl P co G (rkE P co G E n)) (rkE P co G E n) hn hs i).2.2) X) (va_runV (As := [.int (nI (i + 1))]) (rest := []) F (c_livT l (i + 1) (by omega) (by omega) h200 (by rw [hdq]; exact hdr)) (cwV 1 F.2.2.2.2 (go_V (fun _ h => tb_O h) mlX3_37 imX3_living seX3_living iniX3 cdX3_living) rfl rfl rfl (by decide +kernel) ⟨Nat.le_of_ble_eq_true rfl, Nat.le_of_ble_eq_true rfl⟩) (mPreV hKK hM (Nat.le_trans hlo hS.1) ctC_0 rfl) rfl rfl hl.1 rfl (lv_room (Nat.le_of_ble_eq_true rfl)) dX3_plain_33 ⟨Nat.le_of_ble_eq_true rfl, Nat.le_of_ble_eq_true rfl⟩) hS (fun H locs hM hS => ?_)
          refine lv_astore_n (lv' := [(3, .ref (ad (2 * (i + 1) + 8))), (0, .ref (ad 0)), (1, .int (nI k)), (2, .int (nI (i + 1)))]) hx hb dX3_plain_36 rfl hl (by decide) rfl (fun ls hl => ?_)
          refine lv_aload_n hx hb dX3_plain_37 rfl (lv_at hl 0 rfl) ?_
          refine lv_ifnull hx hb dX3_plain_38 ?_
          refine lv_aload_n hx hb dX3_plain_41 rfl (lv_at hl 1 rfl) ?_
          refine lv_aload_n hx hb dX3_plain_42 rfl (lv_at hl 0 rfl) ?_
          refine m_d1 (v := .int (bI (mbf gl ((rkE P co G E n) (i + 1))))) (ct1 := ctC aC ad n gl (rkE P co G E n) G P co lc1 ((pH (okP gl P co G (rkE P co G E n)) (rkE P co G E n) hn hs i).1) ((pH (okP gl P co G (rkE P co G E n)) (rkE P co G E n) hn hs i).2.1) ((pH (okP gl P co G (rkE P co G E n)) (rkE P co G E n) hn hs i).2.2) X) (va_runV (As := [.ref (ad (2 * (i + 1) + 8))]) (rest := []) F (c_mayBeFound l (i + 1) (by omega) (by omega) h200) (cwV 1 F.2.2.2.2 (go_V (fun _ h => tb_O h) mlX3_80 imX3_mayBeFound seX3_mayBeFound iniX3 cdX3_mayBeFound) rfl rfl rfl (by decide +kernel) ⟨Nat.le_of_ble_eq_true rfl, Nat.le_of_ble_eq_true rfl⟩) (mPreV hKK hM (Nat.le_trans hlo hS.1) ctC_0 rfl) rfl rfl hl.1 rfl (lv_room (Nat.le_of_ble_eq_true rfl)) dX3_plain_43 ⟨Nat.le_of_ble_eq_true rfl, Nat.le_of_ble_eq_true rfl⟩) hS (fun H locs hM hS => ?_)
          refine lv_if_eq (tgt := 72) hx hb dX3_plain_46 (by decide) (fun c_46 => ?_) (fun c_46 => ?_)
          · skip
            have hnq : ¬ okP gl P co G (rkE P co G E n) (i + 1) = true := by simp [okP, bI_eq c_46]
            refine lv_iinc (v := (nI (i + 1 + 1))) (lv' := [(2, .int (nI (i + 1 + 1))), (3, .ref (ad (2 * (i + 1) + 8))), (0, .ref (ad 0)), (1, .int (nI k))]) hx hb dX3_plain_72 hl (k := 3) rfl (nI_1 (i + 1)) (by decide) rfl (fun ls hl => ?_)
            refine lv_goto (tgt := 23) hx hb dX3_plain_75 (by decide) ?_
            have hnq : ¬ okP gl P co G (rkE P co G E n) (i + 1) = true := by first | exact hnq | simp [okP, hdq, hdr]
            exact ih_23 (i + 1) lc1 (by omega) (by omega) _ _ _ (by rw [pH_n hnq]; exact hM) hS (lv_sub hl [2, 3, 0] rfl)
          · skip
            refine lv_aload_n hx hb dX3_plain_49 rfl (lv_at hl 1 rfl) ?_
            refine m_get F (ci := 3) (v := .ref (ad 2)) (fun w h => tb_O (inX3 w h)) hK hM ctC_0 rfl 2 (by decide) (tb_O lkX3_22) rfl dX3_plain_50 ?_
            refine lv_aload_n hx hb dX3_plain_53 rfl (lv_at hl 0 rfl) ?_
            refine m_d1 (v := .int (bI (decide (((rkE P co G E n) (i + 1)).1 = P) && spl co (G (i + 1)) P))) (ct1 := ctC aC ad n gl (rkE P co G E n) G P co lc1 ((pH (okP gl P co G (rkE P co G E n)) (rkE P co G E n) hn hs i).1) ((pH (okP gl P co G (rkE P co G E n)) (rkE P co G E n) hn hs i).2.1) ((pH (okP gl P co G (rkE P co G E n)) (rkE P co G E n) hn hs i).2.2) X) (va_runV (As := [.ref (ad (2 * (i + 1) + 8))]) (rest := []) F (c_spells l (ke := 2 * (i + 1) + 8) (ks := 2 * (i + 1) + 9) (len := ((rkE P co G E n) (i + 1)).1) (gb := ((rkE P co G E n) (i + 1)).2.1) (db := bI ((rkE P co G E n) (i + 1)).2.2.1) (lv := nI ((rkE P co G E n) (i + 1)).2.2.2.2) (sv := va_rf (oE ad ((rkE P co G E n) (i + 1)).2.2.2.1)) (g := G (i + 1)) ctC_2 ctC_3 (ctC_e (by omega) (by omega) h200) (ctC_s (by omega) (by omega) h200) (fun j hj => hsg (i + 1) j (by omega) (by omega) (by rw [← rkE_k.1]; exact hj)) (by rw [rkE_k.1]; exact hlen (i + 1)) hP hco) (cwV 1 F.2.2.2.2 (go_V (fun _ h => tb_O h) mlX3_123 imX2_spells seX2_spells iniX2 cdX2_spells) rfl rfl rfl (by decide +kernel) ⟨Nat.le_of_ble_eq_true rfl, Nat.le_of_ble_eq_true rfl⟩) (mPreV hKK hM (Nat.le_trans hlo hS.1) ctC_2 rfl) rfl rfl hl.1 rfl (lv_room (Nat.le_of_ble_eq_true rfl)) dX3_plain_54 ⟨Nat.le_of_ble_eq_true rfl, Nat.le_of_ble_eq_true rfl⟩) hS (fun H locs hM hS => ?_)
            refine lv_if_eq (tgt := 72) hx hb dX3_plain_57 (by decide) (fun c_57 => ?_) (fun c_57 => ?_)
            · skip
              have hnq : ¬ okP gl P co G (rkE P co G E n) (i + 1) = true := by simp only [okP]; rw [bI_eq c_57]; simp
              refine lv_iinc (v := (nI (i + 1 + 1))) (lv' := [(2, .int (nI (i + 1 + 1))), (3, .ref (ad (2 * (i + 1) + 8))), (0, .ref (ad 0)), (1, .int (nI k))]) hx hb dX3_plain_72 hl (k := 3) rfl (nI_1 (i + 1)) (by decide) rfl (fun ls hl => ?_)
              refine lv_goto (tgt := 23) hx hb dX3_plain_75 (by decide) ?_
              have hnq : ¬ okP gl P co G (rkE P co G E n) (i + 1) = true := by first | exact hnq | simp [okP, hdq, hdr]
              exact ih_23 (i + 1) lc1 (by omega) (by omega) _ _ _ (by rw [pH_n hnq]; exact hM) hS (lv_sub hl [2, 3, 0] rfl)
            · skip
              have hyq : okP gl P co G (rkE P co G E n) (i + 1) = true := by simp only [okP]; rw [bI_ne c_57, bI_ne c_46, hdq, hdr]; rfl
              refine lv_aload_n hx hb dX3_plain_60 rfl (lv_at hl 1 rfl) ?_
              refine m_get F (ci := 3) (v := .ref (ad 5)) (fun w h => tb_O (inX3 w h)) hK hM ctC_0 rfl 3 (by decide) (tb_O lkX3_29) rfl dX3_plain_61 ?_
              refine lv_iload_n hx hb dX3_plain_64 rfl (lv_at hl 3 rfl) ?_
              refine lv_aload_n hx hb dX3_plain_65 rfl (lv_at hl 0 rfl) ?_
              refine m_get F (ci := 0) (v := .int (nI (((rkE P co G E n) (i + 1)).2.2.2.2))) (fun w h => tb_O (inX0 w h)) hK hM (ctC_e (by omega) (by omega) h200) rfl 5 (by decide) (tb_O lkX3_84) rfl dX3_plain_66 ?_
              refine m_d0 (ct1 := va_up (va_up (va_up (ctC aC ad n gl (rkE P co G E n) G P co lc1 ((pH (okP gl P co G (rkE P co G E n)) (rkE P co G E n) hn hs i).1) ((pH (okP gl P co G (rkE P co G E n)) (rkE P co G E n) hn hs i).2.1) ((pH (okP gl P co G (rkE P co G E n)) (rkE P co G E n) hn hs i).2.2) X) 6 (some (iA aC 200 (fun j => nI ((un (pH (okP gl P co G (rkE P co G E n)) (rkE P co G E n) hn hs i).2.1 (pH (okP gl P co G (rkE P co G E n)) (rkE P co G E n) hn hs i).1 (i + 1)) j))))) 7 (some (iA aC 200 (fun j => nI ((un (pH (okP gl P co G (rkE P co G E n)) (rkE P co G E n) hn hs i).2.2 (pH (okP gl P co G (rkE P co G E n)) (rkE P co G E n) hn hs i).1 ((rkE P co G E n) (i + 1)).2.2.2.2) j))))) 5 (some (.inr (1, [.ref (ad 6), .ref (ad 7), .int (nI ((pH (okP gl P co G (rkE P co G E n)) (rkE P co G E n) hn hs i).1 + 1))])))) (va_runV (As := [.int (nI (i + 1)), .int (nI (((rkE P co G E n) (i + 1)).2.2.2.2))]) (rest := []) F (c_addLast l (i + 1) (((rkE P co G E n) (i + 1)).2.2.2.2) (by omega) ctC_5 ctC_6 ctC_7) (cwV 2 F.2.2.2.2 (go_V (fun _ h => tb_O h) mlX3_126 imX1_addLast seX1_addLast iniX1 cdX1_addLast) rfl rfl rfl (by decide +kernel) ⟨Nat.le_of_ble_eq_true rfl, Nat.le_of_ble_eq_true rfl⟩) (mPreV hKK hM (Nat.le_trans hlo hS.1) ctC_5 rfl) rfl rfl hl.1 rfl (lv_room (Nat.le_of_ble_eq_true rfl)) dX3_plain_69 ⟨Nat.le_of_ble_eq_true rfl, Nat.le_of_ble_eq_true rfl⟩) hS (fun H locs hM hS => ?_)
              have hM : mw D vwCl lo ad (ctC aC ad n gl (rkE P co G E n) G P co lc1 ((pH (okP gl P co G (rkE P co G E n)) (rkE P co G E n) hn hs (i + 1)).1) ((pH (okP gl P co G (rkE P co G E n)) (rkE P co G E n) hn hs (i + 1)).2.1) ((pH (okP gl P co G (rkE P co G E n)) (rkE P co G E n) hn hs (i + 1)).2.2) X) H := by rw [ctC_hn, ctC_hs, ctC_hc] at hM; rw [pH_y hyq]; exact hM
              refine lv_iinc (v := (nI (i + 1 + 1))) (lv' := [(2, .int (nI (i + 1 + 1))), (3, .ref (ad (2 * (i + 1) + 8))), (0, .ref (ad 0)), (1, .int (nI k))]) hx hb dX3_plain_72 hl (k := 3) rfl (nI_1 (i + 1)) (by decide) rfl (fun ls hl => ?_)
              refine lv_goto (tgt := 23) hx hb dX3_plain_75 (by decide) ?_
              exact ih_23 (i + 1) lc1 (by omega) (by omega) _ _ _ hM hS (lv_sub hl [2, 3, 0] rfl)
        · skip
          refine m_d1 (v := .null) (ct1 := ctC aC ad n gl (rkE P co G E n) G P co lc1 ((pH (okP gl P co G (rkE P co G E n)) (rkE P co G E n) hn hs i).1) ((pH (okP gl P co G (rkE P co G E n)) (rkE P co G E n) hn hs i).2.1) ((pH (okP gl P co G (rkE P co G E n)) (rkE P co G E n) hn hs i).2.2) X) (va_runV (As := [.int (nI (i + 1))]) (rest := []) F (c_livF l (i + 1) (by omega) (by omega) h200 (by rw [hdq]; exact hdr)) (cwV 1 F.2.2.2.2 (go_V (fun _ h => tb_O h) mlX3_37 imX3_living seX3_living iniX3 cdX3_living) rfl rfl rfl (by decide +kernel) ⟨Nat.le_of_ble_eq_true rfl, Nat.le_of_ble_eq_true rfl⟩) (mPreV hKK hM (Nat.le_trans hlo hS.1) ctC_0 rfl) rfl rfl hl.1 rfl (lv_room (Nat.le_of_ble_eq_true rfl)) dX3_plain_33 ⟨Nat.le_of_ble_eq_true rfl, Nat.le_of_ble_eq_true rfl⟩) hS (fun H locs hM hS => ?_)
          refine lv_astore_nN (lv' := [(3, .null), (0, .ref (ad 0)), (1, .int (nI k)), (2, .int (nI (i + 1)))]) hx hb dX3_plain_36 rfl hl (by decide) rfl (fun ls hl => ?_)
          refine lv_aload_nN hx hb dX3_plain_37 rfl (lv_at hl 0 rfl) ?_
          refine lv_ifnullN (tgt := 72) hx hb dX3_plain_38 (by decide) ?_
          refine lv_iinc (v := (nI (i + 1 + 1))) (lv' := [(2, .int (nI (i + 1 + 1))), (3, .null), (0, .ref (ad 0)), (1, .int (nI k))]) hx hb dX3_plain_72 hl (k := 3) rfl (nI_1 (i + 1)) (by decide) rfl (fun ls hl => ?_)
          refine lv_goto (tgt := 23) hx hb dX3_plain_75 (by decide) ?_
          have hnq : ¬ okP gl P co G (rkE P co G E n) (i + 1) = true := by first | exact hnq | simp [okP, hdq, hdr]
          exact ih_23 (i + 1) lc1 (by omega) (by omega) _ _ _ (by rw [pH_n hnq]; exact hM) hS (lv_sub hl [2, 3, 0] rfl)
  refine lv_iload_n hx hb dX3_plain_0 rfl (lv_at hl 1 rfl) ?_
  refine m_d1 (v := .int (bI (isK (nI k)))) (ct1 := ctC aC ad n gl E G P co lc hc hn hs X) (va_runS (As := [.int (nI k)]) (rest := []) F (c_mayBeAsked l (nI k)) (va_cwS 1 F.2.2.2.2 (go_S (fun _ h => tb_O h) mlX3_73 stX3_mayBeAsked iniX3 cdX3_mayBeAsked) rfl rfl rfl (by decide +kernel) ⟨Nat.le_of_ble_eq_true rfl, Nat.le_of_ble_eq_true rfl⟩) (mPreS hKK hM (Nat.le_trans hlo hS.1)) rfl rfl hl.1 rfl (lv_room (Nat.le_of_ble_eq_true rfl)) dX3_plain_1 ⟨Nat.le_of_ble_eq_true rfl, Nat.le_of_ble_eq_true rfl⟩) hS (fun H locs hM hS => ?_)
  refine lv_if_ne (tgt := 10) hx hb dX3_plain_4 (by decide) (fun c_4 => ?_) (fun c_4 => ?_)
  · skip
    refine lv_aload_n hx hb dX3_plain_10 rfl (lv_at hl 0 rfl) ?_
    refine m_ret0 (va_runV (As := []) (rest := []) F (c_reckon l h200 hP hco hlen hsg hls hsfo) (cwV 0 F.2.2.2.2 (go_V (fun _ h => tb_O h) mlX3_76 imX3_reckonSums seX3_reckonSums iniX3 cdX3_reckonSums) rfl rfl rfl (by decide +kernel) ⟨Nat.le_of_ble_eq_true rfl, Nat.le_of_ble_eq_true rfl⟩) (mPreV hKK hM (Nat.le_trans hlo hS.1) ctC_0 rfl) rfl rfl hl.1 rfl (lv_room (Nat.le_of_ble_eq_true rfl)) dX3_plain_11 ⟨Nat.le_of_ble_eq_true rfl, Nat.le_of_ble_eq_true rfl⟩) hS (fun ad1 ct1 H locs hp hM hS => ?_)
    obtain ⟨h9, lc1, rfl⟩ := hp
    replace h9 := h9.symm
    subst h9
    refine lv_aload_n hx hb dX3_plain_14 rfl (lv_at hl 0 rfl) ?_
    refine m_get F (ci := 3) (v := .ref (ad 5)) (fun w h => tb_O (inX3 w h)) hK hM ctC_0 rfl 3 (by decide) (tb_O lkX3_29) rfl dX3_plain_15 ?_
    refine m_d0 (ct1 := va_up (ctC aC ad n gl (rkE P co G E n) G P co lc1 hc hn hs X) 5 (some (.inr (1, [.ref (ad 6), .ref (ad 7), .int (nI 0)])))) (va_runV (As := []) (rest := []) F (c_hforget l ctC_5) (cwV 0 F.2.2.2.2 (go_V (fun _ h => tb_O h) mlX3_79 imX1_forget seX1_forget iniX1 cdX1_forget) rfl rfl rfl (by decide +kernel) ⟨Nat.le_of_ble_eq_true rfl, Nat.le_of_ble_eq_true rfl⟩) (mPreV hKK hM (Nat.le_trans hlo hS.1) ctC_5 rfl) rfl rfl hl.1 rfl (lv_room (Nat.le_of_ble_eq_true rfl)) dX3_plain_18 ⟨Nat.le_of_ble_eq_true rfl, Nat.le_of_ble_eq_true rfl⟩) hS (fun H locs hM hS => ?_)
    have hM : mw D vwCl lo ad (ctC aC ad n gl (rkE P co G E n) G P co lc1 0 hn hs X) H := by rw [ctC_hc] at hM; exact hM
    refine lv_iconst (v := (nI 1)) hx hb dX3_plain_21 (by decide) ?_
    refine lv_istore_n (lv' := [(2, .int (nI 1)), (0, .ref (ad 0)), (1, .int (nI k))]) hx hb dX3_plain_22 rfl hl (by decide) rfl (fun ls hl => ?_)
    exact loop_23 (n + 1) 0 lc1 (Nat.zero_le _) (by omega) _ _ _ hM hS (lv_sub hl [1, 2, 0] rfl)
  · skip
    exact absurd (by rw [isK_nI hk1 hk2]; decide) (fun h : ¬ bI (isK (nI k)) = 0 => h c_4)
end
section
set_option maxHeartbeats 4000000 in
set_option maxRecDepth 100000 in
theorem c_letterU (l : Launch) {D : va_G} {aC : Nat → ClassId} {lo : Nat} {ad : Nat → Nat} {n : Nat} {gl : Int32} {E : Nat → Ent} {G : Nat → Nat → Nat} {P : Nat} {co : Nat → Option Nat} {lc : Nat → Nat} {hc : Nat} {hn hs : Nat → Nat} {X : Nat → Option va_E} (x y : Int32) (hn0 : cLiv n E x = none) (h200 : n ≤ 200) : Met l yX3_letter (wsO yX3_letter cX3_letter 4 (some .int)) ({ frames := 1, cells := 0, slots := 0, locals := 22 } : Room) (mPc D vwCl (tyA aC) lo ad (ctC aC ad n gl E G P co lc hc hn hs X) [.ref (ad 0), .int x, .int y]) (mD1 D vwCl lo (.int (-1)) ad (ctC aC ad n gl E G P co lc hc hn hs X)) 0 0 (fun q => lo ≤ q) := by
  refine Met.ofW (cc := cX3_letter) (maxL := 4) (ret := (some .int)) (by decide) rfl ?_
  intro pr en s0 mm args below meth cc0 s₁ B hml hv
  obtain ⟨rfl, hlo, hM, hKK⟩ := hv
  have hK := hKK.1
  have hr := B.returns
  have hts := atoms_spec (ws := (wsO yX3_letter cX3_letter 4 (some .int))) B.pre
  have F : CallFix pr mm cc0 cX3_letter 4 s0 (([.ref (ad 0), .int x, .int y] : List Value).toArray) (wsO yX3_letter cX3_letter 4 (some .int)) RX3 := ⟨B.exec, B.bytes, hml, findClass_of_methodNamed B.named, hts⟩
  have hx := F.1
  have hb := F.2.1
  have hlocks := B.notSynchronized
  have hS : va_S (fun q => lo ≤ q) s0.heap s0.heap [] := va_S.rf
  have hl := lv_entry ([.ref (ad 0), .int x, .int y]) (n := 4) (Nat.le_of_ble_eq_true rfl)
  rw [lg_entry_eq]
  generalize (lg_sl ([.ref (ad 0), .int x, .int y]) ++ List.replicate (4 - (lg_sl ([.ref (ad 0), .int x, .int y])).length) Slot.unset).toArray = ls at hl ⊢
  have hl : lv_has ls 4 [(0, .ref (ad 0)), (1, .int x), (2, .int y)] := hl
  refine lv_aload_n hx hb dX3_letter_0 rfl (lv_at hl 0 rfl) ?_
  refine lv_iload_n hx hb dX3_letter_1 rfl (lv_at hl 1 rfl) ?_
  refine m_d1 (v := va_rf (oE ad (cLiv n E x))) (ct1 := ctC aC ad n gl E G P co lc hc hn hs X) (va_runV (As := [.int x]) (rest := []) F (c_living l x h200) (cwV 1 F.2.2.2.2 (go_V (fun _ h => tb_O h) mlX3_37 imX3_living seX3_living iniX3 cdX3_living) rfl rfl rfl (by decide +kernel) ⟨Nat.le_of_ble_eq_true rfl, Nat.le_of_ble_eq_true rfl⟩) (mPreV hKK hM (Nat.le_trans hlo hS.1) ctC_0 rfl) rfl rfl hl.1 rfl (lv_room (Nat.le_of_ble_eq_true rfl)) dX3_letter_2 ⟨Nat.le_of_ble_eq_true rfl, Nat.le_of_ble_eq_true rfl⟩) hS (fun H locs hM hS => ?_)
  rw [hn0]
  · skip
    refine m_val (v' := .null) rfl ?_
    refine lv_astore_nN (lv' := [(3, .null), (0, .ref (ad 0)), (1, .int x), (2, .int y)]) hx hb dX3_letter_5 rfl hl (by decide) rfl (fun ls hl => ?_)
    refine lv_aload_nN hx hb dX3_letter_6 rfl (lv_at hl 0 rfl) ?_
    refine lv_ifnonnullN hx hb dX3_letter_7 ?_
    refine lv_iconst (v := (-1)) hx hb dX3_letter_10 (by decide) ?_
    exact W.iret hx hb hr (fun t ht hW => ⟨⟨_, _, _, rfl, ⟨rfl, rfl, rfl⟩, by rw [ht]; exact hM⟩, hS.F ht⟩) hS.2.2 dX3_letter_11

set_option maxHeartbeats 4000000 in
set_option maxRecDepth 100000 in
theorem c_letterO (l : Launch) {D : va_G} {aC : Nat → ClassId} {lo : Nat} {ad : Nat → Nat} {n : Nat} {gl : Int32} {E : Nat → Ent} {G : Nat → Nat → Nat} {P : Nat} {co : Nat → Option Nat} {lc : Nat → Nat} {hc : Nat} {hn hs : Nat → Nat} {X : Nat → Option va_E} (j : Nat) (y : Int32) (hj1 : 1 ≤ j) (hj2 : j ≤ n) (h200 : n ≤ 200) (hd : (E j).2.2.1 = false) (hy : isSg y = false) : Met l yX3_letter (wsO yX3_letter cX3_letter 4 (some .int)) ({ frames := 1, cells := 0, slots := 0, locals := 22 } : Room) (mPc D vwCl (tyA aC) lo ad (ctC aC ad n gl E G P co lc hc hn hs X) [.ref (ad 0), .int (nI j), .int y]) (mD1 D vwCl lo (.int (-2)) ad (ctC aC ad n gl E G P co lc hc hn hs X)) 0 0 (fun q => lo ≤ q) := by
  refine Met.ofW (cc := cX3_letter) (maxL := 4) (ret := (some .int)) (by decide) rfl ?_
  intro pr en s0 mm args below meth cc0 s₁ B hml hv
  obtain ⟨rfl, hlo, hM, hKK⟩ := hv
  have hK := hKK.1
  have hr := B.returns
  have hts := atoms_spec (ws := (wsO yX3_letter cX3_letter 4 (some .int))) B.pre
  have F : CallFix pr mm cc0 cX3_letter 4 s0 (([.ref (ad 0), .int (nI j), .int y] : List Value).toArray) (wsO yX3_letter cX3_letter 4 (some .int)) RX3 := ⟨B.exec, B.bytes, hml, findClass_of_methodNamed B.named, hts⟩
  have hx := F.1
  have hb := F.2.1
  have hlocks := B.notSynchronized
  have hS : va_S (fun q => lo ≤ q) s0.heap s0.heap [] := va_S.rf
  have hl := lv_entry ([.ref (ad 0), .int (nI j), .int y]) (n := 4) (Nat.le_of_ble_eq_true rfl)
  rw [lg_entry_eq]
  generalize (lg_sl ([.ref (ad 0), .int (nI j), .int y]) ++ List.replicate (4 - (lg_sl ([.ref (ad 0), .int (nI j), .int y])).length) Slot.unset).toArray = ls at hl ⊢
  have hl : lv_has ls 4 [(0, .ref (ad 0)), (1, .int (nI j)), (2, .int y)] := hl
  refine lv_aload_n hx hb dX3_letter_0 rfl (lv_at hl 0 rfl) ?_
  refine lv_iload_n hx hb dX3_letter_1 rfl (lv_at hl 1 rfl) ?_
  refine m_d1 (v := .ref (ad (2 * j + 8))) (ct1 := ctC aC ad n gl E G P co lc hc hn hs X) (va_runV (As := [.int (nI j)]) (rest := []) F (c_livT l j hj1 hj2 h200 hd) (cwV 1 F.2.2.2.2 (go_V (fun _ h => tb_O h) mlX3_37 imX3_living seX3_living iniX3 cdX3_living) rfl rfl rfl (by decide +kernel) ⟨Nat.le_of_ble_eq_true rfl, Nat.le_of_ble_eq_true rfl⟩) (mPreV hKK hM (Nat.le_trans hlo hS.1) ctC_0 rfl) rfl rfl hl.1 rfl (lv_room (Nat.le_of_ble_eq_true rfl)) dX3_letter_2 ⟨Nat.le_of_ble_eq_true rfl, Nat.le_of_ble_eq_true rfl⟩) hS (fun H locs hM hS => ?_)
  refine lv_astore_n (lv' := [(3, .ref (ad (2 * j + 8))), (0, .ref (ad 0)), (1, .int (nI j)), (2, .int y)]) hx hb dX3_letter_5 rfl hl (by decide) rfl (fun ls hl => ?_)
  refine lv_aload_n hx hb dX3_letter_6 rfl (lv_at hl 0 rfl) ?_
  refine lv_ifnonnull (tgt := 12) hx hb dX3_letter_7 (by decide) ?_
  refine lv_iload_n hx hb dX3_letter_12 rfl (lv_at hl 3 rfl) ?_
  refine m_d1 (v := .int (bI (isSg y))) (ct1 := ctC aC ad n gl E G P co lc hc hn hs X) (va_runS (As := [.int y]) (rest := []) F (c_isSign l y) (va_cwS 1 F.2.2.2.2 (go_S (fun _ h => tb_O h) mlX3_41 stX3_isSign iniX3 cdX3_isSign) rfl rfl rfl (by decide +kernel) ⟨Nat.le_of_ble_eq_true rfl, Nat.le_of_ble_eq_true rfl⟩) (mPreS hKK hM (Nat.le_trans hlo hS.1)) rfl rfl hl.1 rfl (lv_room (Nat.le_of_ble_eq_true rfl)) dX3_letter_13 ⟨Nat.le_of_ble_eq_true rfl, Nat.le_of_ble_eq_true rfl⟩) hS (fun H locs hM hS => ?_)
  refine lv_if_ne (tgt := 22) hx hb dX3_letter_16 (by decide) (fun c_16 => ?_) (fun c_16 => ?_)
  · skip
    exact absurd (by rw [hy]; rfl) c_16
  · skip
    refine lv_bipush (v := (-2)) hx hb dX3_letter_19 (by decide) ?_
    exact W.iret hx hb hr (fun t ht hW => ⟨⟨_, _, _, rfl, ⟨rfl, rfl, rfl⟩, by rw [ht]; exact hM⟩, hS.F ht⟩) hS.2.2 dX3_letter_21

set_option maxHeartbeats 4000000 in
set_option maxRecDepth 100000 in
theorem c_letterR (l : Launch) {D : va_G} {aC : Nat → ClassId} {lo : Nat} {ad : Nat → Nat} {n : Nat} {gl : Int32} {E : Nat → Ent} {G : Nat → Nat → Nat} {P : Nat} {co : Nat → Option Nat} {lc : Nat → Nat} {hc : Nat} {hn hs : Nat → Nat} {X : Nat → Option va_E} (j q : Nat) (hj1 : 1 ≤ j) (hj2 : j ≤ n) (h200 : n ≤ 200) (hd : (E j).2.2.1 = false) (hq1 : 33 ≤ q) (hq2 : q ≤ 126) (hl20 : (E j).1 = 20) : Met l yX3_letter (wsO yX3_letter cX3_letter 4 (some .int)) ({ frames := 1, cells := 0, slots := 0, locals := 22 } : Room) (mPc D vwCl (tyA aC) lo ad (ctC aC ad n gl E G P co lc hc hn hs X) [.ref (ad 0), .int (nI j), .int (nI q)]) (mD1 D vwCl lo (.int (-4)) ad (ctC aC ad n gl E G P co lc hc hn hs X)) 0 0 (fun q => lo ≤ q) := by
  refine Met.ofW (cc := cX3_letter) (maxL := 4) (ret := (some .int)) (by decide) rfl ?_
  intro pr en s0 mm args below meth cc0 s₁ B hml hv
  obtain ⟨rfl, hlo, hM, hKK⟩ := hv
  have hK := hKK.1
  have hr := B.returns
  have hts := atoms_spec (ws := (wsO yX3_letter cX3_letter 4 (some .int))) B.pre
  have F : CallFix pr mm cc0 cX3_letter 4 s0 (([.ref (ad 0), .int (nI j), .int (nI q)] : List Value).toArray) (wsO yX3_letter cX3_letter 4 (some .int)) RX3 := ⟨B.exec, B.bytes, hml, findClass_of_methodNamed B.named, hts⟩
  have hx := F.1
  have hb := F.2.1
  have hlocks := B.notSynchronized
  have hS : va_S (fun q => lo ≤ q) s0.heap s0.heap [] := va_S.rf
  have hl := lv_entry ([.ref (ad 0), .int (nI j), .int (nI q)]) (n := 4) (Nat.le_of_ble_eq_true rfl)
  rw [lg_entry_eq]
  generalize (lg_sl ([.ref (ad 0), .int (nI j), .int (nI q)]) ++ List.replicate (4 - (lg_sl ([.ref (ad 0), .int (nI j), .int (nI q)])).length) Slot.unset).toArray = ls at hl ⊢
  have hl : lv_has ls 4 [(0, .ref (ad 0)), (1, .int (nI j)), (2, .int (nI q))] := hl
  refine lv_aload_n hx hb dX3_letter_0 rfl (lv_at hl 0 rfl) ?_
  refine lv_iload_n hx hb dX3_letter_1 rfl (lv_at hl 1 rfl) ?_
  refine m_d1 (v := .ref (ad (2 * j + 8))) (ct1 := ctC aC ad n gl E G P co lc hc hn hs X) (va_runV (As := [.int (nI j)]) (rest := []) F (c_livT l j hj1 hj2 h200 hd) (cwV 1 F.2.2.2.2 (go_V (fun _ h => tb_O h) mlX3_37 imX3_living seX3_living iniX3 cdX3_living) rfl rfl rfl (by decide +kernel) ⟨Nat.le_of_ble_eq_true rfl, Nat.le_of_ble_eq_true rfl⟩) (mPreV hKK hM (Nat.le_trans hlo hS.1) ctC_0 rfl) rfl rfl hl.1 rfl (lv_room (Nat.le_of_ble_eq_true rfl)) dX3_letter_2 ⟨Nat.le_of_ble_eq_true rfl, Nat.le_of_ble_eq_true rfl⟩) hS (fun H locs hM hS => ?_)
  refine lv_astore_n (lv' := [(3, .ref (ad (2 * j + 8))), (0, .ref (ad 0)), (1, .int (nI j)), (2, .int (nI q))]) hx hb dX3_letter_5 rfl hl (by decide) rfl (fun ls hl => ?_)
  refine lv_aload_n hx hb dX3_letter_6 rfl (lv_at hl 0 rfl) ?_
  refine lv_ifnonnull (tgt := 12) hx hb dX3_letter_7 (by decide) ?_
  refine lv_iload_n hx hb dX3_letter_12 rfl (lv_at hl 3 rfl) ?_
  refine m_d1 (v := .int (bI (isSg (nI q)))) (ct1 := ctC aC ad n gl E G P co lc hc hn hs X) (va_runS (As := [.int (nI q)]) (rest := []) F (c_isSign l (nI q)) (va_cwS 1 F.2.2.2.2 (go_S (fun _ h => tb_O h) mlX3_41 stX3_isSign iniX3 cdX3_isSign) rfl rfl rfl (by decide +kernel) ⟨Nat.le_of_ble_eq_true rfl, Nat.le_of_ble_eq_true rfl⟩) (mPreS hKK hM (Nat.le_trans hlo hS.1)) rfl rfl hl.1 rfl (lv_room (Nat.le_of_ble_eq_true rfl)) dX3_letter_13 ⟨Nat.le_of_ble_eq_true rfl, Nat.le_of_ble_eq_true rfl⟩) hS (fun H locs hM hS => ?_)
  refine lv_if_ne (tgt := 22) hx hb dX3_letter_16 (by decide) (fun c_16 => ?_) (fun c_16 => ?_)
  · skip
    refine lv_aload_n hx hb dX3_letter_22 rfl (lv_at hl 0 rfl) ?_
    refine lv_iload_n hx hb dX3_letter_23 rfl (lv_at hl 3 rfl) ?_
    refine m_d1 (v := .int (nI 0)) (ct1 := ctC aC ad n gl E G P co lc hc hn hs X) (va_runV (As := [.int (nI q)]) (rest := []) F (c_appendF l (ke := 2 * j + 8) (ks := 2 * j + 9) (len := (E j).1) (gb := (E j).2.1) (db := bI (E j).2.2.1) (lv := nI (E j).2.2.2.2) (sv := va_rf (oE ad (E j).2.2.2.1)) q hl20 (ctC_e hj1 hj2 h200) (ctC_s hj1 hj2 h200)) (cwV 1 F.2.2.2.2 (go_V (fun _ h => tb_O h) mlX3_45 imX0_append seX0_append iniX0 cdX0_append) rfl rfl rfl (by decide +kernel) ⟨Nat.le_of_ble_eq_true rfl, Nat.le_of_ble_eq_true rfl⟩) (mPreV hKK hM (Nat.le_trans hlo hS.1) (ctC_e hj1 hj2 h200) rfl) rfl rfl hl.1 rfl (lv_room (Nat.le_of_ble_eq_true rfl)) dX3_letter_24 ⟨Nat.le_of_ble_eq_true rfl, Nat.le_of_ble_eq_true rfl⟩) hS (fun H locs hM hS => ?_)
    refine lv_if_eq (tgt := 37) hx hb dX3_letter_27 (by decide) (fun c_27 => ?_) (fun c_27 => ?_)
    · skip
      refine lv_bipush (v := (-4)) hx hb dX3_letter_37 (by decide) ?_
      exact W.iret hx hb hr (fun t ht hW => ⟨⟨_, _, _, rfl, ⟨rfl, rfl, rfl⟩, by rw [ht]; exact hM⟩, hS.F ht⟩) hS.2.2 dX3_letter_39
    · skip
      exact absurd nI_0 c_27
  · skip
    exact absurd (by rw [isSg_nI hq1 hq2]; decide) (fun h : ¬ bI (isSg (nI q)) = 0 => h c_16)

set_option maxHeartbeats 4000000 in
set_option maxRecDepth 100000 in
theorem c_letter (l : Launch) {D : va_G} {aC : Nat → ClassId} {lo : Nat} {ad : Nat → Nat} {n : Nat} {gl : Int32} {E : Nat → Ent} {G : Nat → Nat → Nat} {P : Nat} {co : Nat → Option Nat} {lc : Nat → Nat} {hc : Nat} {hn hs : Nat → Nat} {X : Nat → Option va_E} (j q : Nat) (hj1 : 1 ≤ j) (hj2 : j ≤ n) (h200 : n ≤ 200) (hd : (E j).2.2.1 = false) (hq1 : 33 ≤ q) (hq2 : q ≤ 126) (hl20 : (E j).1 < 20) : Met l yX3_letter (wsO yX3_letter cX3_letter 4 (some .int)) ({ frames := 1, cells := 0, slots := 0, locals := 22 } : Room) (mPc D vwCl (tyA aC) lo ad (ctC aC ad n gl E G P co lc hc hn hs X) [.ref (ad 0), .int (nI j), .int (nI q)]) (mD1 D vwCl lo (.int (nI ((E j).1 + 1))) ad (ctC aC ad n gl (va_up E j (seN (E j) ((E j).1 + 1))) (va_up G j (un (G j) (E j).1 q)) P co lc hc hn hs X)) 0 0 (fun q => lo ≤ q) := by
  refine Met.ofW (cc := cX3_letter) (maxL := 4) (ret := (some .int)) (by decide) rfl ?_
  intro pr en s0 mm args below meth cc0 s₁ B hml hv
  obtain ⟨rfl, hlo, hM, hKK⟩ := hv
  have hK := hKK.1
  have hr := B.returns
  have hts := atoms_spec (ws := (wsO yX3_letter cX3_letter 4 (some .int))) B.pre
  have F : CallFix pr mm cc0 cX3_letter 4 s0 (([.ref (ad 0), .int (nI j), .int (nI q)] : List Value).toArray) (wsO yX3_letter cX3_letter 4 (some .int)) RX3 := ⟨B.exec, B.bytes, hml, findClass_of_methodNamed B.named, hts⟩
  have hx := F.1
  have hb := F.2.1
  have hlocks := B.notSynchronized
  have hS : va_S (fun q => lo ≤ q) s0.heap s0.heap [] := va_S.rf
  have hl := lv_entry ([.ref (ad 0), .int (nI j), .int (nI q)]) (n := 4) (Nat.le_of_ble_eq_true rfl)
  rw [lg_entry_eq]
  generalize (lg_sl ([.ref (ad 0), .int (nI j), .int (nI q)]) ++ List.replicate (4 - (lg_sl ([.ref (ad 0), .int (nI j), .int (nI q)])).length) Slot.unset).toArray = ls at hl ⊢
  have hl : lv_has ls 4 [(0, .ref (ad 0)), (1, .int (nI j)), (2, .int (nI q))] := hl
  refine lv_aload_n hx hb dX3_letter_0 rfl (lv_at hl 0 rfl) ?_
  refine lv_iload_n hx hb dX3_letter_1 rfl (lv_at hl 1 rfl) ?_
  refine m_d1 (v := .ref (ad (2 * j + 8))) (ct1 := ctC aC ad n gl E G P co lc hc hn hs X) (va_runV (As := [.int (nI j)]) (rest := []) F (c_livT l j hj1 hj2 h200 hd) (cwV 1 F.2.2.2.2 (go_V (fun _ h => tb_O h) mlX3_37 imX3_living seX3_living iniX3 cdX3_living) rfl rfl rfl (by decide +kernel) ⟨Nat.le_of_ble_eq_true rfl, Nat.le_of_ble_eq_true rfl⟩) (mPreV hKK hM (Nat.le_trans hlo hS.1) ctC_0 rfl) rfl rfl hl.1 rfl (lv_room (Nat.le_of_ble_eq_true rfl)) dX3_letter_2 ⟨Nat.le_of_ble_eq_true rfl, Nat.le_of_ble_eq_true rfl⟩) hS (fun H locs hM hS => ?_)
  refine lv_astore_n (lv' := [(3, .ref (ad (2 * j + 8))), (0, .ref (ad 0)), (1, .int (nI j)), (2, .int (nI q))]) hx hb dX3_letter_5 rfl hl (by decide) rfl (fun ls hl => ?_)
  refine lv_aload_n hx hb dX3_letter_6 rfl (lv_at hl 0 rfl) ?_
  refine lv_ifnonnull (tgt := 12) hx hb dX3_letter_7 (by decide) ?_
  refine lv_iload_n hx hb dX3_letter_12 rfl (lv_at hl 3 rfl) ?_
  refine m_d1 (v := .int (bI (isSg (nI q)))) (ct1 := ctC aC ad n gl E G P co lc hc hn hs X) (va_runS (As := [.int (nI q)]) (rest := []) F (c_isSign l (nI q)) (va_cwS 1 F.2.2.2.2 (go_S (fun _ h => tb_O h) mlX3_41 stX3_isSign iniX3 cdX3_isSign) rfl rfl rfl (by decide +kernel) ⟨Nat.le_of_ble_eq_true rfl, Nat.le_of_ble_eq_true rfl⟩) (mPreS hKK hM (Nat.le_trans hlo hS.1)) rfl rfl hl.1 rfl (lv_room (Nat.le_of_ble_eq_true rfl)) dX3_letter_13 ⟨Nat.le_of_ble_eq_true rfl, Nat.le_of_ble_eq_true rfl⟩) hS (fun H locs hM hS => ?_)
  refine lv_if_ne (tgt := 22) hx hb dX3_letter_16 (by decide) (fun c_16 => ?_) (fun c_16 => ?_)
  · skip
    refine lv_aload_n hx hb dX3_letter_22 rfl (lv_at hl 0 rfl) ?_
    refine lv_iload_n hx hb dX3_letter_23 rfl (lv_at hl 3 rfl) ?_
    refine m_d1 (v := .int (nI 1)) (ct1 := va_up (va_up (ctC aC ad n gl E G P co lc hc hn hs X) (2 * j + 9) (some (iA aC 20 (fun k => nI (un (G j) (E j).1 q k))))) (2 * j + 8) (some (.inr (0, [.ref (ad (2 * j + 9)), .int (nI ((E j).1 + 1)), .int ((E j).2.1), .int (bI (E j).2.2.1), va_rf (oE ad (E j).2.2.2.1), .int (nI (E j).2.2.2.2)])))) (va_runV (As := [.int (nI q)]) (rest := []) F (c_append l (ke := 2 * j + 8) (ks := 2 * j + 9) (len := (E j).1) (gb := (E j).2.1) (db := bI (E j).2.2.1) (lv := nI (E j).2.2.2.2) (sv := va_rf (oE ad (E j).2.2.2.1)) (g := G j) q hl20 (by omega) (ctC_e hj1 hj2 h200) (ctC_s hj1 hj2 h200)) (cwV 1 F.2.2.2.2 (go_V (fun _ h => tb_O h) mlX3_45 imX0_append seX0_append iniX0 cdX0_append) rfl rfl rfl (by decide +kernel) ⟨Nat.le_of_ble_eq_true rfl, Nat.le_of_ble_eq_true rfl⟩) (mPreV hKK hM (Nat.le_trans hlo hS.1) (ctC_e hj1 hj2 h200) rfl) rfl rfl hl.1 rfl (lv_room (Nat.le_of_ble_eq_true rfl)) dX3_letter_24 ⟨Nat.le_of_ble_eq_true rfl, Nat.le_of_ble_eq_true rfl⟩) hS (fun H locs hM hS => ?_)
    have hM : mw D vwCl lo ad (ctC aC ad n gl (va_up E j (seN (E j) ((E j).1 + 1))) (va_up G j (un (G j) (E j).1 q)) P co lc hc hn hs X) H := by
        have h9 : mw D vwCl lo ad (va_up (va_up (ctC aC ad n gl E G P co lc hc hn hs X) (2 * j + 9) (some (iA aC 20 (fun k => nI (un (G j) (E j).1 q k))))) (2 * j + 8) (some (entO ad j (seN (E j) ((E j).1 + 1))))) H := hM
        rw [ctC_G hj1 hj2 h200, ctC_E hj1 hj2 h200] at h9
        exact h9
    refine lv_if_eq (tgt := 37) hx hb dX3_letter_27 (by decide) (fun c_27 => ?_) (fun c_27 => ?_)
    · skip
      exact absurd c_27 (by decide)
    · skip
      refine lv_aload_n hx hb dX3_letter_30 rfl (lv_at hl 0 rfl) ?_
      refine m_get F (ci := 0) (v := .int (nI (((va_up E j (seN (E j) ((E j).1 + 1))) j).1))) (fun w h => tb_O (inX0 w h)) hK hM (ctC_e hj1 hj2 h200) rfl 1 (by decide) (tb_O lkX3_48) rfl dX3_letter_31 ?_
      refine m_val (v' := .int (nI ((E j).1 + 1))) (by rw [va_up_self]; rfl) ?_
      refine lv_goto (tgt := 39) hx hb dX3_letter_34 (by decide) ?_
      exact W.iret hx hb hr (fun t ht hW => ⟨⟨_, _, _, rfl, ⟨rfl, rfl, rfl⟩, by rw [ht]; exact hM⟩, hS.F ht⟩) hS.2.2 dX3_letter_39
  · skip
    exact absurd (by rw [isSg_nI hq1 hq2]; decide) (fun h : ¬ bI (isSg (nI q)) = 0 => h c_16)

set_option maxHeartbeats 4000000 in
set_option maxRecDepth 100000 in
theorem c_dropU (l : Launch) {D : va_G} {aC : Nat → ClassId} {lo : Nat} {ad : Nat → Nat} {n : Nat} {gl : Int32} {E : Nat → Ent} {G : Nat → Nat → Nat} {P : Nat} {co : Nat → Option Nat} {lc : Nat → Nat} {hc : Nat} {hn hs : Nat → Nat} {X : Nat → Option va_E} (x : Int32) (hn0 : cLiv n E x = none) (h200 : n ≤ 200) : Met l yX3_drop (wsO yX3_drop cX3_drop 5 (some .int)) ({ frames := 1, cells := 0, slots := 0, locals := 22 } : Room) (mPc D vwCl (tyA aC) lo ad (ctC aC ad n gl E G P co lc hc hn hs X) [.ref (ad 0), .int x]) (mD1 D vwCl lo (.int (-1)) ad (ctC aC ad n gl E G P co lc hc hn hs X)) 0 0 (fun q => lo ≤ q) := by
  refine Met.ofW (cc := cX3_drop) (maxL := 5) (ret := (some .int)) (by decide) rfl ?_
  intro pr en s0 mm args below meth cc0 s₁ B hml hv
  obtain ⟨rfl, hlo, hM, hKK⟩ := hv
  have hK := hKK.1
  have hr := B.returns
  have hts := atoms_spec (ws := (wsO yX3_drop cX3_drop 5 (some .int))) B.pre
  have F : CallFix pr mm cc0 cX3_drop 5 s0 (([.ref (ad 0), .int x] : List Value).toArray) (wsO yX3_drop cX3_drop 5 (some .int)) RX3 := ⟨B.exec, B.bytes, hml, findClass_of_methodNamed B.named, hts⟩
  have hx := F.1
  have hb := F.2.1
  have hlocks := B.notSynchronized
  have hS : va_S (fun q => lo ≤ q) s0.heap s0.heap [] := va_S.rf
  have hl := lv_entry ([.ref (ad 0), .int x]) (n := 5) (Nat.le_of_ble_eq_true rfl)
  rw [lg_entry_eq]
  generalize (lg_sl ([.ref (ad 0), .int x]) ++ List.replicate (5 - (lg_sl ([.ref (ad 0), .int x])).length) Slot.unset).toArray = ls at hl ⊢
  have hl : lv_has ls 5 [(0, .ref (ad 0)), (1, .int x)] := hl
  refine lv_aload_n hx hb dX3_drop_0 rfl (lv_at hl 0 rfl) ?_
  refine lv_iload_n hx hb dX3_drop_1 rfl (lv_at hl 1 rfl) ?_
  refine m_d1 (v := va_rf (oE ad (cLiv n E x))) (ct1 := ctC aC ad n gl E G P co lc hc hn hs X) (va_runV (As := [.int x]) (rest := []) F (c_living l x h200) (cwV 1 F.2.2.2.2 (go_V (fun _ h => tb_O h) mlX3_37 imX3_living seX3_living iniX3 cdX3_living) rfl rfl rfl (by decide +kernel) ⟨Nat.le_of_ble_eq_true rfl, Nat.le_of_ble_eq_true rfl⟩) (mPreV hKK hM (Nat.le_trans hlo hS.1) ctC_0 rfl) rfl rfl hl.1 rfl (lv_room (Nat.le_of_ble_eq_true rfl)) dX3_drop_2 ⟨Nat.le_of_ble_eq_true rfl, Nat.le_of_ble_eq_true rfl⟩) hS (fun H locs hM hS => ?_)
  rw [hn0]
  · skip
    refine m_val (v' := .null) rfl ?_
    refine lv_astore_nN (lv' := [(2, .null), (0, .ref (ad 0)), (1, .int x)]) hx hb dX3_drop_5 rfl hl (by decide) rfl (fun ls hl => ?_)
    refine lv_aload_nN hx hb dX3_drop_6 rfl (lv_at hl 0 rfl) ?_
    refine lv_ifnonnullN hx hb dX3_drop_7 ?_
    refine lv_iconst (v := (-1)) hx hb dX3_drop_10 (by decide) ?_
    exact W.iret hx hb hr (fun t ht hW => ⟨⟨_, _, _, rfl, ⟨rfl, rfl, rfl⟩, by rw [ht]; exact hM⟩, hS.F ht⟩) hS.2.2 dX3_drop_11

set_option maxHeartbeats 4000000 in
set_option maxRecDepth 100000 in
theorem c_drop (l : Launch) {D : va_G} {aC : Nat → ClassId} {lo : Nat} {ad : Nat → Nat} {n : Nat} {gl : Int32} {E : Nat → Ent} {G : Nat → Nat → Nat} {P : Nat} {co : Nat → Option Nat} {lc : Nat → Nat} {hc : Nat} {hn hs : Nat → Nat} {X : Nat → Option va_E} (j : Nat) (hj1 : 1 ≤ j) (hj2 : j ≤ n) (h200 : n ≤ 200) (hd : (E j).2.2.1 = false) (hsfo : sfOk n E) : Met l yX3_drop (wsO yX3_drop cX3_drop 5 (some .int)) ({ frames := 2, cells := 0, slots := 0, locals := 46 } : Room) (mPc D vwCl (tyA aC) lo ad (ctC aC ad n gl E G P co lc hc hn hs X) [.ref (ad 0), .int (nI j)]) (mD1 D vwCl lo (.int (nI (cnt (inW (drE E j n) (-1)) n))) ad (ctC aC ad n gl (drE E j n) G P co lc hc hn hs X)) 0 0 (fun q => lo ≤ q) := by
  refine Met.ofW (cc := cX3_drop) (maxL := 5) (ret := (some .int)) (by decide) rfl ?_
  intro pr en s0 mm args below meth cc0 s₁ B hml hv
  obtain ⟨rfl, hlo, hM, hKK⟩ := hv
  have hK := hKK.1
  have hr := B.returns
  have hts := atoms_spec (ws := (wsO yX3_drop cX3_drop 5 (some .int))) B.pre
  have F : CallFix pr mm cc0 cX3_drop 5 s0 (([.ref (ad 0), .int (nI j)] : List Value).toArray) (wsO yX3_drop cX3_drop 5 (some .int)) RX3 := ⟨B.exec, B.bytes, hml, findClass_of_methodNamed B.named, hts⟩
  have hx := F.1
  have hb := F.2.1
  have hlocks := B.notSynchronized
  have hS : va_S (fun q => lo ≤ q) s0.heap s0.heap [] := va_S.rf
  have hl := lv_entry ([.ref (ad 0), .int (nI j)]) (n := 5) (Nat.le_of_ble_eq_true rfl)
  rw [lg_entry_eq]
  generalize (lg_sl ([.ref (ad 0), .int (nI j)]) ++ List.replicate (5 - (lg_sl ([.ref (ad 0), .int (nI j)])).length) Slot.unset).toArray = ls at hl ⊢
  have hl : lv_has ls 5 [(0, .ref (ad 0)), (1, .int (nI j))] := hl
  have loop_24 : ∀ (fu : Nat) (i : Nat), (i ≤ n) → n + 1 - i ≤ fu → ∀ (H : Heap) (locs : List Loc) (ls : Array Slot), mw D vwCl lo ad (ctC aC ad n gl (drE E j i) G P co lc hc hn hs X) H → va_S (fun q => lo ≤ q) s0.heap H locs → lv_has ls 5 [(0, .ref (ad 0)), (1, .int (nI j)), (2, .ref (ad (2 * j + 8))), (3, .int (nI (i + 1)))] → W pr l en (headSpec (wsO yX3_drop cX3_drop 5 (some .int)) ({ frames := 2, cells := 0, slots := 0, locals := 46 } : Room)).room s0 mm (([.ref (ad 0), .int (nI j)] : List Value).toArray) below meth cc0 H locs 0 0 (MQ below (mD1 D vwCl lo (.int (nI (cnt (inW (drE E j n) (-1)) n))) ad (ctC aC ad n gl (drE E j n) G P co lc hc hn hs X)) (([.ref (ad 0), .int (nI j)] : List Value).toArray) s0 0 0 (fun q => lo ≤ q)) (F0 mm 24 ls []) := by
    intro fu
    induction fu with
    | zero =>
      intro i hi hfu H locs ls hM hS hl
      exact absurd hfu (by omega)
    | succ fu ih_24 =>
      intro i hi hfu H locs ls hM hS hl
      refine lv_iload_n hx hb dX3_drop_24 rfl (lv_at hl 3 rfl) ?_
      refine lv_aload_n hx hb dX3_drop_25 rfl (lv_at hl 0 rfl) ?_
      refine m_get F (ci := 3) (v := .int (nI n)) (fun w h => tb_O (inX3 w h)) hK hM ctC_0 rfl 1 (by decide) (tb_O lkX3_15) rfl dX3_drop_26 ?_
      refine m_icmp_gt F (a := (i + 1)) (b := n) (by omega) (by omega) (tgt := 65) dX3_drop_29 (by decide) (fun c_29 => ?_) (fun c_29 => ?_)
      · skip
        have hin : n = i := by omega
        subst hin
        refine lv_aload_n hx hb dX3_drop_65 rfl (lv_at hl 0 rfl) ?_
        refine lv_iconst (v := (-1)) hx hb dX3_drop_66 (by decide) ?_
        refine m_d1 (v := .int (nI (cnt (inW (drE E j n) (-1)) n))) (ct1 := ctC aC ad n gl (drE E j n) G P co lc hc hn hs X) (va_runV (As := [.int (-1)]) (rest := []) F (c_countWithin l (-1) h200) (cwV 1 F.2.2.2.2 (go_V (fun _ h => tb_O h) mlX3_59 imX3_countWithin seX3_countWithin iniX3 cdX3_countWithin) rfl rfl rfl (by decide +kernel) ⟨Nat.le_of_ble_eq_true rfl, Nat.le_of_ble_eq_true rfl⟩) (mPreV hKK hM (Nat.le_trans hlo hS.1) ctC_0 rfl) rfl rfl hl.1 rfl (lv_room (Nat.le_of_ble_eq_true rfl)) dX3_drop_67 ⟨Nat.le_of_ble_eq_true rfl, Nat.le_of_ble_eq_true rfl⟩) hS (fun H locs hM hS => ?_)
        exact W.iret hx hb hr (fun t ht hW => ⟨⟨_, _, _, rfl, ⟨rfl, rfl, rfl⟩, by rw [ht]; exact hM⟩, hS.F ht⟩) hS.2.2 dX3_drop_70
      · skip
        have hda : (drE E j i) (i + 1) = (va_up E j (seD (E j))) (i + 1) := drE_at (by omega)
        refine lv_aload_n hx hb dX3_drop_32 rfl (lv_at hl 0 rfl) ?_
        refine lv_iload_n hx hb dX3_drop_33 rfl (lv_at hl 3 rfl) ?_
        rcases hdr : ((va_up E j (seD (E j))) (i + 1)).2.2.1 with _ | _
        · skip
          refine m_d1 (v := .ref (ad (2 * (i + 1) + 8))) (ct1 := ctC aC ad n gl (drE E j i) G P co lc hc hn hs X) (va_runV (As := [.int (nI (i + 1))]) (rest := []) F (c_livT l (i + 1) (by omega) (by omega) h200 (by rw [hda]; exact hdr)) (cwV 1 F.2.2.2.2 (go_V (fun _ h => tb_O h) mlX3_37 imX3_living seX3_living iniX3 cdX3_living) rfl rfl rfl (by decide +kernel) ⟨Nat.le_of_ble_eq_true rfl, Nat.le_of_ble_eq_true rfl⟩) (mPreV hKK hM (Nat.le_trans hlo hS.1) ctC_0 rfl) rfl rfl hl.1 rfl (lv_room (Nat.le_of_ble_eq_true rfl)) dX3_drop_34 ⟨Nat.le_of_ble_eq_true rfl, Nat.le_of_ble_eq_true rfl⟩) hS (fun H locs hM hS => ?_)
          refine lv_astore (lv' := [(4, .ref (ad (2 * (i + 1) + 8))), (0, .ref (ad 0)), (1, .int (nI j)), (2, .ref (ad (2 * j + 8))), (3, .int (nI (i + 1)))]) hx hb dX3_drop_37 hl (by decide) rfl (fun ls hl => ?_)
          refine lv_aload hx hb dX3_drop_39 (lv_at hl 0 rfl) ?_
          refine lv_ifnull hx hb dX3_drop_41 ?_
          refine lv_aload hx hb dX3_drop_44 (lv_at hl 0 rfl) ?_
          refine m_get F (ci := 0) (v := va_rf (oE ad ((drE E j i) (i + 1)).2.2.2.1)) (fun w h => tb_O (inX0 w h)) hK hM (ctC_e (by omega) (by omega) h200) rfl 4 (by decide) (tb_O lkX3_55) rfl dX3_drop_46 ?_
          refine lv_aload_n hx hb dX3_drop_49 rfl (lv_at hl 3 rfl) ?_
          have hsq : ((drE E j i) (i + 1)).2.2.2.1 = (E (i + 1)).2.2.2.1 := by rw [hda]; exact drE_sf (i := i) hdr
          have hiff := oE_inj hM h200 hj1 hj2 (o := ((drE E j i) (i + 1)).2.2.2.1) (fun k hk => hsfo (i + 1) (by omega) (by omega) k (by rw [← hsq]; exact hk))
          refine m_acmp_ne F (rx := oE ad ((drE E j i) (i + 1)).2.2.2.1) (tgt := 59) dX3_drop_50 (by decide) (fun c_50 => ?_) (fun c_50 => ?_)
          · skip
            have hno : ¬ ((va_up E j (seD (E j))) (i + 1)).2.2.1 = false ∨ ¬ (E (i + 1)).2.2.2.1 = some j := Or.inr (fun q => c_50 (hiff.mpr (by rw [hsq]; exact q)))
            refine lv_iinc (v := (nI (i + 1 + 1))) (lv' := [(3, .int (nI (i + 1 + 1))), (4, .ref (ad (2 * (i + 1) + 8))), (0, .ref (ad 0)), (1, .int (nI j)), (2, .ref (ad (2 * j + 8)))]) hx hb dX3_drop_59 hl (k := 4) rfl (nI_1 (i + 1)) (by decide) rfl (fun ls hl => ?_)
            refine lv_goto (tgt := 24) hx hb dX3_drop_62 (by decide) ?_
            exact ih_24 (i + 1) (by omega) (by omega) _ _ _ (by rw [drE_n (fun q => (show ¬ ((va_up E j (seD (E j))) (i + 1)).2.2.1 = false ∨ ¬ (E (i + 1)).2.2.2.1 = some j by first | exact hno | exact Or.inl (by rw [hdr]; decide)).elim (fun a => a q.1) (fun a => a q.2))]; exact hM) hS (lv_sub hl [2, 3, 4, 0] rfl)
          · skip
            have hq : (E (i + 1)).2.2.2.1 = some j := by rw [← hsq]; exact hiff.mp c_50
            refine lv_aload hx hb dX3_drop_53 (lv_at hl 0 rfl) ?_
            refine lv_null hx hb dX3_drop_55 ?_
            refine m_put F (ci := 0) (v := .null) (fun w h => tb_O (inX0 w h)) mc_X0 hK hM hS (ctC_e (by omega) (by omega) h200) 4 (by decide) (tb_O lkX3_55) rfl rfl rfl (Nat.le_of_ble_eq_true rfl) dX3_drop_56 (fun H locs hM hS => ?_)
            have hM : mw D vwCl lo ad (va_up (ctC aC ad n gl (drE E j i) G P co lc hc hn hs X) (2 * (i + 1) + 8) (some (.inr (0, [.ref (ad (2 * (i + 1) + 9)), .int (nI (((drE E j i) (i + 1)).1)), .int (((drE E j i) (i + 1)).2.1), .int (bI ((drE E j i) (i + 1)).2.2.1), .null, .int (nI (((drE E j i) (i + 1)).2.2.2.2))])))) H := hM
            have hM : mw D vwCl lo ad (ctC aC ad n gl (drE E j (i + 1)) G P co lc hc hn hs X) H := by
                have h9 : mw D vwCl lo ad (va_up (ctC aC ad n gl (drE E j i) G P co lc hc hn hs X) (2 * (i + 1) + 8) (some (entO ad (i + 1) (seS ((drE E j i) (i + 1)) none)))) H := hM
                rw [ctC_E (by omega) (by omega) h200, hda, drE_s hdr hq] at h9
                exact h9
            refine lv_iinc (v := (nI (i + 1 + 1))) (lv' := [(3, .int (nI (i + 1 + 1))), (4, .ref (ad (2 * (i + 1) + 8))), (0, .ref (ad 0)), (1, .int (nI j)), (2, .ref (ad (2 * j + 8)))]) hx hb dX3_drop_59 hl (k := 4) rfl (nI_1 (i + 1)) (by decide) rfl (fun ls hl => ?_)
            refine lv_goto (tgt := 24) hx hb dX3_drop_62 (by decide) ?_
            exact ih_24 (i + 1) (by omega) (by omega) _ _ _ hM hS (lv_sub hl [2, 3, 4, 0] rfl)
        · skip
          refine m_d1 (v := .null) (ct1 := ctC aC ad n gl (drE E j i) G P co lc hc hn hs X) (va_runV (As := [.int (nI (i + 1))]) (rest := []) F (c_livF l (i + 1) (by omega) (by omega) h200 (by rw [hda]; exact hdr)) (cwV 1 F.2.2.2.2 (go_V (fun _ h => tb_O h) mlX3_37 imX3_living seX3_living iniX3 cdX3_living) rfl rfl rfl (by decide +kernel) ⟨Nat.le_of_ble_eq_true rfl, Nat.le_of_ble_eq_true rfl⟩) (mPreV hKK hM (Nat.le_trans hlo hS.1) ctC_0 rfl) rfl rfl hl.1 rfl (lv_room (Nat.le_of_ble_eq_true rfl)) dX3_drop_34 ⟨Nat.le_of_ble_eq_true rfl, Nat.le_of_ble_eq_true rfl⟩) hS (fun H locs hM hS => ?_)
          refine lv_astoreN (lv' := [(4, .null), (0, .ref (ad 0)), (1, .int (nI j)), (2, .ref (ad (2 * j + 8))), (3, .int (nI (i + 1)))]) hx hb dX3_drop_37 hl (by decide) rfl (fun ls hl => ?_)
          refine lv_aloadN hx hb dX3_drop_39 (lv_at hl 0 rfl) ?_
          refine lv_ifnullN (tgt := 59) hx hb dX3_drop_41 (by decide) ?_
          refine lv_iinc (v := (nI (i + 1 + 1))) (lv' := [(3, .int (nI (i + 1 + 1))), (4, .null), (0, .ref (ad 0)), (1, .int (nI j)), (2, .ref (ad (2 * j + 8)))]) hx hb dX3_drop_59 hl (k := 4) rfl (nI_1 (i + 1)) (by decide) rfl (fun ls hl => ?_)
          refine lv_goto (tgt := 24) hx hb dX3_drop_62 (by decide) ?_
          exact ih_24 (i + 1) (by omega) (by omega) _ _ _ (by rw [drE_n (fun q => (show ¬ ((va_up E j (seD (E j))) (i + 1)).2.2.1 = false ∨ ¬ (E (i + 1)).2.2.2.1 = some j by first | exact hno | exact Or.inl (by rw [hdr]; decide)).elim (fun a => a q.1) (fun a => a q.2))]; exact hM) hS (lv_sub hl [2, 3, 4, 0] rfl)
  refine lv_aload_n hx hb dX3_drop_0 rfl (lv_at hl 0 rfl) ?_
  refine lv_iload_n hx hb dX3_drop_1 rfl (lv_at hl 1 rfl) ?_
  refine m_d1 (v := .ref (ad (2 * j + 8))) (ct1 := ctC aC ad n gl E G P co lc hc hn hs X) (va_runV (As := [.int (nI j)]) (rest := []) F (c_livT l j hj1 hj2 h200 hd) (cwV 1 F.2.2.2.2 (go_V (fun _ h => tb_O h) mlX3_37 imX3_living seX3_living iniX3 cdX3_living) rfl rfl rfl (by decide +kernel) ⟨Nat.le_of_ble_eq_true rfl, Nat.le_of_ble_eq_true rfl⟩) (mPreV hKK hM (Nat.le_trans hlo hS.1) ctC_0 rfl) rfl rfl hl.1 rfl (lv_room (Nat.le_of_ble_eq_true rfl)) dX3_drop_2 ⟨Nat.le_of_ble_eq_true rfl, Nat.le_of_ble_eq_true rfl⟩) hS (fun H locs hM hS => ?_)
  refine lv_astore_n (lv' := [(2, .ref (ad (2 * j + 8))), (0, .ref (ad 0)), (1, .int (nI j))]) hx hb dX3_drop_5 rfl hl (by decide) rfl (fun ls hl => ?_)
  refine lv_aload_n hx hb dX3_drop_6 rfl (lv_at hl 0 rfl) ?_
  refine lv_ifnonnull (tgt := 12) hx hb dX3_drop_7 (by decide) ?_
  refine lv_aload_n hx hb dX3_drop_12 rfl (lv_at hl 0 rfl) ?_
  refine lv_iconst (v := (nI 1)) hx hb dX3_drop_13 (by decide) ?_
  refine m_put F (ci := 0) (v := .int (nI 1)) (fun w h => tb_O (inX0 w h)) mc_X0 hK hM hS (ctC_e hj1 hj2 h200) 3 (by decide) (tb_O lkX3_51) rfl rfl rfl (Nat.le_of_ble_eq_true rfl) dX3_drop_14 (fun H locs hM hS => ?_)
  have hM : mw D vwCl lo ad (va_up (ctC aC ad n gl E G P co lc hc hn hs X) (2 * j + 8) (some (.inr (0, [.ref (ad (2 * j + 9)), .int (nI ((E j).1)), .int ((E j).2.1), .int (nI 1), va_rf (oE ad (E j).2.2.2.1), .int (nI ((E j).2.2.2.2))])))) H := hM
  refine lv_aload_n hx hb dX3_drop_17 rfl (lv_at hl 0 rfl) ?_
  refine lv_null hx hb dX3_drop_18 ?_
  refine m_put F (ci := 0) (v := .null) (fun w h => tb_O (inX0 w h)) mc_X0 hK hM hS (va_up_self _ _ _) 4 (by decide) (tb_O lkX3_55) rfl rfl rfl (Nat.le_of_ble_eq_true rfl) dX3_drop_19 (fun H locs hM hS => ?_)
  have hM : mw D vwCl lo ad (va_up (va_up (ctC aC ad n gl E G P co lc hc hn hs X) (2 * j + 8) (some (.inr (0, [.ref (ad (2 * j + 9)), .int (nI ((E j).1)), .int ((E j).2.1), .int (nI 1), va_rf (oE ad (E j).2.2.2.1), .int (nI ((E j).2.2.2.2))])))) (2 * j + 8) (some (.inr (0, [.ref (ad (2 * j + 9)), .int (nI ((E j).1)), .int ((E j).2.1), .int (nI 1), .null, .int (nI ((E j).2.2.2.2))])))) H := hM
  have hM : mw D vwCl lo ad (ctC aC ad n gl (drE E j 0) G P co lc hc hn hs X) H := by
      have h9 : mw D vwCl lo ad (va_up (va_up (ctC aC ad n gl E G P co lc hc hn hs X) (2 * j + 8) (some (.inr (0, [.ref (ad (2 * j + 9)), .int (nI (E j).1), .int (E j).2.1, .int (nI 1), va_rf (oE ad (E j).2.2.2.1), .int (nI (E j).2.2.2.2)])))) (2 * j + 8) (some (entO ad j (seD (E j))))) H := hM
      rw [bx_uu, ctC_E hj1 hj2 h200, ← drE_0] at h9
      exact h9
  refine lv_iconst (v := (nI 1)) hx hb dX3_drop_22 (by decide) ?_
  refine lv_istore_n (lv' := [(3, .int (nI 1)), (2, .ref (ad (2 * j + 8))), (0, .ref (ad 0)), (1, .int (nI j))]) hx hb dX3_drop_23 rfl hl (by decide) rfl (fun ls hl => ?_)
  exact loop_24 (n + 1) 0 (Nat.zero_le _) (by omega) _ _ _ hM hS (lv_sub hl [2, 3, 1, 0] rfl)

set_option maxHeartbeats 4000000 in
set_option maxRecDepth 100000 in
theorem c_costO (l : Launch) {D : va_G} {aC : Nat → ClassId} {lo : Nat} {ad : Nat → Nat} {n : Nat} {gl : Int32} {E : Nat → Ent} {G : Nat → Nat → Nat} {P : Nat} {co : Nat → Option Nat} {lc : Nat → Nat} {hc : Nat} {hn hs : Nat → Nat} {X : Nat → Option va_E} (x y z : Int32) (hk : okC x y z = false) : Met l yX3_cost (wsO yX3_cost cX3_cost 4 (some .int)) ({ frames := 1, cells := 0, slots := 0, locals := 20 } : Room) (mPc D vwCl (tyA aC) lo ad (ctC aC ad n gl E G P co lc hc hn hs X) [.ref (ad 0), .int x, .int y, .int z]) (mD1 D vwCl lo (.int (-2)) ad (ctC aC ad n gl E G P co lc hc hn hs X)) 0 0 (fun q => lo ≤ q) := by
  refine Met.ofW (cc := cX3_cost) (maxL := 4) (ret := (some .int)) (by decide) rfl ?_
  intro pr en s0 mm args below meth cc0 s₁ B hml hv
  obtain ⟨rfl, hlo, hM, hKK⟩ := hv
  have hK := hKK.1
  have hr := B.returns
  have hts := atoms_spec (ws := (wsO yX3_cost cX3_cost 4 (some .int))) B.pre
  have F : CallFix pr mm cc0 cX3_cost 4 s0 (([.ref (ad 0), .int x, .int y, .int z] : List Value).toArray) (wsO yX3_cost cX3_cost 4 (some .int)) RX3 := ⟨B.exec, B.bytes, hml, findClass_of_methodNamed B.named, hts⟩
  have hx := F.1
  have hb := F.2.1
  have hlocks := B.notSynchronized
  have hS : va_S (fun q => lo ≤ q) s0.heap s0.heap [] := va_S.rf
  have hl := lv_entry ([.ref (ad 0), .int x, .int y, .int z]) (n := 4) (Nat.le_of_ble_eq_true rfl)
  rw [lg_entry_eq]
  generalize (lg_sl ([.ref (ad 0), .int x, .int y, .int z]) ++ List.replicate (4 - (lg_sl ([.ref (ad 0), .int x, .int y, .int z])).length) Slot.unset).toArray = ls at hl ⊢
  have hl : lv_has ls 4 [(0, .ref (ad 0)), (1, .int x), (2, .int y), (3, .int z)] := hl
  refine lv_iload_n hx hb dX3_cost_0 rfl (lv_at hl 1 rfl) ?_
  refine lv_if_lt (tgt := 28) hx hb dX3_cost_1 (by decide) (fun c_1 => ?_) (fun c_1 => ?_)
  · skip
    refine lv_bipush (v := (-2)) hx hb dX3_cost_28 (by decide) ?_
    exact W.iret hx hb hr (fun t ht hW => ⟨⟨_, _, _, rfl, ⟨rfl, rfl, rfl⟩, by rw [ht]; exact hM⟩, hS.F ht⟩) hS.2.2 dX3_cost_30
  · skip
    refine lv_iload_n hx hb dX3_cost_4 rfl (lv_at hl 1 rfl) ?_
    refine lv_bipush (v := (nI 20)) hx hb dX3_cost_5 (by decide) ?_
    refine lv_icmp_ge (tgt := 28) hx hb dX3_cost_7 (by decide) (fun c_7 => ?_) (fun c_7 => ?_)
    · skip
      refine lv_bipush (v := (-2)) hx hb dX3_cost_28 (by decide) ?_
      exact W.iret hx hb hr (fun t ht hW => ⟨⟨_, _, _, rfl, ⟨rfl, rfl, rfl⟩, by rw [ht]; exact hM⟩, hS.F ht⟩) hS.2.2 dX3_cost_30
    · skip
      refine lv_iload_n hx hb dX3_cost_10 rfl (lv_at hl 2 rfl) ?_
      refine m_d1 (v := .int (bI (isSg y))) (ct1 := ctC aC ad n gl E G P co lc hc hn hs X) (va_runS (As := [.int y]) (rest := []) F (c_isSign l y) (va_cwS 1 F.2.2.2.2 (go_S (fun _ h => tb_O h) mlX3_41 stX3_isSign iniX3 cdX3_isSign) rfl rfl rfl (by decide +kernel) ⟨Nat.le_of_ble_eq_true rfl, Nat.le_of_ble_eq_true rfl⟩) (mPreS hKK hM (Nat.le_trans hlo hS.1)) rfl rfl hl.1 rfl (lv_room (Nat.le_of_ble_eq_true rfl)) dX3_cost_11 ⟨Nat.le_of_ble_eq_true rfl, Nat.le_of_ble_eq_true rfl⟩) hS (fun H locs hM hS => ?_)
      refine lv_if_eq (tgt := 28) hx hb dX3_cost_14 (by decide) (fun c_14 => ?_) (fun c_14 => ?_)
      · skip
        refine lv_bipush (v := (-2)) hx hb dX3_cost_28 (by decide) ?_
        exact W.iret hx hb hr (fun t ht hW => ⟨⟨_, _, _, rfl, ⟨rfl, rfl, rfl⟩, by rw [ht]; exact hM⟩, hS.F ht⟩) hS.2.2 dX3_cost_30
      · skip
        refine lv_iload_n hx hb dX3_cost_17 rfl (lv_at hl 3 rfl) ?_
        refine lv_if_lt (tgt := 28) hx hb dX3_cost_18 (by decide) (fun c_18 => ?_) (fun c_18 => ?_)
        · skip
          refine lv_bipush (v := (-2)) hx hb dX3_cost_28 (by decide) ?_
          exact W.iret hx hb hr (fun t ht hW => ⟨⟨_, _, _, rfl, ⟨rfl, rfl, rfl⟩, by rw [ht]; exact hM⟩, hS.F ht⟩) hS.2.2 dX3_cost_30
        · skip
          refine lv_iload_n hx hb dX3_cost_21 rfl (lv_at hl 3 rfl) ?_
          refine lv_sipush (v := (nI 1000)) hx hb dX3_cost_22 (by decide) ?_
          refine lv_icmp_le (tgt := 31) hx hb dX3_cost_25 (by decide) (fun c_25 => ?_) (fun c_25 => ?_)
          · skip
            exact absurd hk (by simp [okC, c_1, c_7, bI_ne c_14, c_18, c_25])
          · skip
            refine lv_bipush (v := (-2)) hx hb dX3_cost_28 (by decide) ?_
            exact W.iret hx hb hr (fun t ht hW => ⟨⟨_, _, _, rfl, ⟨rfl, rfl, rfl⟩, by rw [ht]; exact hM⟩, hS.F ht⟩) hS.2.2 dX3_cost_30

set_option maxHeartbeats 4000000 in
set_option maxRecDepth 100000 in
theorem c_cost (l : Launch) {D : va_G} {aC : Nat → ClassId} {lo : Nat} {ad : Nat → Nat} {n : Nat} {gl : Int32} {E : Nat → Ent} {G : Nat → Nat → Nat} {P : Nat} {co : Nat → Option Nat} {lc : Nat → Nat} {hc : Nat} {hn hs : Nat → Nat} {X : Nat → Option va_E} (pl q cs : Nat) (hp : pl < 20) (hq1 : 33 ≤ q) (hq2 : q ≤ 126) (hcs : cs ≤ 1000) (hP : P ≤ 20) : Met l yX3_cost (wsO yX3_cost cX3_cost 4 (some .int)) ({ frames := 3, cells := 0, slots := 0, locals := 65 } : Room) (mPc D vwCl (tyA aC) lo ad (ctC aC ad n gl E G P co lc hc hn hs X) [.ref (ad 0), .int (nI pl), .int (nI q), .int (nI cs)]) (mD1 D vwCl lo (.int (nI (max P (pl + 1)))) ad (ctC aC ad n gl E G (max P (pl + 1)) (va_up co (pl * 94 + q - 33) (some cs)) lc hc hn hs X)) 0 0 (fun q => lo ≤ q) := by
  refine Met.ofW (cc := cX3_cost) (maxL := 4) (ret := (some .int)) (by decide) rfl ?_
  intro pr en s0 mm args below meth cc0 s₁ B hml hv
  obtain ⟨rfl, hlo, hM, hKK⟩ := hv
  have hK := hKK.1
  have hr := B.returns
  have hts := atoms_spec (ws := (wsO yX3_cost cX3_cost 4 (some .int))) B.pre
  have F : CallFix pr mm cc0 cX3_cost 4 s0 (([.ref (ad 0), .int (nI pl), .int (nI q), .int (nI cs)] : List Value).toArray) (wsO yX3_cost cX3_cost 4 (some .int)) RX3 := ⟨B.exec, B.bytes, hml, findClass_of_methodNamed B.named, hts⟩
  have hx := F.1
  have hb := F.2.1
  have hlocks := B.notSynchronized
  have hS : va_S (fun q => lo ≤ q) s0.heap s0.heap [] := va_S.rf
  have hl := lv_entry ([.ref (ad 0), .int (nI pl), .int (nI q), .int (nI cs)]) (n := 4) (Nat.le_of_ble_eq_true rfl)
  rw [lg_entry_eq]
  generalize (lg_sl ([.ref (ad 0), .int (nI pl), .int (nI q), .int (nI cs)]) ++ List.replicate (4 - (lg_sl ([.ref (ad 0), .int (nI pl), .int (nI q), .int (nI cs)])).length) Slot.unset).toArray = ls at hl ⊢
  have hl : lv_has ls 4 [(0, .ref (ad 0)), (1, .int (nI pl)), (2, .int (nI q)), (3, .int (nI cs))] := hl
  refine lv_iload_n hx hb dX3_cost_0 rfl (lv_at hl 1 rfl) ?_
  refine lv_if_lt (tgt := 28) hx hb dX3_cost_1 (by decide) (fun c_1 => ?_) (fun c_1 => ?_)
  · skip
    exact absurd c_1 (nI_pos (by omega))
  · skip
    refine lv_iload_n hx hb dX3_cost_4 rfl (lv_at hl 1 rfl) ?_
    refine lv_bipush (v := (nI 20)) hx hb dX3_cost_5 (by decide) ?_
    refine m_icmp_ge F (a := pl) (b := 20) (by omega) (by omega) (tgt := 28) dX3_cost_7 (by decide) (fun c_7 => ?_) (fun c_7 => ?_)
    · skip
      exact absurd c_7 (by omega)
    · skip
      refine lv_iload_n hx hb dX3_cost_10 rfl (lv_at hl 2 rfl) ?_
      refine m_d1 (v := .int (bI (isSg (nI q)))) (ct1 := ctC aC ad n gl E G P co lc hc hn hs X) (va_runS (As := [.int (nI q)]) (rest := []) F (c_isSign l (nI q)) (va_cwS 1 F.2.2.2.2 (go_S (fun _ h => tb_O h) mlX3_41 stX3_isSign iniX3 cdX3_isSign) rfl rfl rfl (by decide +kernel) ⟨Nat.le_of_ble_eq_true rfl, Nat.le_of_ble_eq_true rfl⟩) (mPreS hKK hM (Nat.le_trans hlo hS.1)) rfl rfl hl.1 rfl (lv_room (Nat.le_of_ble_eq_true rfl)) dX3_cost_11 ⟨Nat.le_of_ble_eq_true rfl, Nat.le_of_ble_eq_true rfl⟩) hS (fun H locs hM hS => ?_)
      refine lv_if_eq (tgt := 28) hx hb dX3_cost_14 (by decide) (fun c_14 => ?_) (fun c_14 => ?_)
      · skip
        exact absurd (by rw [isSg_nI hq1 hq2]; decide) (fun h : ¬ bI (isSg (nI q)) = 0 => h c_14)
      · skip
        refine lv_iload_n hx hb dX3_cost_17 rfl (lv_at hl 3 rfl) ?_
        refine lv_if_lt (tgt := 28) hx hb dX3_cost_18 (by decide) (fun c_18 => ?_) (fun c_18 => ?_)
        · skip
          exact absurd c_18 (nI_pos (by omega))
        · skip
          refine lv_iload_n hx hb dX3_cost_21 rfl (lv_at hl 3 rfl) ?_
          refine lv_sipush (v := (nI 1000)) hx hb dX3_cost_22 (by decide) ?_
          refine m_icmp_le F (a := cs) (b := 1000) (by omega) (by omega) (tgt := 31) dX3_cost_25 (by decide) (fun c_25 => ?_) (fun c_25 => ?_)
          · skip
            refine lv_aload_n hx hb dX3_cost_31 rfl (lv_at hl 0 rfl) ?_
            refine m_get F (ci := 3) (v := .ref (ad 2)) (fun w h => tb_O (inX3 w h)) hK hM ctC_0 rfl 2 (by decide) (tb_O lkX3_22) rfl dX3_cost_32 ?_
            refine lv_iload_n hx hb dX3_cost_35 rfl (lv_at hl 1 rfl) ?_
            refine lv_iload_n hx hb dX3_cost_36 rfl (lv_at hl 2 rfl) ?_
            refine lv_iload_n hx hb dX3_cost_37 rfl (lv_at hl 3 rfl) ?_
            refine m_d0 (ct1 := va_up (va_up (ctC aC ad n gl E G P co lc hc hn hs X) 3 (some (iA aC 1880 (fun j => cV ((va_up co (pl * 94 + q - 33) (some cs)) j))))) 2 (some (.inr (2, [.ref (ad 3), .ref (ad 4), .int (nI (max P (pl + 1)))])))) (va_runV (As := [.int (nI pl), .int (nI q), .int (nI cs)]) (rest := []) F (c_tell l pl q cs hp hq1 hq2 hcs hP ctC_2 ctC_3) (cwV 3 F.2.2.2.2 (go_V (fun _ h => tb_O h) mlX3_63 imX2_tell seX2_tell iniX2 cdX2_tell) rfl rfl rfl (by decide +kernel) ⟨Nat.le_of_ble_eq_true rfl, Nat.le_of_ble_eq_true rfl⟩) (mPreV hKK hM (Nat.le_trans hlo hS.1) ctC_2 rfl) rfl rfl hl.1 rfl (lv_room (Nat.le_of_ble_eq_true rfl)) dX3_cost_38 ⟨Nat.le_of_ble_eq_true rfl, Nat.le_of_ble_eq_true rfl⟩) hS (fun H locs hM hS => ?_)
            have hM : mw D vwCl lo ad (ctC aC ad n gl E G (max P (pl + 1)) (va_up co (pl * 94 + q - 33) (some cs)) lc hc hn hs X) H := by rw [ctC_co, ctC_P] at hM; exact hM
            refine lv_aload_n hx hb dX3_cost_41 rfl (lv_at hl 0 rfl) ?_
            refine m_get F (ci := 3) (v := .ref (ad 2)) (fun w h => tb_O (inX3 w h)) hK hM ctC_0 rfl 2 (by decide) (tb_O lkX3_22) rfl dX3_cost_42 ?_
            refine m_get F (ci := 2) (v := .int (nI (max P (pl + 1)))) (fun w h => tb_O (inX2 w h)) hK hM ctC_2 rfl 2 (by decide) (tb_O lkX3_67) rfl dX3_cost_45 ?_
            exact W.iret hx hb hr (fun t ht hW => ⟨⟨_, _, _, rfl, ⟨rfl, rfl, rfl⟩, by rw [ht]; exact hM⟩, hS.F ht⟩) hS.2.2 dX3_cost_48
          · skip
            exact absurd c_25 (by omega)

set_option maxHeartbeats 4000000 in
set_option maxRecDepth 100000 in
theorem c_wordU (l : Launch) {D : va_G} {aC : Nat → ClassId} {lo : Nat} {ad : Nat → Nat} {n : Nat} {gl : Int32} {E : Nat → Ent} {G : Nat → Nat → Nat} {P : Nat} {co : Nat → Option Nat} {lc : Nat → Nat} {hc : Nat} {hn hs : Nat → Nat} {X : Nat → Option va_E} (x : Int32) (hh : hc ≤ 200) (hk : hasB hc x = false) : Met l yX3_word (wsO yX3_word cX3_word 2 (some .int)) ({ frames := 1, cells := 0, slots := 0, locals := 21 } : Room) (mPc D vwCl (tyA aC) lo ad (ctC aC ad n gl E G P co lc hc hn hs X) [.ref (ad 0), .int x]) (mD1 D vwCl lo (.int (-1)) ad (ctC aC ad n gl E G P co lc hc hn hs X)) 0 0 (fun q => lo ≤ q) := by
  refine Met.ofW (cc := cX3_word) (maxL := 2) (ret := (some .int)) (by decide) rfl ?_
  intro pr en s0 mm args below meth cc0 s₁ B hml hv
  obtain ⟨rfl, hlo, hM, hKK⟩ := hv
  have hK := hKK.1
  have hr := B.returns
  have hts := atoms_spec (ws := (wsO yX3_word cX3_word 2 (some .int))) B.pre
  have F : CallFix pr mm cc0 cX3_word 2 s0 (([.ref (ad 0), .int x] : List Value).toArray) (wsO yX3_word cX3_word 2 (some .int)) RX3 := ⟨B.exec, B.bytes, hml, findClass_of_methodNamed B.named, hts⟩
  have hx := F.1
  have hb := F.2.1
  have hlocks := B.notSynchronized
  have hS : va_S (fun q => lo ≤ q) s0.heap s0.heap [] := va_S.rf
  have hl := lv_entry ([.ref (ad 0), .int x]) (n := 2) (Nat.le_of_ble_eq_true rfl)
  rw [lg_entry_eq]
  generalize (lg_sl ([.ref (ad 0), .int x]) ++ List.replicate (2 - (lg_sl ([.ref (ad 0), .int x])).length) Slot.unset).toArray = ls at hl ⊢
  have hl : lv_has ls 2 [(0, .ref (ad 0)), (1, .int x)] := hl
  refine lv_aload_n hx hb dX3_word_0 rfl (lv_at hl 0 rfl) ?_
  refine m_get F (ci := 3) (v := .ref (ad 5)) (fun w h => tb_O (inX3 w h)) hK hM ctC_0 rfl 3 (by decide) (tb_O lkX3_29) rfl dX3_word_1 ?_
  refine lv_iload_n hx hb dX3_word_4 rfl (lv_at hl 1 rfl) ?_
  refine m_d1 (v := .int (bI (hasB hc x))) (ct1 := ctC aC ad n gl E G P co lc hc hn hs X) (va_runV (As := [.int x]) (rest := []) F (c_has l x hh ctC_5 ctC_6) (cwV 1 F.2.2.2.2 (go_V (fun _ h => tb_O h) mlX3_98 imX1_has seX1_has iniX1 cdX1_has) rfl rfl rfl (by decide +kernel) ⟨Nat.le_of_ble_eq_true rfl, Nat.le_of_ble_eq_true rfl⟩) (mPreV hKK hM (Nat.le_trans hlo hS.1) ctC_5 rfl) rfl rfl hl.1 rfl (lv_room (Nat.le_of_ble_eq_true rfl)) dX3_word_5 ⟨Nat.le_of_ble_eq_true rfl, Nat.le_of_ble_eq_true rfl⟩) hS (fun H locs hM hS => ?_)
  refine lv_if_eq (tgt := 23) hx hb dX3_word_8 (by decide) (fun c_8 => ?_) (fun c_8 => ?_)
  · skip
    refine lv_iconst (v := (-1)) hx hb dX3_word_23 (by decide) ?_
    exact W.iret hx hb hr (fun t ht hW => ⟨⟨_, _, _, rfl, ⟨rfl, rfl, rfl⟩, by rw [ht]; exact hM⟩, hS.F ht⟩) hS.2.2 dX3_word_24
  · skip
    exact absurd (by rw [hk]; rfl) c_8

set_option maxHeartbeats 4000000 in
set_option maxRecDepth 100000 in
theorem c_word (l : Launch) {D : va_G} {aC : Nat → ClassId} {lo : Nat} {ad : Nat → Nat} {n : Nat} {gl : Int32} {E : Nat → Ent} {G : Nat → Nat → Nat} {P : Nat} {co : Nat → Option Nat} {lc : Nat → Nat} {hc : Nat} {hn hs : Nat → Nat} {X : Nat → Option va_E} (j : Nat) (hh : hc ≤ 200) (hj : j < hc) : Met l yX3_word (wsO yX3_word cX3_word 2 (some .int)) ({ frames := 1, cells := 0, slots := 0, locals := 21 } : Room) (mPc D vwCl (tyA aC) lo ad (ctC aC ad n gl E G P co lc hc hn hs X) [.ref (ad 0), .int (nI j)]) (mD1 D vwCl lo (.int (nI (hn j))) ad (ctC aC ad n gl E G P co lc hc hn hs X)) 0 0 (fun q => lo ≤ q) := by
  refine Met.ofW (cc := cX3_word) (maxL := 2) (ret := (some .int)) (by decide) rfl ?_
  intro pr en s0 mm args below meth cc0 s₁ B hml hv
  obtain ⟨rfl, hlo, hM, hKK⟩ := hv
  have hK := hKK.1
  have hr := B.returns
  have hts := atoms_spec (ws := (wsO yX3_word cX3_word 2 (some .int))) B.pre
  have F : CallFix pr mm cc0 cX3_word 2 s0 (([.ref (ad 0), .int (nI j)] : List Value).toArray) (wsO yX3_word cX3_word 2 (some .int)) RX3 := ⟨B.exec, B.bytes, hml, findClass_of_methodNamed B.named, hts⟩
  have hx := F.1
  have hb := F.2.1
  have hlocks := B.notSynchronized
  have hS : va_S (fun q => lo ≤ q) s0.heap s0.heap [] := va_S.rf
  have hl := lv_entry ([.ref (ad 0), .int (nI j)]) (n := 2) (Nat.le_of_ble_eq_true rfl)
  rw [lg_entry_eq]
  generalize (lg_sl ([.ref (ad 0), .int (nI j)]) ++ List.replicate (2 - (lg_sl ([.ref (ad 0), .int (nI j)])).length) Slot.unset).toArray = ls at hl ⊢
  have hl : lv_has ls 2 [(0, .ref (ad 0)), (1, .int (nI j))] := hl
  refine lv_aload_n hx hb dX3_word_0 rfl (lv_at hl 0 rfl) ?_
  refine m_get F (ci := 3) (v := .ref (ad 5)) (fun w h => tb_O (inX3 w h)) hK hM ctC_0 rfl 3 (by decide) (tb_O lkX3_29) rfl dX3_word_1 ?_
  refine lv_iload_n hx hb dX3_word_4 rfl (lv_at hl 1 rfl) ?_
  refine m_d1 (v := .int (bI (hasB hc (nI j)))) (ct1 := ctC aC ad n gl E G P co lc hc hn hs X) (va_runV (As := [.int (nI j)]) (rest := []) F (c_has l (nI j) hh ctC_5 ctC_6) (cwV 1 F.2.2.2.2 (go_V (fun _ h => tb_O h) mlX3_98 imX1_has seX1_has iniX1 cdX1_has) rfl rfl rfl (by decide +kernel) ⟨Nat.le_of_ble_eq_true rfl, Nat.le_of_ble_eq_true rfl⟩) (mPreV hKK hM (Nat.le_trans hlo hS.1) ctC_5 rfl) rfl rfl hl.1 rfl (lv_room (Nat.le_of_ble_eq_true rfl)) dX3_word_5 ⟨Nat.le_of_ble_eq_true rfl, Nat.le_of_ble_eq_true rfl⟩) hS (fun H locs hM hS => ?_)
  refine lv_if_eq (tgt := 23) hx hb dX3_word_8 (by decide) (fun c_8 => ?_) (fun c_8 => ?_)
  · skip
    exact absurd (by rw [hasB_nI hj (by omega)]; decide) (fun h : ¬ bI (hasB hc (nI j)) = 0 => h c_8)
  · skip
    refine lv_aload_n hx hb dX3_word_11 rfl (lv_at hl 0 rfl) ?_
    refine m_get F (ci := 3) (v := .ref (ad 5)) (fun w h => tb_O (inX3 w h)) hK hM ctC_0 rfl 3 (by decide) (tb_O lkX3_29) rfl dX3_word_12 ?_
    refine m_get F (ci := 1) (v := .ref (ad 6)) (fun w h => tb_O (inX1 w h)) hK hM ctC_5 rfl 0 (by decide) (tb_O lkX3_101) rfl dX3_word_15 ?_
    refine lv_iload_n hx hb dX3_word_18 rfl (lv_at hl 1 rfl) ?_
    refine m_iald F hK hM 0 rfl (j := j) ctC_6 (by omega) (by decide) dX3_word_19 ?_
    refine m_top (y := (nI (hn j))) rfl ?_
    refine lv_goto (tgt := 24) hx hb dX3_word_20 (by decide) ?_
    exact W.iret hx hb hr (fun t ht hW => ⟨⟨_, _, _, rfl, ⟨rfl, rfl, rfl⟩, by rw [ht]; exact hM⟩, hS.F ht⟩) hS.2.2 dX3_word_24

set_option maxHeartbeats 4000000 in
set_option maxRecDepth 100000 in
theorem c_sumU (l : Launch) {D : va_G} {aC : Nat → ClassId} {lo : Nat} {ad : Nat → Nat} {n : Nat} {gl : Int32} {E : Nat → Ent} {G : Nat → Nat → Nat} {P : Nat} {co : Nat → Option Nat} {lc : Nat → Nat} {hc : Nat} {hn hs : Nat → Nat} {X : Nat → Option va_E} (x : Int32) (hh : hc ≤ 200) (hk : hasB hc x = false) : Met l yX3_sum (wsO yX3_sum cX3_sum 2 (some .long)) ({ frames := 1, cells := 0, slots := 0, locals := 21 } : Room) (mPc D vwCl (tyA aC) lo ad (ctC aC ad n gl E G P co lc hc hn hs X) [.ref (ad 0), .int x]) (mD1 D vwCl lo (.long (-1)) ad (ctC aC ad n gl E G P co lc hc hn hs X)) 0 0 (fun q => lo ≤ q) := by
  refine Met.ofW (cc := cX3_sum) (maxL := 2) (ret := (some .long)) (by decide) rfl ?_
  intro pr en s0 mm args below meth cc0 s₁ B hml hv
  obtain ⟨rfl, hlo, hM, hKK⟩ := hv
  have hK := hKK.1
  have hr := B.returns
  have hts := atoms_spec (ws := (wsO yX3_sum cX3_sum 2 (some .long))) B.pre
  have F : CallFix pr mm cc0 cX3_sum 2 s0 (([.ref (ad 0), .int x] : List Value).toArray) (wsO yX3_sum cX3_sum 2 (some .long)) RX3 := ⟨B.exec, B.bytes, hml, findClass_of_methodNamed B.named, hts⟩
  have hx := F.1
  have hb := F.2.1
  have hlocks := B.notSynchronized
  have hS : va_S (fun q => lo ≤ q) s0.heap s0.heap [] := va_S.rf
  have hl := lv_entry ([.ref (ad 0), .int x]) (n := 2) (Nat.le_of_ble_eq_true rfl)
  rw [lg_entry_eq]
  generalize (lg_sl ([.ref (ad 0), .int x]) ++ List.replicate (2 - (lg_sl ([.ref (ad 0), .int x])).length) Slot.unset).toArray = ls at hl ⊢
  have hl : lv_has ls 2 [(0, .ref (ad 0)), (1, .int x)] := hl
  refine lv_aload_n hx hb dX3_sum_0 rfl (lv_at hl 0 rfl) ?_
  refine m_get F (ci := 3) (v := .ref (ad 5)) (fun w h => tb_O (inX3 w h)) hK hM ctC_0 rfl 3 (by decide) (tb_O lkX3_29) rfl dX3_sum_1 ?_
  refine lv_iload_n hx hb dX3_sum_4 rfl (lv_at hl 1 rfl) ?_
  refine m_d1 (v := .int (bI (hasB hc x))) (ct1 := ctC aC ad n gl E G P co lc hc hn hs X) (va_runV (As := [.int x]) (rest := []) F (c_has l x hh ctC_5 ctC_6) (cwV 1 F.2.2.2.2 (go_V (fun _ h => tb_O h) mlX3_98 imX1_has seX1_has iniX1 cdX1_has) rfl rfl rfl (by decide +kernel) ⟨Nat.le_of_ble_eq_true rfl, Nat.le_of_ble_eq_true rfl⟩) (mPreV hKK hM (Nat.le_trans hlo hS.1) ctC_5 rfl) rfl rfl hl.1 rfl (lv_room (Nat.le_of_ble_eq_true rfl)) dX3_sum_5 ⟨Nat.le_of_ble_eq_true rfl, Nat.le_of_ble_eq_true rfl⟩) hS (fun H locs hM hS => ?_)
  refine lv_if_eq (tgt := 24) hx hb dX3_sum_8 (by decide) (fun c_8 => ?_) (fun c_8 => ?_)
  · skip
    refine lv_ldc2 (v := (-1)) hx hb F.2.2.2.1 (F.2.2.2.2 _ (by decide +kernel)) dX3_sum_24 ?_
    exact W.lret hx hb hr (fun t ht hW => ⟨⟨_, _, _, rfl, ⟨rfl, rfl, rfl⟩, by rw [ht]; exact hM⟩, hS.F ht⟩) hS.2.2 dX3_sum_27
  · skip
    exact absurd (by rw [hk]; rfl) c_8

set_option maxHeartbeats 4000000 in
set_option maxRecDepth 100000 in
theorem c_sum (l : Launch) {D : va_G} {aC : Nat → ClassId} {lo : Nat} {ad : Nat → Nat} {n : Nat} {gl : Int32} {E : Nat → Ent} {G : Nat → Nat → Nat} {P : Nat} {co : Nat → Option Nat} {lc : Nat → Nat} {hc : Nat} {hn hs : Nat → Nat} {X : Nat → Option va_E} (j : Nat) (hh : hc ≤ 200) (hj : j < hc) : Met l yX3_sum (wsO yX3_sum cX3_sum 2 (some .long)) ({ frames := 1, cells := 0, slots := 0, locals := 21 } : Room) (mPc D vwCl (tyA aC) lo ad (ctC aC ad n gl E G P co lc hc hn hs X) [.ref (ad 0), .int (nI j)]) (mD1 D vwCl lo (.long ((nI (hs j)).toInt64)) ad (ctC aC ad n gl E G P co lc hc hn hs X)) 0 0 (fun q => lo ≤ q) := by
  refine Met.ofW (cc := cX3_sum) (maxL := 2) (ret := (some .long)) (by decide) rfl ?_
  intro pr en s0 mm args below meth cc0 s₁ B hml hv
  obtain ⟨rfl, hlo, hM, hKK⟩ := hv
  have hK := hKK.1
  have hr := B.returns
  have hts := atoms_spec (ws := (wsO yX3_sum cX3_sum 2 (some .long))) B.pre
  have F : CallFix pr mm cc0 cX3_sum 2 s0 (([.ref (ad 0), .int (nI j)] : List Value).toArray) (wsO yX3_sum cX3_sum 2 (some .long)) RX3 := ⟨B.exec, B.bytes, hml, findClass_of_methodNamed B.named, hts⟩
  have hx := F.1
  have hb := F.2.1
  have hlocks := B.notSynchronized
  have hS : va_S (fun q => lo ≤ q) s0.heap s0.heap [] := va_S.rf
  have hl := lv_entry ([.ref (ad 0), .int (nI j)]) (n := 2) (Nat.le_of_ble_eq_true rfl)
  rw [lg_entry_eq]
  generalize (lg_sl ([.ref (ad 0), .int (nI j)]) ++ List.replicate (2 - (lg_sl ([.ref (ad 0), .int (nI j)])).length) Slot.unset).toArray = ls at hl ⊢
  have hl : lv_has ls 2 [(0, .ref (ad 0)), (1, .int (nI j))] := hl
  refine lv_aload_n hx hb dX3_sum_0 rfl (lv_at hl 0 rfl) ?_
  refine m_get F (ci := 3) (v := .ref (ad 5)) (fun w h => tb_O (inX3 w h)) hK hM ctC_0 rfl 3 (by decide) (tb_O lkX3_29) rfl dX3_sum_1 ?_
  refine lv_iload_n hx hb dX3_sum_4 rfl (lv_at hl 1 rfl) ?_
  refine m_d1 (v := .int (bI (hasB hc (nI j)))) (ct1 := ctC aC ad n gl E G P co lc hc hn hs X) (va_runV (As := [.int (nI j)]) (rest := []) F (c_has l (nI j) hh ctC_5 ctC_6) (cwV 1 F.2.2.2.2 (go_V (fun _ h => tb_O h) mlX3_98 imX1_has seX1_has iniX1 cdX1_has) rfl rfl rfl (by decide +kernel) ⟨Nat.le_of_ble_eq_true rfl, Nat.le_of_ble_eq_true rfl⟩) (mPreV hKK hM (Nat.le_trans hlo hS.1) ctC_5 rfl) rfl rfl hl.1 rfl (lv_room (Nat.le_of_ble_eq_true rfl)) dX3_sum_5 ⟨Nat.le_of_ble_eq_true rfl, Nat.le_of_ble_eq_true rfl⟩) hS (fun H locs hM hS => ?_)
  refine lv_if_eq (tgt := 24) hx hb dX3_sum_8 (by decide) (fun c_8 => ?_) (fun c_8 => ?_)
  · skip
    exact absurd (by rw [hasB_nI hj (by omega)]; decide) (fun h : ¬ bI (hasB hc (nI j)) = 0 => h c_8)
  · skip
    refine lv_aload_n hx hb dX3_sum_11 rfl (lv_at hl 0 rfl) ?_
    refine m_get F (ci := 3) (v := .ref (ad 5)) (fun w h => tb_O (inX3 w h)) hK hM ctC_0 rfl 3 (by decide) (tb_O lkX3_29) rfl dX3_sum_12 ?_
    refine m_get F (ci := 1) (v := .ref (ad 7)) (fun w h => tb_O (inX1 w h)) hK hM ctC_5 rfl 1 (by decide) (tb_O lkX3_105) rfl dX3_sum_15 ?_
    refine lv_iload_n hx hb dX3_sum_18 rfl (lv_at hl 1 rfl) ?_
    refine m_iald F hK hM 0 rfl (j := j) ctC_7 (by omega) (by decide) dX3_sum_19 ?_
    refine m_top (y := (nI (hs j))) rfl ?_
    refine lv_i2l (v := ((nI (hs j)).toInt64)) hx hb dX3_sum_20 rfl ?_
    refine lv_goto (tgt := 27) hx hb dX3_sum_21 (by decide) ?_
    exact W.lret hx hb hr (fun t ht hW => ⟨⟨_, _, _, rfl, ⟨rfl, rfl, rfl⟩, by rw [ht]; exact hM⟩, hS.F ht⟩) hS.2.2 dX3_sum_27

set_option maxHeartbeats 4000000 in
set_option maxRecDepth 100000 in
theorem c_withinLO (l : Launch) {D : va_G} {aC : Nat → ClassId} {lo : Nat} {ad : Nat → Nat} {n : Nat} {gl : Int32} {E : Nat → Ent} {G : Nat → Nat → Nat} {P : Nat} {co : Nat → Option Nat} {lc : Nat → Nat} {hc : Nat} {hn hs : Nat → Nat} {X : Nat → Option va_E} (x : Int32) (hx1 : ¬ x = -1) (hx2 : isGr x = false) (h200 : n ≤ 200) : Met l yX3_within (wsO yX3_within cX3_within 4 (some .int)) ({ frames := 2, cells := 0, slots := 0, locals := 41 } : Room) (mPc D vwCl (tyA aC) lo ad (ctC aC ad n gl E G P co lc hc hn hs X) [.ref (ad 0), .int x, .int (nI 0)]) (mD1 D vwCl lo (.int (-2)) ad (ctC aC ad n gl E G P co lc hc hn hs X)) 0 0 (fun q => lo ≤ q) := by
  refine Met.ofW (cc := cX3_within) (maxL := 4) (ret := (some .int)) (by decide) rfl ?_
  intro pr en s0 mm args below meth cc0 s₁ B hml hv
  obtain ⟨rfl, hlo, hM, hKK⟩ := hv
  have hK := hKK.1
  have hr := B.returns
  have hts := atoms_spec (ws := (wsO yX3_within cX3_within 4 (some .int))) B.pre
  have F : CallFix pr mm cc0 cX3_within 4 s0 (([.ref (ad 0), .int x, .int (nI 0)] : List Value).toArray) (wsO yX3_within cX3_within 4 (some .int)) RX3 := ⟨B.exec, B.bytes, hml, findClass_of_methodNamed B.named, hts⟩
  have hx := F.1
  have hb := F.2.1
  have hlocks := B.notSynchronized
  have hS : va_S (fun q => lo ≤ q) s0.heap s0.heap [] := va_S.rf
  have hl := lv_entry ([.ref (ad 0), .int x, .int (nI 0)]) (n := 4) (Nat.le_of_ble_eq_true rfl)
  rw [lg_entry_eq]
  generalize (lg_sl ([.ref (ad 0), .int x, .int (nI 0)]) ++ List.replicate (4 - (lg_sl ([.ref (ad 0), .int x, .int (nI 0)])).length) Slot.unset).toArray = ls at hl ⊢
  have hl : lv_has ls 4 [(0, .ref (ad 0)), (1, .int x), (2, .int (nI 0))] := hl
  refine lv_iload_n hx hb dX3_within_0 rfl (lv_at hl 2 rfl) ?_
  refine lv_if_ne (tgt := 10) hx hb dX3_within_1 (by decide) (fun c_1 => ?_) (fun c_1 => ?_)
  · skip
    exact absurd nI_0 c_1
  · skip
    refine lv_aload_n hx hb dX3_within_4 rfl (lv_at hl 0 rfl) ?_
    refine lv_iload_n hx hb dX3_within_5 rfl (lv_at hl 1 rfl) ?_
    refine m_d1 (v := .int (-2)) (ct1 := ctC aC ad n gl E G P co lc hc hn hs X) (va_runV (As := [.int x]) (rest := []) F (c_lookAtN l x hx1 hx2 h200) (cwV 1 F.2.2.2.2 (go_V (fun _ h => tb_O h) mlX3_110 imX3_lookAt seX3_lookAt iniX3 cdX3_lookAt) rfl rfl rfl (by decide +kernel) ⟨Nat.le_of_ble_eq_true rfl, Nat.le_of_ble_eq_true rfl⟩) (mPreV hKK hM (Nat.le_trans hlo hS.1) ctC_0 rfl) rfl rfl hl.1 rfl (lv_room (Nat.le_of_ble_eq_true rfl)) dX3_within_6 ⟨Nat.le_of_ble_eq_true rfl, Nat.le_of_ble_eq_true rfl⟩) hS (fun H locs hM hS => ?_)
    exact W.iret hx hb hr (fun t ht hW => ⟨⟨_, _, _, rfl, ⟨rfl, rfl, rfl⟩, by rw [ht]; exact hM⟩, hS.F ht⟩) hS.2.2 dX3_within_9

set_option maxHeartbeats 4000000 in
set_option maxRecDepth 100000 in
theorem c_withinL (l : Launch) {D : va_G} {aC : Nat → ClassId} {lo : Nat} {ad : Nat → Nat} {n : Nat} {gl : Int32} {E : Nat → Ent} {G : Nat → Nat → Nat} {P : Nat} {co : Nat → Option Nat} {lc : Nat → Nat} {hc : Nat} {hn hs : Nat → Nat} {X : Nat → Option va_E} (x : Int32) (hxg : x = -1 ∨ isGr x = true) (h200 : n ≤ 200) : Met l yX3_within (wsO yX3_within cX3_within 4 (some .int)) ({ frames := 3, cells := 0, slots := 0, locals := 67 } : Room) (mPc D vwCl (tyA aC) lo ad (ctC aC ad n gl E G P co lc hc hn hs X) [.ref (ad 0), .int x, .int (nI 0)]) (mD1 D vwCl lo (.int (nI (cnt (inW E x) n))) ad (ctC aC ad n x E G P co lc hc hn hs X)) 0 0 (fun q => lo ≤ q) := by
  refine Met.ofW (cc := cX3_within) (maxL := 4) (ret := (some .int)) (by decide) rfl ?_
  intro pr en s0 mm args below meth cc0 s₁ B hml hv
  obtain ⟨rfl, hlo, hM, hKK⟩ := hv
  have hK := hKK.1
  have hr := B.returns
  have hts := atoms_spec (ws := (wsO yX3_within cX3_within 4 (some .int))) B.pre
  have F : CallFix pr mm cc0 cX3_within 4 s0 (([.ref (ad 0), .int x, .int (nI 0)] : List Value).toArray) (wsO yX3_within cX3_within 4 (some .int)) RX3 := ⟨B.exec, B.bytes, hml, findClass_of_methodNamed B.named, hts⟩
  have hx := F.1
  have hb := F.2.1
  have hlocks := B.notSynchronized
  have hS : va_S (fun q => lo ≤ q) s0.heap s0.heap [] := va_S.rf
  have hl := lv_entry ([.ref (ad 0), .int x, .int (nI 0)]) (n := 4) (Nat.le_of_ble_eq_true rfl)
  rw [lg_entry_eq]
  generalize (lg_sl ([.ref (ad 0), .int x, .int (nI 0)]) ++ List.replicate (4 - (lg_sl ([.ref (ad 0), .int x, .int (nI 0)])).length) Slot.unset).toArray = ls at hl ⊢
  have hl : lv_has ls 4 [(0, .ref (ad 0)), (1, .int x), (2, .int (nI 0))] := hl
  refine lv_iload_n hx hb dX3_within_0 rfl (lv_at hl 2 rfl) ?_
  refine lv_if_ne (tgt := 10) hx hb dX3_within_1 (by decide) (fun c_1 => ?_) (fun c_1 => ?_)
  · skip
    exact absurd nI_0 c_1
  · skip
    refine lv_aload_n hx hb dX3_within_4 rfl (lv_at hl 0 rfl) ?_
    refine lv_iload_n hx hb dX3_within_5 rfl (lv_at hl 1 rfl) ?_
    refine m_d1 (v := .int (nI (cnt (inW E x) n))) (ct1 := ctC aC ad n x E G P co lc hc hn hs X) (va_runV (As := [.int x]) (rest := []) F (c_lookAt l x hxg h200) (cwV 1 F.2.2.2.2 (go_V (fun _ h => tb_O h) mlX3_110 imX3_lookAt seX3_lookAt iniX3 cdX3_lookAt) rfl rfl rfl (by decide +kernel) ⟨Nat.le_of_ble_eq_true rfl, Nat.le_of_ble_eq_true rfl⟩) (mPreV hKK hM (Nat.le_trans hlo hS.1) ctC_0 rfl) rfl rfl hl.1 rfl (lv_room (Nat.le_of_ble_eq_true rfl)) dX3_within_6 ⟨Nat.le_of_ble_eq_true rfl, Nat.le_of_ble_eq_true rfl⟩) hS (fun H locs hM hS => ?_)
    exact W.iret hx hb hr (fun t ht hW => ⟨⟨_, _, _, rfl, ⟨rfl, rfl, rfl⟩, by rw [ht]; exact hM⟩, hS.F ht⟩) hS.2.2 dX3_within_9

set_option maxHeartbeats 4000000 in
set_option maxRecDepth 100000 in
theorem c_withinU (l : Launch) {D : va_G} {aC : Nat → ClassId} {lo : Nat} {ad : Nat → Nat} {n : Nat} {gl : Int32} {E : Nat → Ent} {G : Nat → Nat → Nat} {P : Nat} {co : Nat → Option Nat} {lc : Nat → Nat} {hc : Nat} {hn hs : Nat → Nat} {X : Nat → Option va_E} (x y : Int32) (hy0 : ¬ y = 0) (hn0 : cLiv n E y = none) (h200 : n ≤ 200) : Met l yX3_within (wsO yX3_within cX3_within 4 (some .int)) ({ frames := 1, cells := 0, slots := 0, locals := 22 } : Room) (mPc D vwCl (tyA aC) lo ad (ctC aC ad n gl E G P co lc hc hn hs X) [.ref (ad 0), .int x, .int y]) (mD1 D vwCl lo (.int (-1)) ad (ctC aC ad n gl E G P co lc hc hn hs X)) 0 0 (fun q => lo ≤ q) := by
  refine Met.ofW (cc := cX3_within) (maxL := 4) (ret := (some .int)) (by decide) rfl ?_
  intro pr en s0 mm args below meth cc0 s₁ B hml hv
  obtain ⟨rfl, hlo, hM, hKK⟩ := hv
  have hK := hKK.1
  have hr := B.returns
  have hts := atoms_spec (ws := (wsO yX3_within cX3_within 4 (some .int))) B.pre
  have F : CallFix pr mm cc0 cX3_within 4 s0 (([.ref (ad 0), .int x, .int y] : List Value).toArray) (wsO yX3_within cX3_within 4 (some .int)) RX3 := ⟨B.exec, B.bytes, hml, findClass_of_methodNamed B.named, hts⟩
  have hx := F.1
  have hb := F.2.1
  have hlocks := B.notSynchronized
  have hS : va_S (fun q => lo ≤ q) s0.heap s0.heap [] := va_S.rf
  have hl := lv_entry ([.ref (ad 0), .int x, .int y]) (n := 4) (Nat.le_of_ble_eq_true rfl)
  rw [lg_entry_eq]
  generalize (lg_sl ([.ref (ad 0), .int x, .int y]) ++ List.replicate (4 - (lg_sl ([.ref (ad 0), .int x, .int y])).length) Slot.unset).toArray = ls at hl ⊢
  have hl : lv_has ls 4 [(0, .ref (ad 0)), (1, .int x), (2, .int y)] := hl
  refine lv_iload_n hx hb dX3_within_0 rfl (lv_at hl 2 rfl) ?_
  refine lv_if_ne (tgt := 10) hx hb dX3_within_1 (by decide) (fun c_1 => ?_) (fun c_1 => ?_)
  · skip
    refine lv_aload_n hx hb dX3_within_10 rfl (lv_at hl 0 rfl) ?_
    refine lv_iload_n hx hb dX3_within_11 rfl (lv_at hl 2 rfl) ?_
    refine m_d1 (v := va_rf (oE ad (cLiv n E y))) (ct1 := ctC aC ad n gl E G P co lc hc hn hs X) (va_runV (As := [.int y]) (rest := []) F (c_living l y h200) (cwV 1 F.2.2.2.2 (go_V (fun _ h => tb_O h) mlX3_37 imX3_living seX3_living iniX3 cdX3_living) rfl rfl rfl (by decide +kernel) ⟨Nat.le_of_ble_eq_true rfl, Nat.le_of_ble_eq_true rfl⟩) (mPreV hKK hM (Nat.le_trans hlo hS.1) ctC_0 rfl) rfl rfl hl.1 rfl (lv_room (Nat.le_of_ble_eq_true rfl)) dX3_within_12 ⟨Nat.le_of_ble_eq_true rfl, Nat.le_of_ble_eq_true rfl⟩) hS (fun H locs hM hS => ?_)
    rw [hn0]
    · skip
      refine m_val (v' := .null) rfl ?_
      refine lv_astore_nN (lv' := [(3, .null), (0, .ref (ad 0)), (1, .int x), (2, .int y)]) hx hb dX3_within_15 rfl hl (by decide) rfl (fun ls hl => ?_)
      refine lv_aload_nN hx hb dX3_within_16 rfl (lv_at hl 0 rfl) ?_
      refine lv_ifnonnullN hx hb dX3_within_17 ?_
      refine lv_iconst (v := (-1)) hx hb dX3_within_20 (by decide) ?_
      exact W.iret hx hb hr (fun t ht hW => ⟨⟨_, _, _, rfl, ⟨rfl, rfl, rfl⟩, by rw [ht]; exact hM⟩, hS.F ht⟩) hS.2.2 dX3_within_21
  · skip
    exact absurd c_1 hy0

set_option maxHeartbeats 4000000 in
set_option maxRecDepth 100000 in
theorem c_withinO (l : Launch) {D : va_G} {aC : Nat → ClassId} {lo : Nat} {ad : Nat → Nat} {n : Nat} {gl : Int32} {E : Nat → Ent} {G : Nat → Nat → Nat} {P : Nat} {co : Nat → Option Nat} {lc : Nat → Nat} {hc : Nat} {hn hs : Nat → Nat} {X : Nat → Option va_E} (x : Int32) (j : Nat) (hj1 : 1 ≤ j) (hj2 : j ≤ n) (h200 : n ≤ 200) (hd : (E j).2.2.1 = false) (hg : isGr x = false) : Met l yX3_within (wsO yX3_within cX3_within 4 (some .int)) ({ frames := 1, cells := 0, slots := 0, locals := 22 } : Room) (mPc D vwCl (tyA aC) lo ad (ctC aC ad n gl E G P co lc hc hn hs X) [.ref (ad 0), .int x, .int (nI j)]) (mD1 D vwCl lo (.int (-2)) ad (ctC aC ad n gl E G P co lc hc hn hs X)) 0 0 (fun q => lo ≤ q) := by
  refine Met.ofW (cc := cX3_within) (maxL := 4) (ret := (some .int)) (by decide) rfl ?_
  intro pr en s0 mm args below meth cc0 s₁ B hml hv
  obtain ⟨rfl, hlo, hM, hKK⟩ := hv
  have hK := hKK.1
  have hr := B.returns
  have hts := atoms_spec (ws := (wsO yX3_within cX3_within 4 (some .int))) B.pre
  have F : CallFix pr mm cc0 cX3_within 4 s0 (([.ref (ad 0), .int x, .int (nI j)] : List Value).toArray) (wsO yX3_within cX3_within 4 (some .int)) RX3 := ⟨B.exec, B.bytes, hml, findClass_of_methodNamed B.named, hts⟩
  have hx := F.1
  have hb := F.2.1
  have hlocks := B.notSynchronized
  have hS : va_S (fun q => lo ≤ q) s0.heap s0.heap [] := va_S.rf
  have hl := lv_entry ([.ref (ad 0), .int x, .int (nI j)]) (n := 4) (Nat.le_of_ble_eq_true rfl)
  rw [lg_entry_eq]
  generalize (lg_sl ([.ref (ad 0), .int x, .int (nI j)]) ++ List.replicate (4 - (lg_sl ([.ref (ad 0), .int x, .int (nI j)])).length) Slot.unset).toArray = ls at hl ⊢
  have hl : lv_has ls 4 [(0, .ref (ad 0)), (1, .int x), (2, .int (nI j))] := hl
  refine lv_iload_n hx hb dX3_within_0 rfl (lv_at hl 2 rfl) ?_
  refine lv_if_ne (tgt := 10) hx hb dX3_within_1 (by decide) (fun c_1 => ?_) (fun c_1 => ?_)
  · skip
    refine lv_aload_n hx hb dX3_within_10 rfl (lv_at hl 0 rfl) ?_
    refine lv_iload_n hx hb dX3_within_11 rfl (lv_at hl 2 rfl) ?_
    refine m_d1 (v := .ref (ad (2 * j + 8))) (ct1 := ctC aC ad n gl E G P co lc hc hn hs X) (va_runV (As := [.int (nI j)]) (rest := []) F (c_livT l j hj1 hj2 h200 hd) (cwV 1 F.2.2.2.2 (go_V (fun _ h => tb_O h) mlX3_37 imX3_living seX3_living iniX3 cdX3_living) rfl rfl rfl (by decide +kernel) ⟨Nat.le_of_ble_eq_true rfl, Nat.le_of_ble_eq_true rfl⟩) (mPreV hKK hM (Nat.le_trans hlo hS.1) ctC_0 rfl) rfl rfl hl.1 rfl (lv_room (Nat.le_of_ble_eq_true rfl)) dX3_within_12 ⟨Nat.le_of_ble_eq_true rfl, Nat.le_of_ble_eq_true rfl⟩) hS (fun H locs hM hS => ?_)
    refine lv_astore_n (lv' := [(3, .ref (ad (2 * j + 8))), (0, .ref (ad 0)), (1, .int x), (2, .int (nI j))]) hx hb dX3_within_15 rfl hl (by decide) rfl (fun ls hl => ?_)
    refine lv_aload_n hx hb dX3_within_16 rfl (lv_at hl 0 rfl) ?_
    refine lv_ifnonnull (tgt := 22) hx hb dX3_within_17 (by decide) ?_
    refine lv_iload_n hx hb dX3_within_22 rfl (lv_at hl 2 rfl) ?_
    refine m_d1 (v := .int (bI (isGr x))) (ct1 := ctC aC ad n gl E G P co lc hc hn hs X) (va_runS (As := [.int x]) (rest := []) F (c_isGroup l x) (va_cwS 1 F.2.2.2.2 (go_S (fun _ h => tb_O h) mlX3_113 stX3_isGroup iniX3 cdX3_isGroup) rfl rfl rfl (by decide +kernel) ⟨Nat.le_of_ble_eq_true rfl, Nat.le_of_ble_eq_true rfl⟩) (mPreS hKK hM (Nat.le_trans hlo hS.1)) rfl rfl hl.1 rfl (lv_room (Nat.le_of_ble_eq_true rfl)) dX3_within_23 ⟨Nat.le_of_ble_eq_true rfl, Nat.le_of_ble_eq_true rfl⟩) hS (fun H locs hM hS => ?_)
    refine lv_if_ne (tgt := 32) hx hb dX3_within_26 (by decide) (fun c_26 => ?_) (fun c_26 => ?_)
    · skip
      exact absurd (by rw [hg]; rfl) c_26
    · skip
      refine lv_bipush (v := (-2)) hx hb dX3_within_29 (by decide) ?_
      exact W.iret hx hb hr (fun t ht hW => ⟨⟨_, _, _, rfl, ⟨rfl, rfl, rfl⟩, by rw [ht]; exact hM⟩, hS.F ht⟩) hS.2.2 dX3_within_31
  · skip
    exact absurd c_1 (nI_ne0 hj1 (by omega))

set_option maxHeartbeats 4000000 in
set_option maxRecDepth 100000 in
theorem c_within (l : Launch) {D : va_G} {aC : Nat → ClassId} {lo : Nat} {ad : Nat → Nat} {n : Nat} {gl : Int32} {E : Nat → Ent} {G : Nat → Nat → Nat} {P : Nat} {co : Nat → Option Nat} {lc : Nat → Nat} {hc : Nat} {hn hs : Nat → Nat} {X : Nat → Option va_E} (x : Int32) (j : Nat) (hj1 : 1 ≤ j) (hj2 : j ≤ n) (h200 : n ≤ 200) (hd : (E j).2.2.1 = false) (hg : isGr x = true) : Met l yX3_within (wsO yX3_within cX3_within 4 (some .int)) ({ frames := 2, cells := 0, slots := 0, locals := 46 } : Room) (mPc D vwCl (tyA aC) lo ad (ctC aC ad n gl E G P co lc hc hn hs X) [.ref (ad 0), .int x, .int (nI j)]) (mD1 D vwCl lo (.int (nI (cnt (inW (va_up E j (seB (E j) ((E j).2.1 ||| nI 1 <<< (x &&& 31)))) x) n))) ad (ctC aC ad n gl (va_up E j (seB (E j) ((E j).2.1 ||| nI 1 <<< (x &&& 31)))) G P co lc hc hn hs X)) 0 0 (fun q => lo ≤ q) := by
  refine Met.ofW (cc := cX3_within) (maxL := 4) (ret := (some .int)) (by decide) rfl ?_
  intro pr en s0 mm args below meth cc0 s₁ B hml hv
  obtain ⟨rfl, hlo, hM, hKK⟩ := hv
  have hK := hKK.1
  have hr := B.returns
  have hts := atoms_spec (ws := (wsO yX3_within cX3_within 4 (some .int))) B.pre
  have F : CallFix pr mm cc0 cX3_within 4 s0 (([.ref (ad 0), .int x, .int (nI j)] : List Value).toArray) (wsO yX3_within cX3_within 4 (some .int)) RX3 := ⟨B.exec, B.bytes, hml, findClass_of_methodNamed B.named, hts⟩
  have hx := F.1
  have hb := F.2.1
  have hlocks := B.notSynchronized
  have hS : va_S (fun q => lo ≤ q) s0.heap s0.heap [] := va_S.rf
  have hl := lv_entry ([.ref (ad 0), .int x, .int (nI j)]) (n := 4) (Nat.le_of_ble_eq_true rfl)
  rw [lg_entry_eq]
  generalize (lg_sl ([.ref (ad 0), .int x, .int (nI j)]) ++ List.replicate (4 - (lg_sl ([.ref (ad 0), .int x, .int (nI j)])).length) Slot.unset).toArray = ls at hl ⊢
  have hl : lv_has ls 4 [(0, .ref (ad 0)), (1, .int x), (2, .int (nI j))] := hl
  refine lv_iload_n hx hb dX3_within_0 rfl (lv_at hl 2 rfl) ?_
  refine lv_if_ne (tgt := 10) hx hb dX3_within_1 (by decide) (fun c_1 => ?_) (fun c_1 => ?_)
  · skip
    refine lv_aload_n hx hb dX3_within_10 rfl (lv_at hl 0 rfl) ?_
    refine lv_iload_n hx hb dX3_within_11 rfl (lv_at hl 2 rfl) ?_
    refine m_d1 (v := .ref (ad (2 * j + 8))) (ct1 := ctC aC ad n gl E G P co lc hc hn hs X) (va_runV (As := [.int (nI j)]) (rest := []) F (c_livT l j hj1 hj2 h200 hd) (cwV 1 F.2.2.2.2 (go_V (fun _ h => tb_O h) mlX3_37 imX3_living seX3_living iniX3 cdX3_living) rfl rfl rfl (by decide +kernel) ⟨Nat.le_of_ble_eq_true rfl, Nat.le_of_ble_eq_true rfl⟩) (mPreV hKK hM (Nat.le_trans hlo hS.1) ctC_0 rfl) rfl rfl hl.1 rfl (lv_room (Nat.le_of_ble_eq_true rfl)) dX3_within_12 ⟨Nat.le_of_ble_eq_true rfl, Nat.le_of_ble_eq_true rfl⟩) hS (fun H locs hM hS => ?_)
    refine lv_astore_n (lv' := [(3, .ref (ad (2 * j + 8))), (0, .ref (ad 0)), (1, .int x), (2, .int (nI j))]) hx hb dX3_within_15 rfl hl (by decide) rfl (fun ls hl => ?_)
    refine lv_aload_n hx hb dX3_within_16 rfl (lv_at hl 0 rfl) ?_
    refine lv_ifnonnull (tgt := 22) hx hb dX3_within_17 (by decide) ?_
    refine lv_iload_n hx hb dX3_within_22 rfl (lv_at hl 2 rfl) ?_
    refine m_d1 (v := .int (bI (isGr x))) (ct1 := ctC aC ad n gl E G P co lc hc hn hs X) (va_runS (As := [.int x]) (rest := []) F (c_isGroup l x) (va_cwS 1 F.2.2.2.2 (go_S (fun _ h => tb_O h) mlX3_113 stX3_isGroup iniX3 cdX3_isGroup) rfl rfl rfl (by decide +kernel) ⟨Nat.le_of_ble_eq_true rfl, Nat.le_of_ble_eq_true rfl⟩) (mPreS hKK hM (Nat.le_trans hlo hS.1)) rfl rfl hl.1 rfl (lv_room (Nat.le_of_ble_eq_true rfl)) dX3_within_23 ⟨Nat.le_of_ble_eq_true rfl, Nat.le_of_ble_eq_true rfl⟩) hS (fun H locs hM hS => ?_)
    refine lv_if_ne (tgt := 32) hx hb dX3_within_26 (by decide) (fun c_26 => ?_) (fun c_26 => ?_)
    · skip
      refine lv_aload_n hx hb dX3_within_32 rfl (lv_at hl 0 rfl) ?_
      refine lv_iload_n hx hb dX3_within_33 rfl (lv_at hl 2 rfl) ?_
      refine m_d0 (ct1 := va_up (ctC aC ad n gl E G P co lc hc hn hs X) (2 * j + 8) (some (.inr (0, [.ref (ad (2 * j + 9)), .int (nI ((E j).1)), .int ((E j).2.1 ||| nI 1 <<< (x &&& 31)), .int (bI (E j).2.2.1), va_rf (oE ad (E j).2.2.2.1), .int (nI (E j).2.2.2.2)])))) (va_runV (As := [.int x]) (rest := []) F (c_join l (ke := 2 * j + 8) (ks := 2 * j + 9) (len := (E j).1) (gb := (E j).2.1) (db := bI (E j).2.2.1) (lv := nI (E j).2.2.2.2) (sv := va_rf (oE ad (E j).2.2.2.1)) x (ctC_e hj1 hj2 h200)) (cwV 1 F.2.2.2.2 (go_V (fun _ h => tb_O h) mlX3_116 imX0_join seX0_join iniX0 cdX0_join) rfl rfl rfl (by decide +kernel) ⟨Nat.le_of_ble_eq_true rfl, Nat.le_of_ble_eq_true rfl⟩) (mPreV hKK hM (Nat.le_trans hlo hS.1) (ctC_e hj1 hj2 h200) rfl) rfl rfl hl.1 rfl (lv_room (Nat.le_of_ble_eq_true rfl)) dX3_within_34 ⟨Nat.le_of_ble_eq_true rfl, Nat.le_of_ble_eq_true rfl⟩) hS (fun H locs hM hS => ?_)
      have hM : mw D vwCl lo ad (ctC aC ad n gl (va_up E j (seB (E j) ((E j).2.1 ||| nI 1 <<< (x &&& 31)))) G P co lc hc hn hs X) H := by
          have h9 : mw D vwCl lo ad (va_up (ctC aC ad n gl E G P co lc hc hn hs X) (2 * j + 8) (some (entO ad j (seB (E j) ((E j).2.1 ||| nI 1 <<< (x &&& 31)))))) H := hM
          rw [ctC_E hj1 hj2 h200] at h9
          exact h9
      refine lv_aload_n hx hb dX3_within_37 rfl (lv_at hl 1 rfl) ?_
      refine lv_iload_n hx hb dX3_within_38 rfl (lv_at hl 2 rfl) ?_
      refine m_d1 (v := .int (nI (cnt (inW (va_up E j (seB (E j) ((E j).2.1 ||| nI 1 <<< (x &&& 31)))) x) n))) (ct1 := ctC aC ad n gl (va_up E j (seB (E j) ((E j).2.1 ||| nI 1 <<< (x &&& 31)))) G P co lc hc hn hs X) (va_runV (As := [.int x]) (rest := []) F (c_countWithin l x h200) (cwV 1 F.2.2.2.2 (go_V (fun _ h => tb_O h) mlX3_59 imX3_countWithin seX3_countWithin iniX3 cdX3_countWithin) rfl rfl rfl (by decide +kernel) ⟨Nat.le_of_ble_eq_true rfl, Nat.le_of_ble_eq_true rfl⟩) (mPreV hKK hM (Nat.le_trans hlo hS.1) ctC_0 rfl) rfl rfl hl.1 rfl (lv_room (Nat.le_of_ble_eq_true rfl)) dX3_within_39 ⟨Nat.le_of_ble_eq_true rfl, Nat.le_of_ble_eq_true rfl⟩) hS (fun H locs hM hS => ?_)
      exact W.iret hx hb hr (fun t ht hW => ⟨⟨_, _, _, rfl, ⟨rfl, rfl, rfl⟩, by rw [ht]; exact hM⟩, hS.F ht⟩) hS.2.2 dX3_within_42
    · skip
      exact absurd hg (by rw [bI_eq c_26]; decide)
  · skip
    exact absurd c_1 (nI_ne0 hj1 (by omega))

set_option maxHeartbeats 4000000 in
set_option maxRecDepth 100000 in
theorem c_abU1 (l : Launch) {D : va_G} {aC : Nat → ClassId} {lo : Nat} {ad : Nat → Nat} {n : Nat} {gl : Int32} {E : Nat → Ent} {G : Nat → Nat → Nat} {P : Nat} {co : Nat → Option Nat} {lc : Nat → Nat} {hc : Nat} {hn hs : Nat → Nat} {X : Nat → Option va_E} (x y : Int32) (hn0 : cLiv n E x = none) (h200 : n ≤ 200) : Met l yX3_abbreviation (wsO yX3_abbreviation cX3_abbreviation 5 (some .int)) ({ frames := 2, cells := 0, slots := 0, locals := 46 } : Room) (mPc D vwCl (tyA aC) lo ad (ctC aC ad n gl E G P co lc hc hn hs X) [.ref (ad 0), .int x, .int y]) (mD1 D vwCl lo (.int (-1)) ad (ctC aC ad n gl E G P co lc hc hn hs X)) 0 0 (fun q => lo ≤ q) := by
  refine Met.ofW (cc := cX3_abbreviation) (maxL := 5) (ret := (some .int)) (by decide) rfl ?_
  intro pr en s0 mm args below meth cc0 s₁ B hml hv
  obtain ⟨rfl, hlo, hM, hKK⟩ := hv
  have hK := hKK.1
  have hr := B.returns
  have hts := atoms_spec (ws := (wsO yX3_abbreviation cX3_abbreviation 5 (some .int))) B.pre
  have F : CallFix pr mm cc0 cX3_abbreviation 5 s0 (([.ref (ad 0), .int x, .int y] : List Value).toArray) (wsO yX3_abbreviation cX3_abbreviation 5 (some .int)) RX3 := ⟨B.exec, B.bytes, hml, findClass_of_methodNamed B.named, hts⟩
  have hx := F.1
  have hb := F.2.1
  have hlocks := B.notSynchronized
  have hS : va_S (fun q => lo ≤ q) s0.heap s0.heap [] := va_S.rf
  have hl := lv_entry ([.ref (ad 0), .int x, .int y]) (n := 5) (Nat.le_of_ble_eq_true rfl)
  rw [lg_entry_eq]
  generalize (lg_sl ([.ref (ad 0), .int x, .int y]) ++ List.replicate (5 - (lg_sl ([.ref (ad 0), .int x, .int y])).length) Slot.unset).toArray = ls at hl ⊢
  have hl : lv_has ls 5 [(0, .ref (ad 0)), (1, .int x), (2, .int y)] := hl
  refine lv_aload_n hx hb dX3_abbreviation_0 rfl (lv_at hl 0 rfl) ?_
  refine lv_iload_n hx hb dX3_abbreviation_1 rfl (lv_at hl 1 rfl) ?_
  refine m_d1 (v := va_rf (oE ad (cLiv n E x))) (ct1 := ctC aC ad n gl E G P co lc hc hn hs X) (va_runV (As := [.int x]) (rest := []) F (c_living l x h200) (cwV 1 F.2.2.2.2 (go_V (fun _ h => tb_O h) mlX3_37 imX3_living seX3_living iniX3 cdX3_living) rfl rfl rfl (by decide +kernel) ⟨Nat.le_of_ble_eq_true rfl, Nat.le_of_ble_eq_true rfl⟩) (mPreV hKK hM (Nat.le_trans hlo hS.1) ctC_0 rfl) rfl rfl hl.1 rfl (lv_room (Nat.le_of_ble_eq_true rfl)) dX3_abbreviation_2 ⟨Nat.le_of_ble_eq_true rfl, Nat.le_of_ble_eq_true rfl⟩) hS (fun H locs hM hS => ?_)
  rw [hn0]
  · skip
    refine m_val (v' := .null) rfl ?_
    refine lv_astore_nN (lv' := [(3, .null), (0, .ref (ad 0)), (1, .int x), (2, .int y)]) hx hb dX3_abbreviation_5 rfl hl (by decide) rfl (fun ls hl => ?_)
    refine lv_aload_n hx hb dX3_abbreviation_6 rfl (lv_at hl 1 rfl) ?_
    refine lv_iload_n hx hb dX3_abbreviation_7 rfl (lv_at hl 3 rfl) ?_
    refine m_d1 (v := va_rf (oE ad (cLiv n E y))) (ct1 := ctC aC ad n gl E G P co lc hc hn hs X) (va_runV (As := [.int y]) (rest := []) F (c_living l y h200) (cwV 1 F.2.2.2.2 (go_V (fun _ h => tb_O h) mlX3_37 imX3_living seX3_living iniX3 cdX3_living) rfl rfl rfl (by decide +kernel) ⟨Nat.le_of_ble_eq_true rfl, Nat.le_of_ble_eq_true rfl⟩) (mPreV hKK hM (Nat.le_trans hlo hS.1) ctC_0 rfl) rfl rfl hl.1 rfl (lv_room (Nat.le_of_ble_eq_true rfl)) dX3_abbreviation_8 ⟨Nat.le_of_ble_eq_true rfl, Nat.le_of_ble_eq_true rfl⟩) hS (fun H locs hM hS => ?_)
    rcases hk9 : cLiv n E y with _ | k
    · skip
      refine m_val (v' := .null) rfl ?_
      refine lv_astoreN (lv' := [(4, .null), (3, .null), (0, .ref (ad 0)), (1, .int x), (2, .int y)]) hx hb dX3_abbreviation_11 hl (by decide) rfl (fun ls hl => ?_)
      refine lv_aload_nN hx hb dX3_abbreviation_13 rfl (lv_at hl 1 rfl) ?_
      refine lv_ifnullN (tgt := 22) hx hb dX3_abbreviation_14 (by decide) ?_
      refine lv_iconst (v := (-1)) hx hb dX3_abbreviation_22 (by decide) ?_
      exact W.iret hx hb hr (fun t ht hW => ⟨⟨_, _, _, rfl, ⟨rfl, rfl, rfl⟩, by rw [ht]; exact hM⟩, hS.F ht⟩) hS.2.2 dX3_abbreviation_23
    · skip
      refine m_val (v' := .ref (ad (2 * k + 8))) rfl ?_
      refine lv_astore (lv' := [(4, .ref (ad (2 * k + 8))), (3, .null), (0, .ref (ad 0)), (1, .int x), (2, .int y)]) hx hb dX3_abbreviation_11 hl (by decide) rfl (fun ls hl => ?_)
      refine lv_aload_nN hx hb dX3_abbreviation_13 rfl (lv_at hl 1 rfl) ?_
      refine lv_ifnullN (tgt := 22) hx hb dX3_abbreviation_14 (by decide) ?_
      refine lv_iconst (v := (-1)) hx hb dX3_abbreviation_22 (by decide) ?_
      exact W.iret hx hb hr (fun t ht hW => ⟨⟨_, _, _, rfl, ⟨rfl, rfl, rfl⟩, by rw [ht]; exact hM⟩, hS.F ht⟩) hS.2.2 dX3_abbreviation_23

set_option maxHeartbeats 4000000 in
set_option maxRecDepth 100000 in
theorem c_abU2 (l : Launch) {D : va_G} {aC : Nat → ClassId} {lo : Nat} {ad : Nat → Nat} {n : Nat} {gl : Int32} {E : Nat → Ent} {G : Nat → Nat → Nat} {P : Nat} {co : Nat → Option Nat} {lc : Nat → Nat} {hc : Nat} {hn hs : Nat → Nat} {X : Nat → Option va_E} (x y : Int32) (hn0 : cLiv n E y = none) (h200 : n ≤ 200) : Met l yX3_abbreviation (wsO yX3_abbreviation cX3_abbreviation 5 (some .int)) ({ frames := 2, cells := 0, slots := 0, locals := 46 } : Room) (mPc D vwCl (tyA aC) lo ad (ctC aC ad n gl E G P co lc hc hn hs X) [.ref (ad 0), .int x, .int y]) (mD1 D vwCl lo (.int (-1)) ad (ctC aC ad n gl E G P co lc hc hn hs X)) 0 0 (fun q => lo ≤ q) := by
  refine Met.ofW (cc := cX3_abbreviation) (maxL := 5) (ret := (some .int)) (by decide) rfl ?_
  intro pr en s0 mm args below meth cc0 s₁ B hml hv
  obtain ⟨rfl, hlo, hM, hKK⟩ := hv
  have hK := hKK.1
  have hr := B.returns
  have hts := atoms_spec (ws := (wsO yX3_abbreviation cX3_abbreviation 5 (some .int))) B.pre
  have F : CallFix pr mm cc0 cX3_abbreviation 5 s0 (([.ref (ad 0), .int x, .int y] : List Value).toArray) (wsO yX3_abbreviation cX3_abbreviation 5 (some .int)) RX3 := ⟨B.exec, B.bytes, hml, findClass_of_methodNamed B.named, hts⟩
  have hx := F.1
  have hb := F.2.1
  have hlocks := B.notSynchronized
  have hS : va_S (fun q => lo ≤ q) s0.heap s0.heap [] := va_S.rf
  have hl := lv_entry ([.ref (ad 0), .int x, .int y]) (n := 5) (Nat.le_of_ble_eq_true rfl)
  rw [lg_entry_eq]
  generalize (lg_sl ([.ref (ad 0), .int x, .int y]) ++ List.replicate (5 - (lg_sl ([.ref (ad 0), .int x, .int y])).length) Slot.unset).toArray = ls at hl ⊢
  have hl : lv_has ls 5 [(0, .ref (ad 0)), (1, .int x), (2, .int y)] := hl
  refine lv_aload_n hx hb dX3_abbreviation_0 rfl (lv_at hl 0 rfl) ?_
  refine lv_iload_n hx hb dX3_abbreviation_1 rfl (lv_at hl 1 rfl) ?_
  refine m_d1 (v := va_rf (oE ad (cLiv n E x))) (ct1 := ctC aC ad n gl E G P co lc hc hn hs X) (va_runV (As := [.int x]) (rest := []) F (c_living l x h200) (cwV 1 F.2.2.2.2 (go_V (fun _ h => tb_O h) mlX3_37 imX3_living seX3_living iniX3 cdX3_living) rfl rfl rfl (by decide +kernel) ⟨Nat.le_of_ble_eq_true rfl, Nat.le_of_ble_eq_true rfl⟩) (mPreV hKK hM (Nat.le_trans hlo hS.1) ctC_0 rfl) rfl rfl hl.1 rfl (lv_room (Nat.le_of_ble_eq_true rfl)) dX3_abbreviation_2 ⟨Nat.le_of_ble_eq_true rfl, Nat.le_of_ble_eq_true rfl⟩) hS (fun H locs hM hS => ?_)
  rcases hk9 : cLiv n E x with _ | k
  · skip
    refine m_val (v' := .null) rfl ?_
    refine lv_astore_nN (lv' := [(3, .null), (0, .ref (ad 0)), (1, .int x), (2, .int y)]) hx hb dX3_abbreviation_5 rfl hl (by decide) rfl (fun ls hl => ?_)
    refine lv_aload_n hx hb dX3_abbreviation_6 rfl (lv_at hl 1 rfl) ?_
    refine lv_iload_n hx hb dX3_abbreviation_7 rfl (lv_at hl 3 rfl) ?_
    refine m_d1 (v := va_rf (oE ad (cLiv n E y))) (ct1 := ctC aC ad n gl E G P co lc hc hn hs X) (va_runV (As := [.int y]) (rest := []) F (c_living l y h200) (cwV 1 F.2.2.2.2 (go_V (fun _ h => tb_O h) mlX3_37 imX3_living seX3_living iniX3 cdX3_living) rfl rfl rfl (by decide +kernel) ⟨Nat.le_of_ble_eq_true rfl, Nat.le_of_ble_eq_true rfl⟩) (mPreV hKK hM (Nat.le_trans hlo hS.1) ctC_0 rfl) rfl rfl hl.1 rfl (lv_room (Nat.le_of_ble_eq_true rfl)) dX3_abbreviation_8 ⟨Nat.le_of_ble_eq_true rfl, Nat.le_of_ble_eq_true rfl⟩) hS (fun H locs hM hS => ?_)
    rw [hn0]
    · skip
      refine m_val (v' := .null) rfl ?_
      refine lv_astoreN (lv' := [(4, .null), (3, .null), (0, .ref (ad 0)), (1, .int x), (2, .int y)]) hx hb dX3_abbreviation_11 hl (by decide) rfl (fun ls hl => ?_)
      refine lv_aload_nN hx hb dX3_abbreviation_13 rfl (lv_at hl 1 rfl) ?_
      refine lv_ifnullN (tgt := 22) hx hb dX3_abbreviation_14 (by decide) ?_
      refine lv_iconst (v := (-1)) hx hb dX3_abbreviation_22 (by decide) ?_
      exact W.iret hx hb hr (fun t ht hW => ⟨⟨_, _, _, rfl, ⟨rfl, rfl, rfl⟩, by rw [ht]; exact hM⟩, hS.F ht⟩) hS.2.2 dX3_abbreviation_23
  · skip
    refine m_val (v' := .ref (ad (2 * k + 8))) rfl ?_
    refine lv_astore_n (lv' := [(3, .ref (ad (2 * k + 8))), (0, .ref (ad 0)), (1, .int x), (2, .int y)]) hx hb dX3_abbreviation_5 rfl hl (by decide) rfl (fun ls hl => ?_)
    refine lv_aload_n hx hb dX3_abbreviation_6 rfl (lv_at hl 1 rfl) ?_
    refine lv_iload_n hx hb dX3_abbreviation_7 rfl (lv_at hl 3 rfl) ?_
    refine m_d1 (v := va_rf (oE ad (cLiv n E y))) (ct1 := ctC aC ad n gl E G P co lc hc hn hs X) (va_runV (As := [.int y]) (rest := []) F (c_living l y h200) (cwV 1 F.2.2.2.2 (go_V (fun _ h => tb_O h) mlX3_37 imX3_living seX3_living iniX3 cdX3_living) rfl rfl rfl (by decide +kernel) ⟨Nat.le_of_ble_eq_true rfl, Nat.le_of_ble_eq_true rfl⟩) (mPreV hKK hM (Nat.le_trans hlo hS.1) ctC_0 rfl) rfl rfl hl.1 rfl (lv_room (Nat.le_of_ble_eq_true rfl)) dX3_abbreviation_8 ⟨Nat.le_of_ble_eq_true rfl, Nat.le_of_ble_eq_true rfl⟩) hS (fun H locs hM hS => ?_)
    rw [hn0]
    · skip
      refine m_val (v' := .null) rfl ?_
      refine lv_astoreN (lv' := [(4, .null), (3, .ref (ad (2 * k + 8))), (0, .ref (ad 0)), (1, .int x), (2, .int y)]) hx hb dX3_abbreviation_11 hl (by decide) rfl (fun ls hl => ?_)
      refine lv_aload_n hx hb dX3_abbreviation_13 rfl (lv_at hl 1 rfl) ?_
      refine lv_ifnull hx hb dX3_abbreviation_14 ?_
      refine lv_aloadN hx hb dX3_abbreviation_17 (lv_at hl 0 rfl) ?_
      refine lv_ifnonnullN hx hb dX3_abbreviation_19 ?_
      refine lv_iconst (v := (-1)) hx hb dX3_abbreviation_22 (by decide) ?_
      exact W.iret hx hb hr (fun t ht hW => ⟨⟨_, _, _, rfl, ⟨rfl, rfl, rfl⟩, by rw [ht]; exact hM⟩, hS.F ht⟩) hS.2.2 dX3_abbreviation_23

set_option maxHeartbeats 4000000 in
set_option maxRecDepth 100000 in
theorem c_abS (l : Launch) {D : va_G} {aC : Nat → ClassId} {lo : Nat} {ad : Nat → Nat} {n : Nat} {gl : Int32} {E : Nat → Ent} {G : Nat → Nat → Nat} {P : Nat} {co : Nat → Option Nat} {lc : Nat → Nat} {hc : Nat} {hn hs : Nat → Nat} {X : Nat → Option va_E} (j k : Nat) (hj1 : 1 ≤ j) (hj2 : j ≤ n) (h200 : n ≤ 200) (hd : (E j).2.2.1 = false) (hk1 : 1 ≤ k) (hk2 : k ≤ n) (hdk : (E k).2.2.1 = false) (hsfo : sfOk n E) (hst : j = k ∨ (E k).2.2.2.1 ≠ none ∨ 0 < cnt (abO E j) n) : Met l yX3_abbreviation (wsO yX3_abbreviation cX3_abbreviation 5 (some .int)) ({ frames := 2, cells := 0, slots := 0, locals := 46 } : Room) (mPc D vwCl (tyA aC) lo ad (ctC aC ad n gl E G P co lc hc hn hs X) [.ref (ad 0), .int (nI j), .int (nI k)]) (mD1 D vwCl lo (.int (-3)) ad (ctC aC ad n gl E G P co lc hc hn hs X)) 0 0 (fun q => lo ≤ q) := by
  refine Met.ofW (cc := cX3_abbreviation) (maxL := 5) (ret := (some .int)) (by decide) rfl ?_
  intro pr en s0 mm args below meth cc0 s₁ B hml hv
  obtain ⟨rfl, hlo, hM, hKK⟩ := hv
  have hK := hKK.1
  have hr := B.returns
  have hts := atoms_spec (ws := (wsO yX3_abbreviation cX3_abbreviation 5 (some .int))) B.pre
  have F : CallFix pr mm cc0 cX3_abbreviation 5 s0 (([.ref (ad 0), .int (nI j), .int (nI k)] : List Value).toArray) (wsO yX3_abbreviation cX3_abbreviation 5 (some .int)) RX3 := ⟨B.exec, B.bytes, hml, findClass_of_methodNamed B.named, hts⟩
  have hx := F.1
  have hb := F.2.1
  have hlocks := B.notSynchronized
  have hS : va_S (fun q => lo ≤ q) s0.heap s0.heap [] := va_S.rf
  have hl := lv_entry ([.ref (ad 0), .int (nI j), .int (nI k)]) (n := 5) (Nat.le_of_ble_eq_true rfl)
  rw [lg_entry_eq]
  generalize (lg_sl ([.ref (ad 0), .int (nI j), .int (nI k)]) ++ List.replicate (5 - (lg_sl ([.ref (ad 0), .int (nI j), .int (nI k)])).length) Slot.unset).toArray = ls at hl ⊢
  have hl : lv_has ls 5 [(0, .ref (ad 0)), (1, .int (nI j)), (2, .int (nI k))] := hl
  refine lv_aload_n hx hb dX3_abbreviation_0 rfl (lv_at hl 0 rfl) ?_
  refine lv_iload_n hx hb dX3_abbreviation_1 rfl (lv_at hl 1 rfl) ?_
  refine m_d1 (v := .ref (ad (2 * j + 8))) (ct1 := ctC aC ad n gl E G P co lc hc hn hs X) (va_runV (As := [.int (nI j)]) (rest := []) F (c_livT l j hj1 hj2 h200 hd) (cwV 1 F.2.2.2.2 (go_V (fun _ h => tb_O h) mlX3_37 imX3_living seX3_living iniX3 cdX3_living) rfl rfl rfl (by decide +kernel) ⟨Nat.le_of_ble_eq_true rfl, Nat.le_of_ble_eq_true rfl⟩) (mPreV hKK hM (Nat.le_trans hlo hS.1) ctC_0 rfl) rfl rfl hl.1 rfl (lv_room (Nat.le_of_ble_eq_true rfl)) dX3_abbreviation_2 ⟨Nat.le_of_ble_eq_true rfl, Nat.le_of_ble_eq_true rfl⟩) hS (fun H locs hM hS => ?_)
  refine lv_astore_n (lv' := [(3, .ref (ad (2 * j + 8))), (0, .ref (ad 0)), (1, .int (nI j)), (2, .int (nI k))]) hx hb dX3_abbreviation_5 rfl hl (by decide) rfl (fun ls hl => ?_)
  refine lv_aload_n hx hb dX3_abbreviation_6 rfl (lv_at hl 1 rfl) ?_
  refine lv_iload_n hx hb dX3_abbreviation_7 rfl (lv_at hl 3 rfl) ?_
  refine m_d1 (v := .ref (ad (2 * k + 8))) (ct1 := ctC aC ad n gl E G P co lc hc hn hs X) (va_runV (As := [.int (nI k)]) (rest := []) F (c_livT l k hk1 hk2 h200 hdk) (cwV 1 F.2.2.2.2 (go_V (fun _ h => tb_O h) mlX3_37 imX3_living seX3_living iniX3 cdX3_living) rfl rfl rfl (by decide +kernel) ⟨Nat.le_of_ble_eq_true rfl, Nat.le_of_ble_eq_true rfl⟩) (mPreV hKK hM (Nat.le_trans hlo hS.1) ctC_0 rfl) rfl rfl hl.1 rfl (lv_room (Nat.le_of_ble_eq_true rfl)) dX3_abbreviation_8 ⟨Nat.le_of_ble_eq_true rfl, Nat.le_of_ble_eq_true rfl⟩) hS (fun H locs hM hS => ?_)
  refine lv_astore (lv' := [(4, .ref (ad (2 * k + 8))), (3, .ref (ad (2 * j + 8))), (0, .ref (ad 0)), (1, .int (nI j)), (2, .int (nI k))]) hx hb dX3_abbreviation_11 hl (by decide) rfl (fun ls hl => ?_)
  refine lv_aload_n hx hb dX3_abbreviation_13 rfl (lv_at hl 1 rfl) ?_
  refine lv_ifnull hx hb dX3_abbreviation_14 ?_
  refine lv_aload hx hb dX3_abbreviation_17 (lv_at hl 0 rfl) ?_
  refine lv_ifnonnull (tgt := 24) hx hb dX3_abbreviation_19 (by decide) ?_
  refine lv_aload_n hx hb dX3_abbreviation_24 rfl (lv_at hl 1 rfl) ?_
  refine lv_aload hx hb dX3_abbreviation_25 (lv_at hl 0 rfl) ?_
  refine m_acmp_eq2 F (tgt := 46) dX3_abbreviation_27 (by decide) (fun c_27 => ?_) (fun c_27 => ?_)
  · skip
    refine lv_bipush (v := (-3)) hx hb dX3_abbreviation_46 (by decide) ?_
    exact W.iret hx hb hr (fun t ht hW => ⟨⟨_, _, _, rfl, ⟨rfl, rfl, rfl⟩, by rw [ht]; exact hM⟩, hS.F ht⟩) hS.2.2 dX3_abbreviation_48
  · skip
    have hjk : ¬ j = k := fun q => c_27 (by rw [q])
    refine lv_aload hx hb dX3_abbreviation_30 (lv_at hl 0 rfl) ?_
    refine m_get F (ci := 0) (v := va_rf (oE ad (E k).2.2.2.1)) (fun w h => tb_O (inX0 w h)) hK hM (ctC_e hk1 hk2 h200) rfl 4 (by decide) (tb_O lkX3_55) rfl dX3_abbreviation_32 ?_
    rcases hsf : (E k).2.2.2.1 with _ | z
    · skip
      refine m_val (v' := .null) rfl ?_
      refine lv_ifnonnullN hx hb dX3_abbreviation_35 ?_
      refine lv_aload_n hx hb dX3_abbreviation_38 rfl (lv_at hl 2 rfl) ?_
      refine lv_aload_n hx hb dX3_abbreviation_39 rfl (lv_at hl 1 rfl) ?_
      refine m_d1 (v := .int (nI (cnt (abO E j) n))) (ct1 := ctC aC ad n gl E G P co lc hc hn hs X) (va_runV (As := [.ref (ad (2 * j + 8))]) (rest := []) F (c_countAb l j hj1 hj2 h200 hsfo) (cwV 1 F.2.2.2.2 (go_V (fun _ h => tb_O h) mlX3_119 imX3_countAbbreviations seX3_countAbbreviations iniX3 cdX3_countAbbreviations) rfl rfl rfl (by decide +kernel) ⟨Nat.le_of_ble_eq_true rfl, Nat.le_of_ble_eq_true rfl⟩) (mPreV hKK hM (Nat.le_trans hlo hS.1) ctC_0 rfl) rfl rfl hl.1 rfl (lv_room (Nat.le_of_ble_eq_true rfl)) dX3_abbreviation_40 ⟨Nat.le_of_ble_eq_true rfl, Nat.le_of_ble_eq_true rfl⟩) hS (fun H locs hM hS => ?_)
      refine lv_if_le (tgt := 49) hx hb dX3_abbreviation_43 (by decide) (fun c_43 => ?_) (fun c_43 => ?_)
      · skip
        have hcz : ¬ 0 < cnt (abO E j) n := fun q => nI_nle q (by have := cnt_le (abO E j) n; omega) c_43
        exact absurd hst (fun q => q.elim hjk (fun q => q.elim (fun q => q hsf) hcz))
      · skip
        refine lv_bipush (v := (-3)) hx hb dX3_abbreviation_46 (by decide) ?_
        exact W.iret hx hb hr (fun t ht hW => ⟨⟨_, _, _, rfl, ⟨rfl, rfl, rfl⟩, by rw [ht]; exact hM⟩, hS.F ht⟩) hS.2.2 dX3_abbreviation_48
    · skip
      refine m_val (v' := .ref (ad (2 * z + 8))) rfl ?_
      refine lv_ifnonnull (tgt := 46) hx hb dX3_abbreviation_35 (by decide) ?_
      refine lv_bipush (v := (-3)) hx hb dX3_abbreviation_46 (by decide) ?_
      exact W.iret hx hb hr (fun t ht hW => ⟨⟨_, _, _, rfl, ⟨rfl, rfl, rfl⟩, by rw [ht]; exact hM⟩, hS.F ht⟩) hS.2.2 dX3_abbreviation_48

set_option maxHeartbeats 4000000 in
set_option maxRecDepth 100000 in
theorem c_ab (l : Launch) {D : va_G} {aC : Nat → ClassId} {lo : Nat} {ad : Nat → Nat} {n : Nat} {gl : Int32} {E : Nat → Ent} {G : Nat → Nat → Nat} {P : Nat} {co : Nat → Option Nat} {lc : Nat → Nat} {hc : Nat} {hn hs : Nat → Nat} {X : Nat → Option va_E} (j k : Nat) (hj1 : 1 ≤ j) (hj2 : j ≤ n) (h200 : n ≤ 200) (hd : (E j).2.2.1 = false) (hk1 : 1 ≤ k) (hk2 : k ≤ n) (hdk : (E k).2.2.1 = false) (hsfo : sfOk n E) (hjk : ¬ j = k) (hsk : (E k).2.2.2.1 = none) (hcz : cnt (abO E j) n = 0) : Met l yX3_abbreviation (wsO yX3_abbreviation cX3_abbreviation 5 (some .int)) ({ frames := 2, cells := 0, slots := 0, locals := 46 } : Room) (mPc D vwCl (tyA aC) lo ad (ctC aC ad n gl E G P co lc hc hn hs X) [.ref (ad 0), .int (nI j), .int (nI k)]) (mD1 D vwCl lo (.int (nI (cnt (abO (va_up E j (seS (E j) (some k))) k) n))) ad (ctC aC ad n gl (va_up E j (seS (E j) (some k))) G P co lc hc hn hs X)) 0 0 (fun q => lo ≤ q) := by
  refine Met.ofW (cc := cX3_abbreviation) (maxL := 5) (ret := (some .int)) (by decide) rfl ?_
  intro pr en s0 mm args below meth cc0 s₁ B hml hv
  obtain ⟨rfl, hlo, hM, hKK⟩ := hv
  have hK := hKK.1
  have hr := B.returns
  have hts := atoms_spec (ws := (wsO yX3_abbreviation cX3_abbreviation 5 (some .int))) B.pre
  have F : CallFix pr mm cc0 cX3_abbreviation 5 s0 (([.ref (ad 0), .int (nI j), .int (nI k)] : List Value).toArray) (wsO yX3_abbreviation cX3_abbreviation 5 (some .int)) RX3 := ⟨B.exec, B.bytes, hml, findClass_of_methodNamed B.named, hts⟩
  have hx := F.1
  have hb := F.2.1
  have hlocks := B.notSynchronized
  have hS : va_S (fun q => lo ≤ q) s0.heap s0.heap [] := va_S.rf
  have hl := lv_entry ([.ref (ad 0), .int (nI j), .int (nI k)]) (n := 5) (Nat.le_of_ble_eq_true rfl)
  rw [lg_entry_eq]
  generalize (lg_sl ([.ref (ad 0), .int (nI j), .int (nI k)]) ++ List.replicate (5 - (lg_sl ([.ref (ad 0), .int (nI j), .int (nI k)])).length) Slot.unset).toArray = ls at hl ⊢
  have hl : lv_has ls 5 [(0, .ref (ad 0)), (1, .int (nI j)), (2, .int (nI k))] := hl
  refine lv_aload_n hx hb dX3_abbreviation_0 rfl (lv_at hl 0 rfl) ?_
  refine lv_iload_n hx hb dX3_abbreviation_1 rfl (lv_at hl 1 rfl) ?_
  refine m_d1 (v := .ref (ad (2 * j + 8))) (ct1 := ctC aC ad n gl E G P co lc hc hn hs X) (va_runV (As := [.int (nI j)]) (rest := []) F (c_livT l j hj1 hj2 h200 hd) (cwV 1 F.2.2.2.2 (go_V (fun _ h => tb_O h) mlX3_37 imX3_living seX3_living iniX3 cdX3_living) rfl rfl rfl (by decide +kernel) ⟨Nat.le_of_ble_eq_true rfl, Nat.le_of_ble_eq_true rfl⟩) (mPreV hKK hM (Nat.le_trans hlo hS.1) ctC_0 rfl) rfl rfl hl.1 rfl (lv_room (Nat.le_of_ble_eq_true rfl)) dX3_abbreviation_2 ⟨Nat.le_of_ble_eq_true rfl, Nat.le_of_ble_eq_true rfl⟩) hS (fun H locs hM hS => ?_)
  refine lv_astore_n (lv' := [(3, .ref (ad (2 * j + 8))), (0, .ref (ad 0)), (1, .int (nI j)), (2, .int (nI k))]) hx hb dX3_abbreviation_5 rfl hl (by decide) rfl (fun ls hl => ?_)
  refine lv_aload_n hx hb dX3_abbreviation_6 rfl (lv_at hl 1 rfl) ?_
  refine lv_iload_n hx hb dX3_abbreviation_7 rfl (lv_at hl 3 rfl) ?_
  refine m_d1 (v := .ref (ad (2 * k + 8))) (ct1 := ctC aC ad n gl E G P co lc hc hn hs X) (va_runV (As := [.int (nI k)]) (rest := []) F (c_livT l k hk1 hk2 h200 hdk) (cwV 1 F.2.2.2.2 (go_V (fun _ h => tb_O h) mlX3_37 imX3_living seX3_living iniX3 cdX3_living) rfl rfl rfl (by decide +kernel) ⟨Nat.le_of_ble_eq_true rfl, Nat.le_of_ble_eq_true rfl⟩) (mPreV hKK hM (Nat.le_trans hlo hS.1) ctC_0 rfl) rfl rfl hl.1 rfl (lv_room (Nat.le_of_ble_eq_true rfl)) dX3_abbreviation_8 ⟨Nat.le_of_ble_eq_true rfl, Nat.le_of_ble_eq_true rfl⟩) hS (fun H locs hM hS => ?_)
  refine lv_astore (lv' := [(4, .ref (ad (2 * k + 8))), (3, .ref (ad (2 * j + 8))), (0, .ref (ad 0)), (1, .int (nI j)), (2, .int (nI k))]) hx hb dX3_abbreviation_11 hl (by decide) rfl (fun ls hl => ?_)
  refine lv_aload_n hx hb dX3_abbreviation_13 rfl (lv_at hl 1 rfl) ?_
  refine lv_ifnull hx hb dX3_abbreviation_14 ?_
  refine lv_aload hx hb dX3_abbreviation_17 (lv_at hl 0 rfl) ?_
  refine lv_ifnonnull (tgt := 24) hx hb dX3_abbreviation_19 (by decide) ?_
  refine lv_aload_n hx hb dX3_abbreviation_24 rfl (lv_at hl 1 rfl) ?_
  refine lv_aload hx hb dX3_abbreviation_25 (lv_at hl 0 rfl) ?_
  refine m_acmp_eq2 F (tgt := 46) dX3_abbreviation_27 (by decide) (fun c_27 => ?_) (fun c_27 => ?_)
  · skip
    exact absurd (by have h4 := hM.2 _ _ _ _ (ctC_e hj1 hj2 h200) (ctC_e hk1 hk2 h200) c_27; omega) hjk
  · skip
    refine lv_aload hx hb dX3_abbreviation_30 (lv_at hl 0 rfl) ?_
    refine m_get F (ci := 0) (v := va_rf (oE ad (E k).2.2.2.1)) (fun w h => tb_O (inX0 w h)) hK hM (ctC_e hk1 hk2 h200) rfl 4 (by decide) (tb_O lkX3_55) rfl dX3_abbreviation_32 ?_
    refine m_val (v' := .null) (by rw [hsk]; rfl) ?_
    refine lv_ifnonnullN hx hb dX3_abbreviation_35 ?_
    refine lv_aload_n hx hb dX3_abbreviation_38 rfl (lv_at hl 2 rfl) ?_
    refine lv_aload_n hx hb dX3_abbreviation_39 rfl (lv_at hl 1 rfl) ?_
    refine m_d1 (v := .int (nI (cnt (abO E j) n))) (ct1 := ctC aC ad n gl E G P co lc hc hn hs X) (va_runV (As := [.ref (ad (2 * j + 8))]) (rest := []) F (c_countAb l j hj1 hj2 h200 hsfo) (cwV 1 F.2.2.2.2 (go_V (fun _ h => tb_O h) mlX3_119 imX3_countAbbreviations seX3_countAbbreviations iniX3 cdX3_countAbbreviations) rfl rfl rfl (by decide +kernel) ⟨Nat.le_of_ble_eq_true rfl, Nat.le_of_ble_eq_true rfl⟩) (mPreV hKK hM (Nat.le_trans hlo hS.1) ctC_0 rfl) rfl rfl hl.1 rfl (lv_room (Nat.le_of_ble_eq_true rfl)) dX3_abbreviation_40 ⟨Nat.le_of_ble_eq_true rfl, Nat.le_of_ble_eq_true rfl⟩) hS (fun H locs hM hS => ?_)
    refine lv_if_le (tgt := 49) hx hb dX3_abbreviation_43 (by decide) (fun c_43 => ?_) (fun c_43 => ?_)
    · skip
      refine lv_aload_n hx hb dX3_abbreviation_49 rfl (lv_at hl 1 rfl) ?_
      refine lv_aload hx hb dX3_abbreviation_50 (lv_at hl 0 rfl) ?_
      refine m_put F (ci := 0) (v := .ref (ad (2 * k + 8))) (fun w h => tb_O (inX0 w h)) mc_X0 hK hM hS (ctC_e hj1 hj2 h200) 4 (by decide) (tb_O lkX3_55) rfl rfl rfl (Nat.le_of_ble_eq_true rfl) dX3_abbreviation_52 (fun H locs hM hS => ?_)
      have hM : mw D vwCl lo ad (va_up (ctC aC ad n gl E G P co lc hc hn hs X) (2 * j + 8) (some (.inr (0, [.ref (ad (2 * j + 9)), .int (nI ((E j).1)), .int ((E j).2.1), .int (bI (E j).2.2.1), .ref (ad (2 * k + 8)), .int (nI ((E j).2.2.2.2))])))) H := hM
      have hM : mw D vwCl lo ad (ctC aC ad n gl (va_up E j (seS (E j) (some k))) G P co lc hc hn hs X) H := by
          have h9 : mw D vwCl lo ad (va_up (ctC aC ad n gl E G P co lc hc hn hs X) (2 * j + 8) (some (entO ad j (seS (E j) (some k))))) H := hM
          rw [ctC_E hj1 hj2 h200] at h9
          exact h9
      refine lv_aload_n hx hb dX3_abbreviation_55 rfl (lv_at hl 2 rfl) ?_
      refine lv_aload hx hb dX3_abbreviation_56 (lv_at hl 0 rfl) ?_
      refine m_d1 (v := .int (nI (cnt (abO (va_up E j (seS (E j) (some k))) k) n))) (ct1 := ctC aC ad n gl (va_up E j (seS (E j) (some k))) G P co lc hc hn hs X) (va_runV (As := [.ref (ad (2 * k + 8))]) (rest := []) F (c_countAb l k hk1 hk2 h200 (sfOk_set hsfo hk1 hk2)) (cwV 1 F.2.2.2.2 (go_V (fun _ h => tb_O h) mlX3_119 imX3_countAbbreviations seX3_countAbbreviations iniX3 cdX3_countAbbreviations) rfl rfl rfl (by decide +kernel) ⟨Nat.le_of_ble_eq_true rfl, Nat.le_of_ble_eq_true rfl⟩) (mPreV hKK hM (Nat.le_trans hlo hS.1) ctC_0 rfl) rfl rfl hl.1 rfl (lv_room (Nat.le_of_ble_eq_true rfl)) dX3_abbreviation_58 ⟨Nat.le_of_ble_eq_true rfl, Nat.le_of_ble_eq_true rfl⟩) hS (fun H locs hM hS => ?_)
      exact W.iret hx hb hr (fun t ht hW => ⟨⟨_, _, _, rfl, ⟨rfl, rfl, rfl⟩, by rw [ht]; exact hM⟩, hS.F ht⟩) hS.2.2 dX3_abbreviation_61
    · skip
      exact absurd (by rw [hcz]; decide) c_43
end
section
set_option maxHeartbeats 4000000 in
set_option maxRecDepth 100000 in
theorem c_Hinit (l : Launch) {D : va_G} {aC : Nat → ClassId} {lo : Nat} {ad : Nat → Nat} {ct : Nat → Option va_E} {o : Nat} (ho : o = ad 5) (hob : ct 5 = some (.inr (1, [.null, .null, .int 0]))) (h6 : ct 6 = none) (h7 : ct 7 = none) : Met l yX1_init (wsO yX1_init cX1_init 1 none) ({ frames := 1, cells := 2, slots := 400, locals := 12 } : Room) (mPc D vwCl (tyA aC) lo ad ct [.ref o]) (mQ0 D vwCl lo (fun ad1 ct1 => (∀ k, k ≠ 6 → k ≠ 7 → ad1 k = ad k) ∧ ct1 = va_up (va_up (va_up ct 6 (some (iA aC 200 (fun _ => 0)))) 7 (some (iA aC 200 (fun _ => 0)))) 5 (some (.inr (1, [.ref (ad1 6), .ref (ad1 7), .int 0]))))) 2 400 (fun q => lo ≤ q) := by
  refine Met.ofW (cc := cX1_init) (maxL := 1) (ret := none) (by decide) rfl ?_
  intro pr en s0 mm args below meth cc0 s₁ B hml hv
  obtain ⟨rfl, hlo, hM, hKK⟩ := hv
  have hK := hKK.1
  have hr := B.returns
  have hts := atoms_spec (ws := (wsO yX1_init cX1_init 1 none)) B.pre
  have F : CallFix pr mm cc0 cX1_init 1 s0 (([.ref o] : List Value).toArray) (wsO yX1_init cX1_init 1 none) RX1 := ⟨B.exec, B.bytes, hml, findClass_of_methodNamed B.named, hts⟩
  have hx := F.1
  have hb := F.2.1
  have hlocks := B.notSynchronized
  have hin : meth.name = "<init>" := (name_of_methodNamed B.named B.method).1
  have hS : va_S (fun q => lo ≤ q) s0.heap s0.heap [] := va_S.rf
  have hl := lv_entry ([.ref o]) (n := 1) (Nat.le_of_ble_eq_true rfl)
  rw [lg_entry_eq]
  generalize (lg_sl ([.ref o]) ++ List.replicate (1 - (lg_sl ([.ref o])).length) Slot.unset).toArray = ls at hl ⊢
  have hl : lv_has ls 1 [(0, .ref o)] := hl
  refine lv_aload_n hx hb dX1_init_0 rfl (lv_at hl 0 rfl) ?_
  refine W.objInit hx hb F.2.2.2.1 (F.2.2.2.2 _ (tb_O mlX1_3)) (F.2.2.2.2 _ (tb_O objI)) (F.2.2.2.2 _ (tb_O objC)) rfl (by rw [F.2.2.1]; exact hl.1) rfl dX1_init_1 (Nat.le_of_ble_eq_true rfl) (Nat.le_of_ble_eq_true rfl) ?_
  refine W.eq (g2 := F0 mm 4 ls []) rfl ?_
  refine lv_aload_n hx hb dX1_init_4 rfl (lv_at hl 0 rfl) ?_
  refine lv_sipush (v := (nI 200)) hx hb dX1_init_5 (by decide) ?_
  refine m_newi F (tb_O arrI) hK hM hS hlo 0 rfl 6 h6 (n := 200) (by decide) (Nat.le_of_ble_eq_true rfl) (Nat.le_of_ble_eq_true rfl) dX1_init_8 (fun qa H hM hS => ?_)
  obtain ⟨ad1, had1⟩ : ∃ a, a = va_up ad 6 qa := ⟨_, rfl⟩
  rw [← had1] at hM
  have hqa : qa = ad1 6 := by rw [had1, va_up_self]
  have ho : o = ad1 5 := by rw [had1, va_up_ne _ _ (by decide)]; exact ho
  have hM : mw D vwCl lo ad1 (va_up ct 6 (some (iA aC 200 (fun _ => 0)))) H := hM
  refine W.widen (k := 1) (n := 200) (by omega) (by omega) ?_
  refine m_sv (ho) ?_
  refine m_putF F (ci := 1) (v := .ref qa) (fun w h => tb_O (inX1 w h)) mc_X1 hK hM hS ((va_up_ne _ _ (by decide)).trans hob) 0 (by decide) (tb_O lkX1_9) rfl hin rfl rfl rfl (Nat.le_of_ble_eq_true rfl) dX1_init_10 (fun H locs hM hS => ?_)
  have hM : mw D vwCl lo ad1 (va_up (va_up ct 6 (some (iA aC 200 (fun _ => 0)))) 5 (some (.inr (1, [.ref qa, .null, .int 0])))) H := hM
  refine lv_aload_n hx hb dX1_init_13 rfl (lv_at hl 0 rfl) ?_
  refine lv_sipush (v := (nI 200)) hx hb dX1_init_14 (by decide) ?_
  refine m_newi F (tb_O arrI) hK hM hS hlo 0 rfl 7 (by rw [va_up_ne _ _ (by decide), va_up_ne _ _ (by decide)]; exact h7) (n := 200) (by decide) (Nat.le_of_ble_eq_true rfl) (Nat.le_of_ble_eq_true rfl) dX1_init_17 (fun qb H hM hS => ?_)
  obtain ⟨ad2, had2⟩ : ∃ a, a = va_up ad1 7 qb := ⟨_, rfl⟩
  rw [← had2] at hM
  have hqb : qb = ad2 7 := by rw [had2, va_up_self]
  have ho : o = ad2 5 := by rw [had2, va_up_ne _ _ (by decide)]; exact ho
  have hqa : qa = ad2 6 := by rw [had2, va_up_ne _ _ (by decide)]; exact hqa
  have hM : mw D vwCl lo ad2 (va_up (va_up (va_up ct 6 (some (iA aC 200 (fun _ => 0)))) 5 (some (.inr (1, [.ref qa, .null, .int 0])))) 7 (some (iA aC 200 (fun _ => 0)))) H := hM
  refine W.widen (k := 2) (n := 400) (by omega) (by omega) ?_
  refine m_sv (ho) ?_
  refine m_putF F (ci := 1) (v := .ref qb) (fun w h => tb_O (inX1 w h)) mc_X1 hK hM hS ((va_up_ne _ _ (by decide)).trans (va_up_self _ _ _)) 1 (by decide) (tb_O lkX1_15) rfl hin rfl rfl rfl (Nat.le_of_ble_eq_true rfl) dX1_init_19 (fun H locs hM hS => ?_)
  have hM : mw D vwCl lo ad2 (va_up (va_up (va_up (va_up ct 6 (some (iA aC 200 (fun _ => 0)))) 5 (some (.inr (1, [.ref qa, .null, .int 0])))) 7 (some (iA aC 200 (fun _ => 0)))) 5 (some (.inr (1, [.ref qa, .ref qb, .int 0])))) H := hM
  refine lv_aload_n hx hb dX1_init_22 rfl (lv_at hl 0 rfl) ?_
  refine lv_iconst (v := (nI 0)) hx hb dX1_init_23 (by decide) ?_
  refine m_sv (ho) ?_
  refine m_put F (ci := 1) (v := .int 0) (fun w h => tb_O (inX1 w h)) mc_X1 hK hM hS (va_up_self _ _ _) 2 (by decide) (tb_O lkX1_18) rfl rfl rfl (Nat.le_of_ble_eq_true rfl) dX1_init_24 (fun H locs hM hS => ?_)
  have hM : mw D vwCl lo ad2 (va_up (va_up (va_up (va_up (va_up ct 6 (some (iA aC 200 (fun _ => 0)))) 5 (some (.inr (1, [.ref qa, .null, .int 0])))) 7 (some (iA aC 200 (fun _ => 0)))) 5 (some (.inr (1, [.ref qa, .ref qb, .int 0])))) 5 (some (.inr (1, [.ref qa, .ref qb, .int 0])))) H := hM
  have hfin : ∀ k, k ≠ 6 → k ≠ 7 → ad2 k = ad k := fun k a b => by rw [had2, va_up_ne _ _ b, had1, va_up_ne _ _ a]
  rw [bx_uu, vu_comm (a := 5) (b := 7) (by decide), bx_uu, hqa, hqb] at hM
  exact W.vret hx hb hr (fun t ht hW => ⟨⟨_, _, rfl, ⟨hfin, rfl⟩, by rw [ht]; exact hM⟩, hS.F ht⟩) hS.2.2 dX1_init_27

set_option maxHeartbeats 4000000 in
set_option maxRecDepth 100000 in
theorem c_Einit (l : Launch) {D : va_G} {aC : Nat → ClassId} {lo : Nat} {ad : Nat → Nat} {ct : Nat → Option va_E} {o : Nat} {ke ks : Nat} (ho : o = ad ke) (hob : ct ke = some (.inr (0, [.null, .int 0, .int 0, .int 0, .null, .int 0]))) (hks : ct ks = none) (hne : ke ≠ ks) : Met l yX0_init (wsO yX0_init cX0_init 1 none) ({ frames := 1, cells := 1, slots := 20, locals := 12 } : Room) (mPc D vwCl (tyA aC) lo ad ct [.ref o]) (mQ0 D vwCl lo (fun ad1 ct1 => (∀ k, k ≠ ks → ad1 k = ad k) ∧ ct1 = va_up (va_up ct ks (some (iA aC 20 (fun _ => 0)))) ke (some (.inr (0, [.ref (ad1 ks), .int 0, .int 0, .int 0, .null, .int 0]))))) 1 20 (fun q => lo ≤ q) := by
  refine Met.ofW (cc := cX0_init) (maxL := 1) (ret := none) (by decide) rfl ?_
  intro pr en s0 mm args below meth cc0 s₁ B hml hv
  obtain ⟨rfl, hlo, hM, hKK⟩ := hv
  have hK := hKK.1
  have hr := B.returns
  have hts := atoms_spec (ws := (wsO yX0_init cX0_init 1 none)) B.pre
  have F : CallFix pr mm cc0 cX0_init 1 s0 (([.ref o] : List Value).toArray) (wsO yX0_init cX0_init 1 none) RX0 := ⟨B.exec, B.bytes, hml, findClass_of_methodNamed B.named, hts⟩
  have hx := F.1
  have hb := F.2.1
  have hlocks := B.notSynchronized
  have hin : meth.name = "<init>" := (name_of_methodNamed B.named B.method).1
  have hS : va_S (fun q => lo ≤ q) s0.heap s0.heap [] := va_S.rf
  have hl := lv_entry ([.ref o]) (n := 1) (Nat.le_of_ble_eq_true rfl)
  rw [lg_entry_eq]
  generalize (lg_sl ([.ref o]) ++ List.replicate (1 - (lg_sl ([.ref o])).length) Slot.unset).toArray = ls at hl ⊢
  have hl : lv_has ls 1 [(0, .ref o)] := hl
  refine lv_aload_n hx hb dX0_init_0 rfl (lv_at hl 0 rfl) ?_
  refine W.objInit hx hb F.2.2.2.1 (F.2.2.2.2 _ (tb_O mlX0_3)) (F.2.2.2.2 _ (tb_O objI)) (F.2.2.2.2 _ (tb_O objC)) rfl (by rw [F.2.2.1]; exact hl.1) rfl dX0_init_1 (Nat.le_of_ble_eq_true rfl) (Nat.le_of_ble_eq_true rfl) ?_
  refine W.eq (g2 := F0 mm 4 ls []) rfl ?_
  refine lv_aload_n hx hb dX0_init_4 rfl (lv_at hl 0 rfl) ?_
  refine lv_bipush (v := (nI 20)) hx hb dX0_init_5 (by decide) ?_
  refine m_newi F (tb_O arrI) hK hM hS hlo 0 rfl ks hks (n := 20) (by decide) (Nat.le_of_ble_eq_true rfl) (Nat.le_of_ble_eq_true rfl) dX0_init_7 (fun qa H hM hS => ?_)
  obtain ⟨ad1, had1⟩ : ∃ a, a = va_up ad ks qa := ⟨_, rfl⟩
  rw [← had1] at hM
  have hqa : qa = ad1 ks := by rw [had1, va_up_self]
  have ho : o = ad1 ke := by rw [had1, va_up_ne _ _ hne]; exact ho
  have hM : mw D vwCl lo ad1 (va_up ct ks (some (iA aC 20 (fun _ => 0)))) H := hM
  refine W.widen (k := 1) (n := 20) (by omega) (by omega) ?_
  refine m_sv (ho) ?_
  refine m_putF F (ci := 0) (v := .ref qa) (fun w h => tb_O (inX0 w h)) mc_X0 hK hM hS ((va_up_ne _ _ hne).trans hob) 0 (by decide) (tb_O lkX0_9) rfl hin rfl rfl rfl (Nat.le_of_ble_eq_true rfl) dX0_init_9 (fun H locs hM hS => ?_)
  have hM : mw D vwCl lo ad1 (va_up (va_up ct ks (some (iA aC 20 (fun _ => 0)))) ke (some (.inr (0, [.ref qa, .int 0, .int 0, .int 0, .null, .int 0])))) H := hM
  refine lv_aload_n hx hb dX0_init_12 rfl (lv_at hl 0 rfl) ?_
  refine lv_iconst (v := (nI 0)) hx hb dX0_init_13 (by decide) ?_
  refine m_sv (ho) ?_
  refine m_put F (ci := 0) (v := .int 0) (fun w h => tb_O (inX0 w h)) mc_X0 hK hM hS (va_up_self _ _ _) 1 (by decide) (tb_O lkX0_15) rfl rfl rfl (Nat.le_of_ble_eq_true rfl) dX0_init_14 (fun H locs hM hS => ?_)
  have hM : mw D vwCl lo ad1 (va_up (va_up (va_up ct ks (some (iA aC 20 (fun _ => 0)))) ke (some (.inr (0, [.ref qa, .int 0, .int 0, .int 0, .null, .int 0])))) ke (some (.inr (0, [.ref qa, .int 0, .int 0, .int 0, .null, .int 0])))) H := hM
  refine lv_aload_n hx hb dX0_init_17 rfl (lv_at hl 0 rfl) ?_
  refine lv_iconst (v := (nI 0)) hx hb dX0_init_18 (by decide) ?_
  refine m_sv (ho) ?_
  refine m_put F (ci := 0) (v := .int 0) (fun w h => tb_O (inX0 w h)) mc_X0 hK hM hS (va_up_self _ _ _) 2 (by decide) (tb_O lkX0_19) rfl rfl rfl (Nat.le_of_ble_eq_true rfl) dX0_init_19 (fun H locs hM hS => ?_)
  have hM : mw D vwCl lo ad1 (va_up (va_up (va_up (va_up ct ks (some (iA aC 20 (fun _ => 0)))) ke (some (.inr (0, [.ref qa, .int 0, .int 0, .int 0, .null, .int 0])))) ke (some (.inr (0, [.ref qa, .int 0, .int 0, .int 0, .null, .int 0])))) ke (some (.inr (0, [.ref qa, .int 0, .int 0, .int 0, .null, .int 0])))) H := hM
  refine lv_aload_n hx hb dX0_init_22 rfl (lv_at hl 0 rfl) ?_
  refine lv_iconst (v := (nI 0)) hx hb dX0_init_23 (by decide) ?_
  refine m_sv (ho) ?_
  refine m_put F (ci := 0) (v := .int 0) (fun w h => tb_O (inX0 w h)) mc_X0 hK hM hS (va_up_self _ _ _) 3 (by decide) (tb_O lkX0_22) rfl rfl rfl (Nat.le_of_ble_eq_true rfl) dX0_init_24 (fun H locs hM hS => ?_)
  have hM : mw D vwCl lo ad1 (va_up (va_up (va_up (va_up (va_up ct ks (some (iA aC 20 (fun _ => 0)))) ke (some (.inr (0, [.ref qa, .int 0, .int 0, .int 0, .null, .int 0])))) ke (some (.inr (0, [.ref qa, .int 0, .int 0, .int 0, .null, .int 0])))) ke (some (.inr (0, [.ref qa, .int 0, .int 0, .int 0, .null, .int 0])))) ke (some (.inr (0, [.ref qa, .int 0, .int 0, .int 0, .null, .int 0])))) H := hM
  refine lv_aload_n hx hb dX0_init_27 rfl (lv_at hl 0 rfl) ?_
  refine lv_null hx hb dX0_init_28 ?_
  refine m_sv (ho) ?_
  refine m_put F (ci := 0) (v := .null) (fun w h => tb_O (inX0 w h)) mc_X0 hK hM hS (va_up_self _ _ _) 4 (by decide) (tb_O lkX0_26) rfl rfl rfl (Nat.le_of_ble_eq_true rfl) dX0_init_29 (fun H locs hM hS => ?_)
  have hM : mw D vwCl lo ad1 (va_up (va_up (va_up (va_up (va_up (va_up ct ks (some (iA aC 20 (fun _ => 0)))) ke (some (.inr (0, [.ref qa, .int 0, .int 0, .int 0, .null, .int 0])))) ke (some (.inr (0, [.ref qa, .int 0, .int 0, .int 0, .null, .int 0])))) ke (some (.inr (0, [.ref qa, .int 0, .int 0, .int 0, .null, .int 0])))) ke (some (.inr (0, [.ref qa, .int 0, .int 0, .int 0, .null, .int 0])))) ke (some (.inr (0, [.ref qa, .int 0, .int 0, .int 0, .null, .int 0])))) H := hM
  refine lv_aload_n hx hb dX0_init_32 rfl (lv_at hl 0 rfl) ?_
  refine lv_iconst (v := (nI 0)) hx hb dX0_init_33 (by decide) ?_
  refine m_sv (ho) ?_
  refine m_put F (ci := 0) (v := .int 0) (fun w h => tb_O (inX0 w h)) mc_X0 hK hM hS (va_up_self _ _ _) 5 (by decide) (tb_O lkX0_30) rfl rfl rfl (Nat.le_of_ble_eq_true rfl) dX0_init_34 (fun H locs hM hS => ?_)
  have hM : mw D vwCl lo ad1 (va_up (va_up (va_up (va_up (va_up (va_up (va_up ct ks (some (iA aC 20 (fun _ => 0)))) ke (some (.inr (0, [.ref qa, .int 0, .int 0, .int 0, .null, .int 0])))) ke (some (.inr (0, [.ref qa, .int 0, .int 0, .int 0, .null, .int 0])))) ke (some (.inr (0, [.ref qa, .int 0, .int 0, .int 0, .null, .int 0])))) ke (some (.inr (0, [.ref qa, .int 0, .int 0, .int 0, .null, .int 0])))) ke (some (.inr (0, [.ref qa, .int 0, .int 0, .int 0, .null, .int 0])))) ke (some (.inr (0, [.ref qa, .int 0, .int 0, .int 0, .null, .int 0])))) H := hM
  have hfin : ∀ k, k ≠ ks → ad1 k = ad k := fun k a => by rw [had1, va_up_ne _ _ a]
  rw [bx_uu, bx_uu, bx_uu, bx_uu, bx_uu, hqa] at hM
  exact W.vret hx hb hr (fun t ht hW => ⟨⟨_, _, rfl, ⟨hfin, rfl⟩, by rw [ht]; exact hM⟩, hS.F ht⟩) hS.2.2 dX0_init_37

set_option maxHeartbeats 4000000 in
set_option maxRecDepth 100000 in
theorem c_Rinit (l : Launch) {D : va_G} {aC : Nat → ClassId} {lo : Nat} {ad : Nat → Nat} {ct : Nat → Option va_E} {o : Nat} (ho : o = ad 2) (hob : ct 2 = some (.inr (2, [.null, .null, .int 0]))) (h3 : ct 3 = none) (h4 : ct 4 = none) : Met l yX2_init (wsO yX2_init cX2_init 1 none) ({ frames := 1, cells := 2, slots := 1901, locals := 23 } : Room) (mPc D vwCl (tyA aC) lo ad ct [.ref o]) (mQ0 D vwCl lo (fun ad1 ct1 => (∀ k, k ≠ 3 → k ≠ 4 → ad1 k = ad k) ∧ ct1 = va_up (va_up (va_up ct 3 (some (iA aC 1880 (flI (fun _ => 0) (-1) 1880)))) 4 (some (iA aC 21 (fun _ => 0)))) 2 (some (.inr (2, [.ref (ad1 3), .ref (ad1 4), .int 0]))))) 2 1901 (fun q => lo ≤ q) := by
  refine Met.ofW (cc := cX2_init) (maxL := 1) (ret := none) (by decide) rfl ?_
  intro pr en s0 mm args below meth cc0 s₁ B hml hv
  obtain ⟨rfl, hlo, hM, hKK⟩ := hv
  have hK := hKK.1
  have hr := B.returns
  have hts := atoms_spec (ws := (wsO yX2_init cX2_init 1 none)) B.pre
  have F : CallFix pr mm cc0 cX2_init 1 s0 (([.ref o] : List Value).toArray) (wsO yX2_init cX2_init 1 none) RX2 := ⟨B.exec, B.bytes, hml, findClass_of_methodNamed B.named, hts⟩
  have hx := F.1
  have hb := F.2.1
  have hlocks := B.notSynchronized
  have hin : meth.name = "<init>" := (name_of_methodNamed B.named B.method).1
  have hS : va_S (fun q => lo ≤ q) s0.heap s0.heap [] := va_S.rf
  have hl := lv_entry ([.ref o]) (n := 1) (Nat.le_of_ble_eq_true rfl)
  rw [lg_entry_eq]
  generalize (lg_sl ([.ref o]) ++ List.replicate (1 - (lg_sl ([.ref o])).length) Slot.unset).toArray = ls at hl ⊢
  have hl : lv_has ls 1 [(0, .ref o)] := hl
  refine lv_aload_n hx hb dX2_init_0 rfl (lv_at hl 0 rfl) ?_
  refine W.objInit hx hb F.2.2.2.1 (F.2.2.2.2 _ (tb_O mlX2_3)) (F.2.2.2.2 _ (tb_O objI)) (F.2.2.2.2 _ (tb_O objC)) rfl (by rw [F.2.2.1]; exact hl.1) rfl dX2_init_1 (Nat.le_of_ble_eq_true rfl) (Nat.le_of_ble_eq_true rfl) ?_
  refine W.eq (g2 := F0 mm 4 ls []) rfl ?_
  refine lv_aload_n hx hb dX2_init_4 rfl (lv_at hl 0 rfl) ?_
  refine lv_sipush (v := (nI 1880)) hx hb dX2_init_5 (by decide) ?_
  refine m_newi F (tb_O arrI) hK hM hS hlo 0 rfl 3 h3 (n := 1880) (by decide) (Nat.le_of_ble_eq_true rfl) (Nat.le_of_ble_eq_true rfl) dX2_init_8 (fun qa H hM hS => ?_)
  obtain ⟨ad1, had1⟩ : ∃ a, a = va_up ad 3 qa := ⟨_, rfl⟩
  rw [← had1] at hM
  have hqa : qa = ad1 3 := by rw [had1, va_up_self]
  have ho : o = ad1 2 := by rw [had1, va_up_ne _ _ (by decide)]; exact ho
  have hM : mw D vwCl lo ad1 (va_up ct 3 (some (iA aC 1880 (fun _ => 0)))) H := hM
  refine W.widen (k := 1) (n := 1880) (by omega) (by omega) ?_
  refine m_sv (ho) ?_
  refine m_putF F (ci := 2) (v := .ref qa) (fun w h => tb_O (inX2 w h)) mc_X2 hK hM hS ((va_up_ne _ _ (by decide)).trans hob) 0 (by decide) (tb_O lkX2_11) rfl hin rfl rfl rfl (Nat.le_of_ble_eq_true rfl) dX2_init_10 (fun H locs hM hS => ?_)
  have hM : mw D vwCl lo ad1 (va_up (va_up ct 3 (some (iA aC 1880 (fun _ => 0)))) 2 (some (.inr (2, [.ref qa, .null, .int 0])))) H := hM
  refine lv_aload_n hx hb dX2_init_13 rfl (lv_at hl 0 rfl) ?_
  refine m_tv (ho) ?_
  refine m_get F (ci := 2) (v := .ref qa) (fun w h => tb_O (inX2 w h)) hK hM (va_up_self _ _ _) rfl 0 (by decide) (tb_O lkX2_11) rfl dX2_init_14 ?_
  refine lv_iconst (v := (-1)) hx hb dX2_init_17 (by decide) ?_
  refine m_d0 (ct1 := va_up (va_up (va_up ct 3 (some (iA aC 1880 (fun _ => 0)))) 2 (some (.inr (2, [.ref qa, .null, .int 0])))) 3 (some (iA aC 1880 (flI (fun _ => 0) (-1) 1880)))) (va_runS (As := [.ref qa, .int (-1)]) (rest := []) F (c_fill l (k := 3) hqa ((va_up_ne _ _ (by decide)).trans (va_up_self _ _ _)) (by decide)) (va_cwS 2 F.2.2.2.2 (go_S (fun _ h => tb_O h) mlX2_15 stJ7_fill iniJ7 cdJ7_fill) rfl rfl rfl (by decide +kernel) ⟨Nat.le_of_ble_eq_true rfl, Nat.le_of_ble_eq_true rfl⟩) (mPreS hKK hM (Nat.le_trans hlo hS.1)) rfl rfl hl.1 rfl (lv_room (Nat.le_of_ble_eq_true rfl)) dX2_init_18 ⟨Nat.le_of_ble_eq_true rfl, Nat.le_of_ble_eq_true rfl⟩) hS (fun H locs hM hS => ?_)
  refine lv_aload_n hx hb dX2_init_21 rfl (lv_at hl 0 rfl) ?_
  refine lv_bipush (v := (nI 21)) hx hb dX2_init_22 (by decide) ?_
  refine m_newi F (tb_O arrI) hK hM hS hlo 0 rfl 4 (by rw [va_up_ne _ _ (by decide), va_up_ne _ _ (by decide), va_up_ne _ _ (by decide)]; exact h4) (n := 21) (by decide) (Nat.le_of_ble_eq_true rfl) (Nat.le_of_ble_eq_true rfl) dX2_init_24 (fun qb H hM hS => ?_)
  obtain ⟨ad2, had2⟩ : ∃ a, a = va_up ad1 4 qb := ⟨_, rfl⟩
  rw [← had2] at hM
  have hqb : qb = ad2 4 := by rw [had2, va_up_self]
  have ho : o = ad2 2 := by rw [had2, va_up_ne _ _ (by decide)]; exact ho
  have hqa : qa = ad2 3 := by rw [had2, va_up_ne _ _ (by decide)]; exact hqa
  have hM : mw D vwCl lo ad2 (va_up (va_up (va_up (va_up ct 3 (some (iA aC 1880 (fun _ => 0)))) 2 (some (.inr (2, [.ref qa, .null, .int 0])))) 3 (some (iA aC 1880 (flI (fun _ => 0) (-1) 1880)))) 4 (some (iA aC 21 (fun _ => 0)))) H := hM
  refine W.widen (k := 2) (n := 1901) (by omega) (by omega) ?_
  refine m_sv (ho) ?_
  refine m_putF F (ci := 2) (v := .ref qb) (fun w h => tb_O (inX2 w h)) mc_X2 hK hM hS ((va_up_ne _ _ (by decide)).trans ((va_up_ne _ _ (by decide)).trans (va_up_self _ _ _))) 1 (by decide) (tb_O lkX2_21) rfl hin rfl rfl rfl (Nat.le_of_ble_eq_true rfl) dX2_init_26 (fun H locs hM hS => ?_)
  have hM : mw D vwCl lo ad2 (va_up (va_up (va_up (va_up (va_up ct 3 (some (iA aC 1880 (fun _ => 0)))) 2 (some (.inr (2, [.ref qa, .null, .int 0])))) 3 (some (iA aC 1880 (flI (fun _ => 0) (-1) 1880)))) 4 (some (iA aC 21 (fun _ => 0)))) 2 (some (.inr (2, [.ref qa, .ref qb, .int 0])))) H := hM
  refine lv_aload_n hx hb dX2_init_29 rfl (lv_at hl 0 rfl) ?_
  refine lv_iconst (v := (nI 0)) hx hb dX2_init_30 (by decide) ?_
  refine m_sv (ho) ?_
  refine m_put F (ci := 2) (v := .int 0) (fun w h => tb_O (inX2 w h)) mc_X2 hK hM hS (va_up_self _ _ _) 2 (by decide) (tb_O lkX2_24) rfl rfl rfl (Nat.le_of_ble_eq_true rfl) dX2_init_31 (fun H locs hM hS => ?_)
  have hM : mw D vwCl lo ad2 (va_up (va_up (va_up (va_up (va_up (va_up ct 3 (some (iA aC 1880 (fun _ => 0)))) 2 (some (.inr (2, [.ref qa, .null, .int 0])))) 3 (some (iA aC 1880 (flI (fun _ => 0) (-1) 1880)))) 4 (some (iA aC 21 (fun _ => 0)))) 2 (some (.inr (2, [.ref qa, .ref qb, .int 0])))) 2 (some (.inr (2, [.ref qa, .ref qb, .int 0])))) H := hM
  have hfin : ∀ k, k ≠ 3 → k ≠ 4 → ad2 k = ad k := fun k a b => by rw [had2, va_up_ne _ _ b, had1, va_up_ne _ _ a]
  rw [bx_uu, vu_comm (a := 2) (b := 3) (by decide), vu_comm (a := 2) (b := 4) (by decide), bx_uu, bx_uu, hqa, hqb] at hM
  exact W.vret hx hb hr (fun t ht hW => ⟨⟨_, _, rfl, ⟨hfin, rfl⟩, by rw [ht]; exact hM⟩, hS.F ht⟩) hS.2.2 dX2_init_34
end
section
set_option maxHeartbeats 4000000 in
set_option maxRecDepth 100000 in
theorem c_Winit (l : Launch) {D : va_G} {aC : Nat → ClassId} {lo : Nat} {ad : Nat → Nat} {o : Nat} {X : Nat → Option va_E} (ho : o = ad 0) : Met l yX3_init (wsO yX3_init cX3_init 1 none) ({ frames := 2, cells := 7, slots := 2508, locals := 43 } : Room) (mPc D vwCl (tyA aC) lo ad (ctB X) [.ref o]) (mQ0 D vwCl lo (fun ad1 ct1 => (∀ k, 8 ≤ k → ad1 k = ad k) ∧ ad1 0 = ad 0 ∧ ct1 = ctC aC ad1 0 (-1) (fun _ => (0, 0, false, none, 0)) (fun _ _ => 0) 0 (clC (fun _ => some 0)) (fun _ => 0) 0 (fun _ => 0) (fun _ => 0) X)) 7 2508 (fun q => lo ≤ q) := by
  refine Met.ofW (cc := cX3_init) (maxL := 1) (ret := none) (by decide) rfl ?_
  intro pr en s0 mm args below meth cc0 s₁ B hml hv
  obtain ⟨rfl, hlo, hM, hKK⟩ := hv
  have hK := hKK.1
  have hr := B.returns
  have hts := atoms_spec (ws := (wsO yX3_init cX3_init 1 none)) B.pre
  have F : CallFix pr mm cc0 cX3_init 1 s0 (([.ref o] : List Value).toArray) (wsO yX3_init cX3_init 1 none) RX3 := ⟨B.exec, B.bytes, hml, findClass_of_methodNamed B.named, hts⟩
  have hx := F.1
  have hb := F.2.1
  have hlocks := B.notSynchronized
  have hin : meth.name = "<init>" := (name_of_methodNamed B.named B.method).1
  have hS : va_S (fun q => lo ≤ q) s0.heap s0.heap [] := va_S.rf
  have hl := lv_entry ([.ref o]) (n := 1) (Nat.le_of_ble_eq_true rfl)
  rw [lg_entry_eq]
  generalize (lg_sl ([.ref o]) ++ List.replicate (1 - (lg_sl ([.ref o])).length) Slot.unset).toArray = ls at hl ⊢
  have hl : lv_has ls 1 [(0, .ref o)] := hl
  have ho0 := ho
  refine lv_aload_n hx hb dX3_init_0 rfl (lv_at hl 0 rfl) ?_
  refine W.objInit hx hb F.2.2.2.1 (F.2.2.2.2 _ (tb_O mlX3_1)) (F.2.2.2.2 _ (tb_O objI)) (F.2.2.2.2 _ (tb_O objC)) rfl (by rw [F.2.2.1]; exact hl.1) rfl dX3_init_1 (Nat.le_of_ble_eq_true rfl) (Nat.le_of_ble_eq_true rfl) ?_
  refine W.eq (g2 := F0 mm 4 ls []) rfl ?_
  refine lv_aload_n hx hb dX3_init_4 rfl (lv_at hl 0 rfl) ?_
  refine lv_sipush (v := (nI 201)) hx hb dX3_init_5 (by decide) ?_
  refine m_newq F (C := RX0) (tb_O clX3_9) hKK.2.2 hK hM hS hlo 1 rfl 1 rfl (n := 201) (by decide) (Nat.le_of_ble_eq_true rfl) (Nat.le_of_ble_eq_true rfl) dX3_init_8 (fun qe H hM hS => ?_)
  obtain ⟨ad1, had1⟩ : ∃ a, a = va_up ad 1 qe := ⟨_, rfl⟩
  rw [← had1] at hM
  have hqe : qe = ad1 1 := by rw [had1, va_up_self]
  have ho : o = ad1 0 := by rw [had1, va_up_ne _ _ (by decide)]; exact ho
  have hM : mw D vwCl lo ad1 (va_up (ctB X) 1 (some (qA (aC 1) 201 (fun _ => none)))) H := hM
  refine W.widen (k := 1) (n := 201) (by omega) (by omega) ?_
  refine m_sv (ho) ?_
  refine m_putF F (ci := 3) (v := .ref qe) (fun w h => tb_O (inX3 w h)) mc_X3 hK hM hS ((va_up_ne _ _ (by decide)).trans ctB_0) 0 (by decide) (tb_O lkX3_11) rfl hin rfl rfl rfl (Nat.le_of_ble_eq_true rfl) dX3_init_11 (fun H locs hM hS => ?_)
  have hM : mw D vwCl lo ad1 (va_up (va_up (ctB X) 1 (some (qA (aC 1) 201 (fun _ => none)))) 0 (some (.inr (3, [.ref qe, .int 0, .null, .null, .int 0])))) H := hM
  refine lv_aload_n hx hb dX3_init_14 rfl (lv_at hl 0 rfl) ?_
  refine lv_iconst (v := (nI 0)) hx hb dX3_init_15 (by decide) ?_
  refine m_sv (ho) ?_
  refine m_put F (ci := 3) (v := .int 0) (fun w h => tb_O (inX3 w h)) mc_X3 hK hM hS (va_up_self _ _ _) 1 (by decide) (tb_O lkX3_15) rfl rfl rfl (Nat.le_of_ble_eq_true rfl) dX3_init_16 (fun H locs hM hS => ?_)
  have hM : mw D vwCl lo ad1 (va_up (va_up (va_up (ctB X) 1 (some (qA (aC 1) 201 (fun _ => none)))) 0 (some (.inr (3, [.ref qe, .int 0, .null, .null, .int 0])))) 0 (some (.inr (3, [.ref qe, .int 0, .null, .null, .int 0])))) H := hM
  refine lv_aload_n hx hb dX3_init_19 rfl (lv_at hl 0 rfl) ?_
  refine m_new F (ci := 2) (fs := [.null, .null, .int 0]) (fun w h => tb_O (inX2 w h)) mc_X2 (tb_O clX3_19) (tb_O instX2) (tb_O iniX2) hK hM hS hlo 2 rfl (fun j hj => by rcases (show j = 0 ∨ j = 1 ∨ j = 2 by omega) with rfl | rfl | rfl <;> rfl) (Nat.le_of_ble_eq_true rfl) (Nat.le_of_ble_eq_true rfl) dX3_init_20 (fun qr H hM hS => ?_)
  obtain ⟨ad2, had2⟩ : ∃ a, a = va_up ad1 2 qr := ⟨_, rfl⟩
  rw [← had2] at hM
  have hqr : qr = ad2 2 := by rw [had2, va_up_self]
  have ho : o = ad2 0 := by rw [had2, va_up_ne _ _ (by decide)]; exact ho
  have hqe : qe = ad2 1 := by rw [had2, va_up_ne _ _ (by decide)]; exact hqe
  have hM : mw D vwCl lo ad2 (va_up (va_up (va_up (va_up (ctB X) 1 (some (qA (aC 1) 201 (fun _ => none)))) 0 (some (.inr (3, [.ref qe, .int 0, .null, .null, .int 0])))) 0 (some (.inr (3, [.ref qe, .int 0, .null, .null, .int 0])))) 2 (some (.inr (2, [.null, .null, .int 0])))) H := hM
  refine W.widen (k := 2) (n := 204) (by omega) (by omega) ?_
  refine lv_dup hx hb dX3_init_23 rfl ?_
  refine m_ret0 (va_runI (As := []) (rest := [.ref qr, .ref o]) F (c_Rinit l hqr (va_up_self _ _ _) rfl rfl) (cwI 0 F.2.2.2.2 (go_O (fun _ h => tb_O h) cdX2_init) rfl rfl rfl (F.2.2.2.2 _ (tb_O iniX2)) (F.2.2.2.2 _ (tb_O mlX3_21)) (F.2.2.2.2 _ (tb_O imX2_init)) rfl (by decide +kernel) ⟨Nat.le_of_ble_eq_true rfl, Nat.le_of_ble_eq_true rfl⟩) (mPreS hKK hM (Nat.le_trans hlo hS.1)) rfl rfl hl.1 rfl (lv_room (Nat.le_of_ble_eq_true rfl)) dX3_init_24 ⟨Nat.le_of_ble_eq_true rfl, Nat.le_of_ble_eq_true rfl⟩) hS (fun ad3 ctx H locs hp hM hS => ?_)
  obtain ⟨had3, rfl⟩ := hp
  have ho : o = ad3 0 := by rw [had3 0 (by decide) (by decide)]; exact ho
  have hqe : qe = ad3 1 := by rw [had3 1 (by decide) (by decide)]; exact hqe
  have hqr : qr = ad3 2 := by rw [had3 2 (by decide) (by decide)]; exact hqr
  have hM : mw D vwCl lo ad3 (va_up (va_up (va_up (va_up (va_up (va_up (va_up (ctB X) 1 (some (qA (aC 1) 201 (fun _ => none)))) 0 (some (.inr (3, [.ref qe, .int 0, .null, .null, .int 0])))) 0 (some (.inr (3, [.ref qe, .int 0, .null, .null, .int 0])))) 2 (some (.inr (2, [.null, .null, .int 0])))) 3 (some (iA aC 1880 (flI (fun _ => 0) (-1) 1880)))) 4 (some (iA aC 21 (fun _ => 0)))) 2 (some (.inr (2, [.ref (ad3 3), .ref (ad3 4), .int 0])))) H := hM
  refine W.widen (k := 4) (n := 2105) (by omega) (by omega) ?_
  refine m_sv (ho) ?_
  refine m_putF F (ci := 3) (v := .ref qr) (fun w h => tb_O (inX3 w h)) mc_X3 hK hM hS ((va_up_ne _ _ (by decide)).trans ((va_up_ne _ _ (by decide)).trans ((va_up_ne _ _ (by decide)).trans ((va_up_ne _ _ (by decide)).trans (va_up_self _ _ _))))) 2 (by decide) (tb_O lkX3_22) rfl hin rfl rfl rfl (Nat.le_of_ble_eq_true rfl) dX3_init_27 (fun H locs hM hS => ?_)
  have hM : mw D vwCl lo ad3 (va_up (va_up (va_up (va_up (va_up (va_up (va_up (va_up (ctB X) 1 (some (qA (aC 1) 201 (fun _ => none)))) 0 (some (.inr (3, [.ref qe, .int 0, .null, .null, .int 0])))) 0 (some (.inr (3, [.ref qe, .int 0, .null, .null, .int 0])))) 2 (some (.inr (2, [.null, .null, .int 0])))) 3 (some (iA aC 1880 (flI (fun _ => 0) (-1) 1880)))) 4 (some (iA aC 21 (fun _ => 0)))) 2 (some (.inr (2, [.ref (ad3 3), .ref (ad3 4), .int 0])))) 0 (some (.inr (3, [.ref qe, .int 0, .ref qr, .null, .int 0])))) H := hM
  refine lv_aload_n hx hb dX3_init_30 rfl (lv_at hl 0 rfl) ?_
  refine m_new F (ci := 1) (fs := [.null, .null, .int 0]) (fun w h => tb_O (inX1 w h)) mc_X1 (tb_O clX3_26) (tb_O instX1) (tb_O iniX1) hK hM hS hlo 5 rfl (fun j hj => by rcases (show j = 0 ∨ j = 1 ∨ j = 2 by omega) with rfl | rfl | rfl <;> rfl) (Nat.le_of_ble_eq_true rfl) (Nat.le_of_ble_eq_true rfl) dX3_init_31 (fun qh H hM hS => ?_)
  obtain ⟨ad4, had4⟩ : ∃ a, a = va_up ad3 5 qh := ⟨_, rfl⟩
  rw [← had4] at hM
  have hqh : qh = ad4 5 := by rw [had4, va_up_self]
  have ho : o = ad4 0 := by rw [had4, va_up_ne _ _ (by decide)]; exact ho
  have hqe : qe = ad4 1 := by rw [had4, va_up_ne _ _ (by decide)]; exact hqe
  have hqr : qr = ad4 2 := by rw [had4, va_up_ne _ _ (by decide)]; exact hqr
  have hM : mw D vwCl lo ad4 (va_up (va_up (va_up (va_up (va_up (va_up (va_up (va_up (va_up (ctB X) 1 (some (qA (aC 1) 201 (fun _ => none)))) 0 (some (.inr (3, [.ref qe, .int 0, .null, .null, .int 0])))) 0 (some (.inr (3, [.ref qe, .int 0, .null, .null, .int 0])))) 2 (some (.inr (2, [.null, .null, .int 0])))) 3 (some (iA aC 1880 (flI (fun _ => 0) (-1) 1880)))) 4 (some (iA aC 21 (fun _ => 0)))) 2 (some (.inr (2, [.ref (ad3 3), .ref (ad3 4), .int 0])))) 0 (some (.inr (3, [.ref qe, .int 0, .ref qr, .null, .int 0])))) 5 (some (.inr (1, [.null, .null, .int 0])))) H := hM
  refine W.widen (k := 5) (n := 2108) (by omega) (by omega) ?_
  refine lv_dup hx hb dX3_init_34 rfl ?_
  refine m_ret0 (va_runI (As := []) (rest := [.ref qh, .ref o]) F (c_Hinit l hqh (va_up_self _ _ _) rfl rfl) (cwI 0 F.2.2.2.2 (go_O (fun _ h => tb_O h) cdX1_init) rfl rfl rfl (F.2.2.2.2 _ (tb_O iniX1)) (F.2.2.2.2 _ (tb_O mlX3_28)) (F.2.2.2.2 _ (tb_O imX1_init)) rfl (by decide +kernel) ⟨Nat.le_of_ble_eq_true rfl, Nat.le_of_ble_eq_true rfl⟩) (mPreS hKK hM (Nat.le_trans hlo hS.1)) rfl rfl hl.1 rfl (lv_room (Nat.le_of_ble_eq_true rfl)) dX3_init_35 ⟨Nat.le_of_ble_eq_true rfl, Nat.le_of_ble_eq_true rfl⟩) hS (fun ad5 ctx H locs hp hM hS => ?_)
  obtain ⟨had5, rfl⟩ := hp
  have ho : o = ad5 0 := by rw [had5 0 (by decide) (by decide)]; exact ho
  have hqe : qe = ad5 1 := by rw [had5 1 (by decide) (by decide)]; exact hqe
  have hqr : qr = ad5 2 := by rw [had5 2 (by decide) (by decide)]; exact hqr
  have hqh : qh = ad5 5 := by rw [had5 5 (by decide) (by decide)]; exact hqh
  have hM : mw D vwCl lo ad5 (va_up (va_up (va_up (va_up (va_up (va_up (va_up (va_up (va_up (va_up (va_up (va_up (ctB X) 1 (some (qA (aC 1) 201 (fun _ => none)))) 0 (some (.inr (3, [.ref qe, .int 0, .null, .null, .int 0])))) 0 (some (.inr (3, [.ref qe, .int 0, .null, .null, .int 0])))) 2 (some (.inr (2, [.null, .null, .int 0])))) 3 (some (iA aC 1880 (flI (fun _ => 0) (-1) 1880)))) 4 (some (iA aC 21 (fun _ => 0)))) 2 (some (.inr (2, [.ref (ad3 3), .ref (ad3 4), .int 0])))) 0 (some (.inr (3, [.ref qe, .int 0, .ref qr, .null, .int 0])))) 5 (some (.inr (1, [.null, .null, .int 0])))) 6 (some (iA aC 200 (fun _ => 0)))) 7 (some (iA aC 200 (fun _ => 0)))) 5 (some (.inr (1, [.ref (ad5 6), .ref (ad5 7), .int 0])))) H := hM
  refine W.widen (k := 7) (n := 2508) (by omega) (by omega) ?_
  refine m_sv (ho) ?_
  refine m_putF F (ci := 3) (v := .ref qh) (fun w h => tb_O (inX3 w h)) mc_X3 hK hM hS ((va_up_ne _ _ (by decide)).trans ((va_up_ne _ _ (by decide)).trans ((va_up_ne _ _ (by decide)).trans ((va_up_ne _ _ (by decide)).trans (va_up_self _ _ _))))) 3 (by decide) (tb_O lkX3_29) rfl hin rfl rfl rfl (Nat.le_of_ble_eq_true rfl) dX3_init_38 (fun H locs hM hS => ?_)
  have hM : mw D vwCl lo ad5 (va_up (va_up (va_up (va_up (va_up (va_up (va_up (va_up (va_up (va_up (va_up (va_up (va_up (ctB X) 1 (some (qA (aC 1) 201 (fun _ => none)))) 0 (some (.inr (3, [.ref qe, .int 0, .null, .null, .int 0])))) 0 (some (.inr (3, [.ref qe, .int 0, .null, .null, .int 0])))) 2 (some (.inr (2, [.null, .null, .int 0])))) 3 (some (iA aC 1880 (flI (fun _ => 0) (-1) 1880)))) 4 (some (iA aC 21 (fun _ => 0)))) 2 (some (.inr (2, [.ref (ad3 3), .ref (ad3 4), .int 0])))) 0 (some (.inr (3, [.ref qe, .int 0, .ref qr, .null, .int 0])))) 5 (some (.inr (1, [.null, .null, .int 0])))) 6 (some (iA aC 200 (fun _ => 0)))) 7 (some (iA aC 200 (fun _ => 0)))) 5 (some (.inr (1, [.ref (ad5 6), .ref (ad5 7), .int 0])))) 0 (some (.inr (3, [.ref qe, .int 0, .ref qr, .ref qh, .int 0])))) H := hM
  refine lv_aload_n hx hb dX3_init_41 rfl (lv_at hl 0 rfl) ?_
  refine lv_iconst (v := (-1)) hx hb dX3_init_42 (by decide) ?_
  refine m_sv (ho) ?_
  refine m_put F (ci := 3) (v := .int (-1)) (fun w h => tb_O (inX3 w h)) mc_X3 hK hM hS (va_up_self _ _ _) 4 (by decide) (tb_O lkX3_33) rfl rfl rfl (Nat.le_of_ble_eq_true rfl) dX3_init_43 (fun H locs hM hS => ?_)
  have hM : mw D vwCl lo ad5 (va_up (va_up (va_up (va_up (va_up (va_up (va_up (va_up (va_up (va_up (va_up (va_up (va_up (va_up (ctB X) 1 (some (qA (aC 1) 201 (fun _ => none)))) 0 (some (.inr (3, [.ref qe, .int 0, .null, .null, .int 0])))) 0 (some (.inr (3, [.ref qe, .int 0, .null, .null, .int 0])))) 2 (some (.inr (2, [.null, .null, .int 0])))) 3 (some (iA aC 1880 (flI (fun _ => 0) (-1) 1880)))) 4 (some (iA aC 21 (fun _ => 0)))) 2 (some (.inr (2, [.ref (ad3 3), .ref (ad3 4), .int 0])))) 0 (some (.inr (3, [.ref qe, .int 0, .ref qr, .null, .int 0])))) 5 (some (.inr (1, [.null, .null, .int 0])))) 6 (some (iA aC 200 (fun _ => 0)))) 7 (some (iA aC 200 (fun _ => 0)))) 5 (some (.inr (1, [.ref (ad5 6), .ref (ad5 7), .int 0])))) 0 (some (.inr (3, [.ref qe, .int 0, .ref qr, .ref qh, .int 0])))) 0 (some (.inr (3, [.ref qe, .int 0, .ref qr, .ref qh, .int (-1)])))) H := hM
  have hadN : ∀ k, 8 ≤ k → ad5 k = ad k := fun k hk => by rw [had5 k (by omega) (by omega), had4, va_up_ne _ _ (by omega), had3 k (by omega) (by omega), had2, va_up_ne _ _ (by omega), had1, va_up_ne _ _ (by omega)]
  have hr3 : ad5 3 = ad3 3 := by rw [had5 3 (by decide) (by decide), had4, va_up_ne _ _ (by decide)]
  have hr4 : ad5 4 = ad3 4 := by rw [had5 4 (by decide) (by decide), had4, va_up_ne _ _ (by decide)]
  have ho9 : ad5 0 = ad 0 := by rw [← ho, ho0]
  have hct := ctB_new (aC := aC) (ad := ad5) (X := X) (f := va_up (va_up (va_up (va_up (va_up (va_up (va_up (va_up (va_up (va_up (va_up (va_up (va_up (va_up (ctB X) 1 (some (qA (aC 1) 201 (fun _ => none)))) 0 (some (.inr (3, [.ref qe, .int 0, .null, .null, .int 0])))) 0 (some (.inr (3, [.ref qe, .int 0, .null, .null, .int 0])))) 2 (some (.inr (2, [.null, .null, .int 0])))) 3 (some (iA aC 1880 (flI (fun _ => 0) (-1) 1880)))) 4 (some (iA aC 21 (fun _ => 0)))) 2 (some (.inr (2, [.ref (ad3 3), .ref (ad3 4), .int 0])))) 0 (some (.inr (3, [.ref qe, .int 0, .ref qr, .null, .int 0])))) 5 (some (.inr (1, [.null, .null, .int 0])))) 6 (some (iA aC 200 (fun _ => 0)))) 7 (some (iA aC 200 (fun _ => 0)))) 5 (some (.inr (1, [.ref (ad5 6), .ref (ad5 7), .int 0])))) 0 (some (.inr (3, [.ref qe, .int 0, .ref qr, .ref qh, .int 0])))) 0 (some (.inr (3, [.ref qe, .int 0, .ref qr, .ref qh, .int (-1)])))) (fun k hk => by rw [va_up_ne _ _ (show k ≠ 0 by omega), va_up_ne _ _ (show k ≠ 0 by omega), va_up_ne _ _ (show k ≠ 5 by omega), va_up_ne _ _ (show k ≠ 7 by omega), va_up_ne _ _ (show k ≠ 6 by omega), va_up_ne _ _ (show k ≠ 5 by omega), va_up_ne _ _ (show k ≠ 0 by omega), va_up_ne _ _ (show k ≠ 2 by omega), va_up_ne _ _ (show k ≠ 4 by omega), va_up_ne _ _ (show k ≠ 3 by omega), va_up_ne _ _ (show k ≠ 2 by omega), va_up_ne _ _ (show k ≠ 0 by omega), va_up_ne _ _ (show k ≠ 0 by omega), va_up_ne _ _ (show k ≠ 1 by omega)]) (by rw [va_up_self, hqe, hqr, hqh]) rfl (by rw [hr3, hr4]; rfl) rfl rfl rfl rfl rfl
  rw [hct] at hM
  exact W.vret hx hb hr (fun t ht hW => ⟨⟨_, _, rfl, ⟨hadN, ho9, rfl⟩, by rw [ht]; exact hM⟩, hS.F ht⟩) hS.2.2 dX3_init_46

set_option maxHeartbeats 4000000 in
set_option maxRecDepth 100000 in
theorem c_entryR (l : Launch) {D : va_G} {aC : Nat → ClassId} {lo : Nat} {ad : Nat → Nat} {n : Nat} {gl : Int32} {E : Nat → Ent} {G : Nat → Nat → Nat} {P : Nat} {co : Nat → Option Nat} {lc : Nat → Nat} {hc : Nat} {hn hs : Nat → Nat} {X : Nat → Option va_E} (hnn : n = 200) : Met l yX3_entry (wsO yX3_entry cX3_entry 1 (some .int)) ({ frames := 0, cells := 0, slots := 0, locals := 0 } : Room) (mPc D vwCl (tyA aC) lo ad (ctC aC ad n gl E G P co lc hc hn hs X) [.ref (ad 0)]) (mD1 D vwCl lo (.int (-4)) ad (ctC aC ad n gl E G P co lc hc hn hs X)) 0 0 (fun q => lo ≤ q) := by
  refine Met.ofW (cc := cX3_entry) (maxL := 1) (ret := (some .int)) (by decide) rfl ?_
  intro pr en s0 mm args below meth cc0 s₁ B hml hv
  obtain ⟨rfl, hlo, hM, hKK⟩ := hv
  have hK := hKK.1
  have hr := B.returns
  have hts := atoms_spec (ws := (wsO yX3_entry cX3_entry 1 (some .int))) B.pre
  have F : CallFix pr mm cc0 cX3_entry 1 s0 (([.ref (ad 0)] : List Value).toArray) (wsO yX3_entry cX3_entry 1 (some .int)) RX3 := ⟨B.exec, B.bytes, hml, findClass_of_methodNamed B.named, hts⟩
  have hx := F.1
  have hb := F.2.1
  have hlocks := B.notSynchronized
  have hS : va_S (fun q => lo ≤ q) s0.heap s0.heap [] := va_S.rf
  have hl := lv_entry ([.ref (ad 0)]) (n := 1) (Nat.le_of_ble_eq_true rfl)
  rw [lg_entry_eq]
  generalize (lg_sl ([.ref (ad 0)]) ++ List.replicate (1 - (lg_sl ([.ref (ad 0)])).length) Slot.unset).toArray = ls at hl ⊢
  have hl : lv_has ls 1 [(0, .ref (ad 0))] := hl
  refine lv_aload_n hx hb dX3_entry_0 rfl (lv_at hl 0 rfl) ?_
  refine m_get F (ci := 3) (v := .int (nI n)) (fun w h => tb_O (inX3 w h)) hK hM ctC_0 rfl 1 (by decide) (tb_O lkX3_15) rfl dX3_entry_1 ?_
  refine lv_sipush (v := (nI 200)) hx hb dX3_entry_4 (by decide) ?_
  refine m_icmp_lt F (a := n) (b := 200) (by omega) (by omega) (tgt := 13) dX3_entry_7 (by decide) (fun c_7 => ?_) (fun c_7 => ?_)
  · skip
    exact absurd c_7 (by omega)
  · skip
    refine lv_bipush (v := (-4)) hx hb dX3_entry_10 (by decide) ?_
    exact W.iret hx hb hr (fun t ht hW => ⟨⟨_, _, _, rfl, ⟨rfl, rfl, rfl⟩, by rw [ht]; exact hM⟩, hS.F ht⟩) hS.2.2 dX3_entry_12

set_option maxHeartbeats 4000000 in
set_option maxRecDepth 100000 in
theorem c_entry (l : Launch) {D : va_G} {aC : Nat → ClassId} {lo : Nat} {ad : Nat → Nat} {o : Nat} {n : Nat} {gl : Int32} {E : Nat → Ent} {G : Nat → Nat → Nat} {P : Nat} {co : Nat → Option Nat} {lc : Nat → Nat} {hc : Nat} {hn hs : Nat → Nat} {X : Nat → Option va_E} (ho : o = ad 0) (hnn : n < 200) (hsf : sfOk n E) : Met l yX3_entry (wsO yX3_entry cX3_entry 1 (some .int)) ({ frames := 2, cells := 2, slots := 26, locals := 32 } : Room) (mPc D vwCl (tyA aC) lo ad (ctC aC ad n gl E G P co lc hc hn hs X) [.ref o]) (mQ1 D vwCl lo (fun v ad1 ct1 => v = .int (nI (n + 1)) ∧ (∀ k, k ≠ 2 * (n + 1) + 8 → k ≠ 2 * (n + 1) + 9 → ad1 k = ad k) ∧ ct1 = ctC aC ad1 (n + 1) gl (va_up E (n + 1) (0, 0, false, none, 0)) (va_up G (n + 1) (fun _ => 0)) P co lc hc hn hs X)) 2 26 (fun q => lo ≤ q) := by
  refine Met.ofW (cc := cX3_entry) (maxL := 1) (ret := (some .int)) (by decide) rfl ?_
  intro pr en s0 mm args below meth cc0 s₁ B hml hv
  obtain ⟨rfl, hlo, hM, hKK⟩ := hv
  have hK := hKK.1
  have hr := B.returns
  have hts := atoms_spec (ws := (wsO yX3_entry cX3_entry 1 (some .int))) B.pre
  have F : CallFix pr mm cc0 cX3_entry 1 s0 (([.ref o] : List Value).toArray) (wsO yX3_entry cX3_entry 1 (some .int)) RX3 := ⟨B.exec, B.bytes, hml, findClass_of_methodNamed B.named, hts⟩
  have hx := F.1
  have hb := F.2.1
  have hlocks := B.notSynchronized
  have hS : va_S (fun q => lo ≤ q) s0.heap s0.heap [] := va_S.rf
  have hl := lv_entry ([.ref o]) (n := 1) (Nat.le_of_ble_eq_true rfl)
  rw [lg_entry_eq]
  generalize (lg_sl ([.ref o]) ++ List.replicate (1 - (lg_sl ([.ref o])).length) Slot.unset).toArray = ls at hl ⊢
  have hl : lv_has ls 1 [(0, .ref o)] := hl
  refine lv_aload_n hx hb dX3_entry_0 rfl (lv_at hl 0 rfl) ?_
  refine m_tv (ho) ?_
  refine m_get F (ci := 3) (v := .int (nI n)) (fun w h => tb_O (inX3 w h)) hK hM ctC_0 rfl 1 (by decide) (tb_O lkX3_15) rfl dX3_entry_1 ?_
  refine lv_sipush (v := (nI 200)) hx hb dX3_entry_4 (by decide) ?_
  refine m_icmp_lt F (a := n) (b := 200) (by omega) (by omega) (tgt := 13) dX3_entry_7 (by decide) (fun c_7 => ?_) (fun c_7 => ?_)
  · skip
    refine lv_aload_n hx hb dX3_entry_13 rfl (lv_at hl 0 rfl) ?_
    refine lv_dup hx hb dX3_entry_14 rfl ?_
    refine m_tv (ho) ?_
    refine m_get F (ci := 3) (v := .int (nI n)) (fun w h => tb_O (inX3 w h)) hK hM ctC_0 rfl 1 (by decide) (tb_O lkX3_15) rfl dX3_entry_15 ?_
    refine lv_iconst (v := (nI 1)) hx hb dX3_entry_18 (by decide) ?_
    refine lv_iadd hx hb dX3_entry_19 ?_
    refine m_top (nI_add n 1) ?_
    refine m_sv (ho) ?_
    refine m_put F (ci := 3) (v := .int (nI (n + 1))) (fun w h => tb_O (inX3 w h)) mc_X3 hK hM hS ctC_0 1 (by decide) (tb_O lkX3_15) rfl rfl rfl (Nat.le_of_ble_eq_true rfl) dX3_entry_20 (fun H locs hM hS => ?_)
    have hM : mw D vwCl lo ad (va_up (ctC aC ad n gl E G P co lc hc hn hs X) 0 (some (.inr (3, [.ref (ad 1), .int (nI (n + 1)), .ref (ad 2), .ref (ad 5), .int gl])))) H := hM
    refine lv_aload_n hx hb dX3_entry_23 rfl (lv_at hl 0 rfl) ?_
    refine m_tv (ho) ?_
    refine m_get F (ci := 3) (v := .ref (ad 1)) (fun w h => tb_O (inX3 w h)) hK hM (va_up_self _ _ _) rfl 0 (by decide) (tb_O lkX3_11) rfl dX3_entry_24 ?_
    refine lv_aload_n hx hb dX3_entry_27 rfl (lv_at hl 0 rfl) ?_
    refine m_tv (ho) ?_
    refine m_get F (ci := 3) (v := .int (nI (n + 1))) (fun w h => tb_O (inX3 w h)) hK hM (va_up_self _ _ _) rfl 1 (by decide) (tb_O lkX3_15) rfl dX3_entry_28 ?_
    refine m_new F (ci := 0) (fs := [.null, .int 0, .int 0, .int 0, .null, .int 0]) (fun w h => tb_O (inX0 w h)) mc_X0 (tb_O clX3_9) (tb_O instX0) (tb_O iniX0) hK hM hS hlo (2 * (n + 1) + 8) (by rw [va_up_ne _ _ (by omega)]; exact ctC_free (by omega) (by omega) (by omega)) (fun j hj => by rcases (show j = 0 ∨ j = 1 ∨ j = 2 ∨ j = 3 ∨ j = 4 ∨ j = 5 by omega) with rfl | rfl | rfl | rfl | rfl | rfl <;> rfl) (Nat.le_of_ble_eq_true rfl) (Nat.le_of_ble_eq_true rfl) dX3_entry_31 (fun qe H hM hS => ?_)
    obtain ⟨ad1, had1⟩ : ∃ a, a = va_up ad (2 * (n + 1) + 8) qe := ⟨_, rfl⟩
    rw [← had1] at hM
    have hqe : qe = ad1 (2 * (n + 1) + 8) := by rw [had1, va_up_self]
    have ho : o = ad1 0 := by rw [had1, va_up_ne _ _ (by omega)]; exact ho
    have hM : mw D vwCl lo ad1 (va_up (va_up (ctC aC ad n gl E G P co lc hc hn hs X) 0 (some (.inr (3, [.ref (ad 1), .int (nI (n + 1)), .ref (ad 2), .ref (ad 5), .int gl])))) (2 * (n + 1) + 8) (some (.inr (0, [.null, .int 0, .int 0, .int 0, .null, .int 0])))) H := hM
    refine W.widen (k := 1) (n := 6) (by omega) (by omega) ?_
    refine lv_dup hx hb dX3_entry_34 rfl ?_
    refine m_ret0 (va_runI (As := []) (rest := [.ref qe, .int (nI (n + 1)), .ref (ad 1)]) F (c_Einit l (ks := 2 * (n + 1) + 9) hqe (va_up_self _ _ _) (by rw [va_up_ne _ _ (by omega), va_up_ne _ _ (by omega)]; exact ctC_free (by omega) (by omega) (by omega)) (by omega)) (cwI 0 F.2.2.2.2 (go_O (fun _ h => tb_O h) cdX0_init) rfl rfl rfl (F.2.2.2.2 _ (tb_O iniX0)) (F.2.2.2.2 _ (tb_O mlX3_36)) (F.2.2.2.2 _ (tb_O imX0_init)) rfl (by decide +kernel) ⟨Nat.le_of_ble_eq_true rfl, Nat.le_of_ble_eq_true rfl⟩) (mPreS hKK hM (Nat.le_trans hlo hS.1)) rfl rfl hl.1 rfl (lv_room (Nat.le_of_ble_eq_true rfl)) dX3_entry_35 ⟨Nat.le_of_ble_eq_true rfl, Nat.le_of_ble_eq_true rfl⟩) hS (fun ad2 ctx H locs hp hM hS => ?_)
    obtain ⟨had2, rfl⟩ := hp
    have ho : o = ad2 0 := by rw [had2 0 (by omega)]; exact ho
    have hqe : qe = ad2 (2 * (n + 1) + 8) := by rw [had2 (2 * (n + 1) + 8) (by omega)]; exact hqe
    have hM : mw D vwCl lo ad2 (va_up (va_up (va_up (va_up (ctC aC ad n gl E G P co lc hc hn hs X) 0 (some (.inr (3, [.ref (ad 1), .int (nI (n + 1)), .ref (ad 2), .ref (ad 5), .int gl])))) (2 * (n + 1) + 8) (some (.inr (0, [.null, .int 0, .int 0, .int 0, .null, .int 0])))) (2 * (n + 1) + 9) (some (iA aC 20 (fun _ => 0)))) (2 * (n + 1) + 8) (some (.inr (0, [.ref (ad2 (2 * (n + 1) + 9)), .int 0, .int 0, .int 0, .null, .int 0])))) H := hM
    refine W.widen (k := 2) (n := 26) (by omega) (by omega) ?_
    refine m_val (v' := .ref (ad2 (2 * (n + 1) + 8))) (by rw [hqe]) ?_
    refine m_uv (show ad 1 = ad2 1 by rw [had2 1 (by omega), had1, va_up_ne _ _ (by omega)]) ?_
    refine m_aast F hK hM hS 1 (ci := 0) (r := (RX0, TX0, 6)) rfl rfl (j := n + 1) ((va_up_ne _ _ (by omega)).trans ((va_up_ne _ _ (by omega)).trans ((va_up_ne _ _ (by omega)).trans ((va_up_ne _ _ (by decide)).trans ctC_1)))) (va_up_self _ _ _) (by omega) (by decide) dX3_entry_38 (fun H locs hM hS => ?_)
    have hM : mw D vwCl lo ad2 (va_up (va_up (va_up (va_up (va_up (ctC aC ad n gl E G P co lc hc hn hs X) 0 (some (.inr (3, [.ref (ad 1), .int (nI (n + 1)), .ref (ad 2), .ref (ad 5), .int gl])))) (2 * (n + 1) + 8) (some (.inr (0, [.null, .int 0, .int 0, .int 0, .null, .int 0])))) (2 * (n + 1) + 9) (some (iA aC 20 (fun _ => 0)))) (2 * (n + 1) + 8) (some (.inr (0, [.ref (ad2 (2 * (n + 1) + 9)), .int 0, .int 0, .int 0, .null, .int 0])))) 1 (some (qA (aC 1) 201 (va_up (rowE ad n) (n + 1) (some (ad2 (2 * (n + 1) + 8))))))) H := hM
    refine lv_aload_n hx hb dX3_entry_39 rfl (lv_at hl 0 rfl) ?_
    refine m_tv (ho) ?_
    refine m_get F (ci := 3) (v := .int (nI (n + 1))) (fun w h => tb_O (inX3 w h)) hK hM ((va_up_ne _ _ (by decide)).trans ((va_up_ne _ _ (by omega)).trans ((va_up_ne _ _ (by omega)).trans ((va_up_ne _ _ (by omega)).trans (va_up_self _ _ _))))) rfl 1 (by decide) (tb_O lkX3_15) rfl dX3_entry_40 ?_
    have hadN : ∀ k, k ≠ 2 * (n + 1) + 8 → k ≠ 2 * (n + 1) + 9 → ad2 k = ad k := fun k a b => by rw [had2 k b, had1, va_up_ne _ _ a]
    have hct := ctC_grow (aC := aC) (ad := ad) (ad1 := ad2) (n := n) (gl := gl) (E := E) (G := G) (P := P) (co := co) (lc := lc) (hc := hc) (hn := hn) (hs := hs) (X := X) (f := va_up (va_up (va_up (va_up (va_up (ctC aC ad n gl E G P co lc hc hn hs X) 0 (some (.inr (3, [.ref (ad 1), .int (nI (n + 1)), .ref (ad 2), .ref (ad 5), .int gl])))) (2 * (n + 1) + 8) (some (.inr (0, [.null, .int 0, .int 0, .int 0, .null, .int 0])))) (2 * (n + 1) + 9) (some (iA aC 20 (fun _ => 0)))) (2 * (n + 1) + 8) (some (.inr (0, [.ref (ad2 (2 * (n + 1) + 9)), .int 0, .int 0, .int 0, .null, .int 0])))) 1 (some (qA (aC 1) 201 (va_up (rowE ad n) (n + 1) (some (ad2 (2 * (n + 1) + 8))))))) hadN hnn hsf (by rw [va_up_ne _ _ (by decide), va_up_ne _ _ (by omega), va_up_ne _ _ (by omega), va_up_ne _ _ (by omega), va_up_self]) (va_up_self _ _ _) (by rw [va_up_ne _ _ (by omega), va_up_self]) (by rw [va_up_ne _ _ (by omega), va_up_ne _ _ (by omega), va_up_self]) (fun k a b c e => by rw [va_up_ne _ _ b, va_up_ne _ _ c, va_up_ne _ _ e, va_up_ne _ _ c, va_up_ne _ _ a])
    rw [hct] at hM
    exact W.iret hx hb hr (fun t ht hW => ⟨⟨_, _, _, rfl, ⟨rfl, hadN, rfl⟩, by rw [ht]; exact hM⟩, hS.F ht⟩) hS.2.2 dX3_entry_43
  · skip
    exact absurd c_7 (by omega)

set_option maxHeartbeats 4000000 in
set_option maxRecDepth 100000 in
theorem c_rforget (l : Launch) {D : va_G} {aC : Nat → ClassId} {lo : Nat} {ad : Nat → Nat} {ct : Nat → Option va_E} {P : Nat} {co : Nat → Option Nat} (h2 : ct 2 = some (.inr (2, [.ref (ad 3), .ref (ad 4), .int (nI P)]))) (h3 : ct 3 = some (iA aC 1880 (fun j => cV (co j)))) : Met l yX2_forget (wsO yX2_forget cX2_forget 1 none) ({ frames := 1, cells := 0, slots := 0, locals := 23 } : Room) (mPc D vwCl (tyA aC) lo ad ct [.ref (ad 2)]) (mD0 D vwCl lo ad (va_up (va_up ct 3 (some (iA aC 1880 (fun j => cV (clC co j))))) 2 (some (.inr (2, [.ref (ad 3), .ref (ad 4), .int (nI 0)]))))) 0 0 (fun q => lo ≤ q) := by
  refine Met.ofW (cc := cX2_forget) (maxL := 1) (ret := none) (by decide) rfl ?_
  intro pr en s0 mm args below meth cc0 s₁ B hml hv
  obtain ⟨rfl, hlo, hM, hKK⟩ := hv
  have hK := hKK.1
  have hr := B.returns
  have hts := atoms_spec (ws := (wsO yX2_forget cX2_forget 1 none)) B.pre
  have F : CallFix pr mm cc0 cX2_forget 1 s0 (([.ref (ad 2)] : List Value).toArray) (wsO yX2_forget cX2_forget 1 none) RX2 := ⟨B.exec, B.bytes, hml, findClass_of_methodNamed B.named, hts⟩
  have hx := F.1
  have hb := F.2.1
  have hlocks := B.notSynchronized
  have hS : va_S (fun q => lo ≤ q) s0.heap s0.heap [] := va_S.rf
  have hl := lv_entry ([.ref (ad 2)]) (n := 1) (Nat.le_of_ble_eq_true rfl)
  rw [lg_entry_eq]
  generalize (lg_sl ([.ref (ad 2)]) ++ List.replicate (1 - (lg_sl ([.ref (ad 2)])).length) Slot.unset).toArray = ls at hl ⊢
  have hl : lv_has ls 1 [(0, .ref (ad 2))] := hl
  refine lv_aload_n hx hb dX2_forget_0 rfl (lv_at hl 0 rfl) ?_
  refine m_get F (ci := 2) (v := .ref (ad 3)) (fun w h => tb_O (inX2 w h)) hK hM h2 rfl 0 (by decide) (tb_O lkX2_11) rfl dX2_forget_1 ?_
  refine lv_iconst (v := (-1)) hx hb dX2_forget_4 (by decide) ?_
  refine m_d0 (ct1 := va_up ct 3 (some (iA aC 1880 (flI (fun j => cV (co j)) (-1) 1880)))) (va_runS (As := [.ref (ad 3), .int (-1)]) (rest := []) F (c_fill l (k := 3) rfl h3 (by decide)) (va_cwS 2 F.2.2.2.2 (go_S (fun _ h => tb_O h) mlX2_15 stJ7_fill iniJ7 cdJ7_fill) rfl rfl rfl (by decide +kernel) ⟨Nat.le_of_ble_eq_true rfl, Nat.le_of_ble_eq_true rfl⟩) (mPreS hKK hM (Nat.le_trans hlo hS.1)) rfl rfl hl.1 rfl (lv_room (Nat.le_of_ble_eq_true rfl)) dX2_forget_5 ⟨Nat.le_of_ble_eq_true rfl, Nat.le_of_ble_eq_true rfl⟩) hS (fun H locs hM hS => ?_)
  have hM : mw D vwCl lo ad (va_up ct 3 (some (iA aC 1880 (fun j => cV (clC co j))))) H := by rw [flI_cV] at hM; exact hM
  refine lv_aload_n hx hb dX2_forget_8 rfl (lv_at hl 0 rfl) ?_
  refine lv_iconst (v := (nI 0)) hx hb dX2_forget_9 (by decide) ?_
  refine m_put F (ci := 2) (v := .int (nI 0)) (fun w h => tb_O (inX2 w h)) mc_X2 hK hM hS ((va_up_ne _ _ (by decide)).trans h2) 2 (by decide) (tb_O lkX2_24) rfl rfl rfl (Nat.le_of_ble_eq_true rfl) dX2_forget_10 (fun H locs hM hS => ?_)
  have hM : mw D vwCl lo ad (va_up (va_up ct 3 (some (iA aC 1880 (fun j => cV (clC co j))))) 2 (some (.inr (2, [.ref (ad 3), .ref (ad 4), .int (nI 0)])))) H := hM
  exact W.vret hx hb hr (fun t ht hW => ⟨⟨_, _, rfl, ⟨rfl, rfl⟩, by rw [ht]; exact hM⟩, hS.F ht⟩) hS.2.2 dX2_forget_13

set_option maxHeartbeats 4000000 in
set_option maxRecDepth 100000 in
theorem c_clear (l : Launch) {D : va_G} {aC : Nat → ClassId} {lo : Nat} {ad : Nat → Nat} {n : Nat} {gl : Int32} {E : Nat → Ent} {G : Nat → Nat → Nat} {P : Nat} {co : Nat → Option Nat} {lc : Nat → Nat} {hc : Nat} {hn hs : Nat → Nat} {X : Nat → Option va_E}  : Met l yX3_clear (wsO yX3_clear cX3_clear 2 (some .int)) ({ frames := 2, cells := 0, slots := 0, locals := 43 } : Room) (mPc D vwCl (tyA aC) lo ad (ctC aC ad n gl E G P co lc hc hn hs X) [.ref (ad 0)]) (mD1 D vwCl lo (.int (nI P)) ad (ctC aC ad n gl E G 0 (clC co) lc hc hn hs X)) 0 0 (fun q => lo ≤ q) := by
  refine Met.ofW (cc := cX3_clear) (maxL := 2) (ret := (some .int)) (by decide) rfl ?_
  intro pr en s0 mm args below meth cc0 s₁ B hml hv
  obtain ⟨rfl, hlo, hM, hKK⟩ := hv
  have hK := hKK.1
  have hr := B.returns
  have hts := atoms_spec (ws := (wsO yX3_clear cX3_clear 2 (some .int))) B.pre
  have F : CallFix pr mm cc0 cX3_clear 2 s0 (([.ref (ad 0)] : List Value).toArray) (wsO yX3_clear cX3_clear 2 (some .int)) RX3 := ⟨B.exec, B.bytes, hml, findClass_of_methodNamed B.named, hts⟩
  have hx := F.1
  have hb := F.2.1
  have hlocks := B.notSynchronized
  have hS : va_S (fun q => lo ≤ q) s0.heap s0.heap [] := va_S.rf
  have hl := lv_entry ([.ref (ad 0)]) (n := 2) (Nat.le_of_ble_eq_true rfl)
  rw [lg_entry_eq]
  generalize (lg_sl ([.ref (ad 0)]) ++ List.replicate (2 - (lg_sl ([.ref (ad 0)])).length) Slot.unset).toArray = ls at hl ⊢
  have hl : lv_has ls 2 [(0, .ref (ad 0))] := hl
  refine lv_aload_n hx hb dX3_clear_0 rfl (lv_at hl 0 rfl) ?_
  refine m_get F (ci := 3) (v := .ref (ad 2)) (fun w h => tb_O (inX3 w h)) hK hM ctC_0 rfl 2 (by decide) (tb_O lkX3_22) rfl dX3_clear_1 ?_
  refine m_get F (ci := 2) (v := .int (nI P)) (fun w h => tb_O (inX2 w h)) hK hM ctC_2 rfl 2 (by decide) (tb_O lkX3_67) rfl dX3_clear_4 ?_
  refine lv_istore_n (lv' := [(1, .int (nI P)), (0, .ref (ad 0))]) hx hb dX3_clear_7 rfl hl (by decide) rfl (fun ls hl => ?_)
  refine lv_aload_n hx hb dX3_clear_8 rfl (lv_at hl 1 rfl) ?_
  refine m_get F (ci := 3) (v := .ref (ad 2)) (fun w h => tb_O (inX3 w h)) hK hM ctC_0 rfl 2 (by decide) (tb_O lkX3_22) rfl dX3_clear_9 ?_
  refine m_d0 (ct1 := va_up (va_up (ctC aC ad n gl E G P co lc hc hn hs X) 3 (some (iA aC 1880 (fun j => cV (clC co j))))) 2 (some (.inr (2, [.ref (ad 3), .ref (ad 4), .int (nI 0)])))) (va_runV (As := []) (rest := []) F (c_rforget l ctC_2 ctC_3) (cwV 0 F.2.2.2.2 (go_V (fun _ h => tb_O h) mlX3_70 imX2_forget seX2_forget iniX2 cdX2_forget) rfl rfl rfl (by decide +kernel) ⟨Nat.le_of_ble_eq_true rfl, Nat.le_of_ble_eq_true rfl⟩) (mPreV hKK hM (Nat.le_trans hlo hS.1) ctC_2 rfl) rfl rfl hl.1 rfl (lv_room (Nat.le_of_ble_eq_true rfl)) dX3_clear_12 ⟨Nat.le_of_ble_eq_true rfl, Nat.le_of_ble_eq_true rfl⟩) hS (fun H locs hM hS => ?_)
  have hM : mw D vwCl lo ad (ctC aC ad n gl E G 0 (clC co) lc hc hn hs X) H := by rw [ctC_co, ctC_P] at hM; exact hM
  refine lv_iload_n hx hb dX3_clear_15 rfl (lv_at hl 0 rfl) ?_
  exact W.iret hx hb hr (fun t ht hW => ⟨⟨_, _, _, rfl, ⟨rfl, rfl, rfl⟩, by rw [ht]; exact hM⟩, hS.F ht⟩) hS.2.2 dX3_clear_16
end
section
/-! rows of truths -/
theorem upd_bI {f : Nat → Bool} {k : Nat} {b : Bool} : upd (fun j => bI (f j)) k (bI b) = fun j => bI (va_up f k b j) := by
  funext j
  by_cases h : j = k
  · subst h; simp [upd, va_up]
  · simp [upd, va_up, h]
theorem upd_cN {f : Nat → Option Nat} {k : Nat} : upd (fun j => cV (f j)) k (-1) = fun j => cV (va_up f k none j) := by
  funext j
  by_cases h : j = k
  · subst h; simp [upd, va_up, cV]
  · simp [upd, va_up, h]
theorem nar_bI (b : Bool) : vp_nar .boolean (bI b) = bI b := by cases b <;> decide +kernel
section MZ
variable {p : Program} {l : Launch} {e : Env} {R : Room} {s : State} {m : MethodId} {args : Array Value} {below : List Frame} {meth : Method} {c : Code} {H : Heap} {locs : List Loc} {cells slots : Nat} {Q : State → Prop}
variable {cc : ByteArray} {pc nL : Nat} {ls : Array Slot} {rest : List Value} {D : va_G} {cl : List vw_C} {tys : List (ClassId × FieldType)} {H0 : Heap} {lo : Nat} {ad : Nat → Nat} {ct : Nat → Option va_E} {Ts : List Cond} {own : String}
theorem m_zald (F : CallFix p m c cc nL s args Ts own) (hK : va_K D cl tys s) (hM : mw D cl lo ad ct H) (t0 : Nat) {cA : ClassId} (ht : tys[t0]? = some (cA, .boolean)) {k n j : Nat} {f : Nat → Int32} (he : ct k = some (.inl (cA, n, .inl f))) (hj : j < n) (hn : n < 2 ^ 31) (hdg : decode cc pc = .ok (.baload, 1))
    (kk : W p l e R s m args below meth c H locs cells slots Q (F0 m (pc + 1) ls (.int (f j) :: rest))) : W p l e R s m args below meth c H locs cells slots Q (F0 m pc ls (.int (nI j) :: .ref (ad k) :: rest)) :=
  va_zald F.1 F.2.1 hK (hM.P he) 0 t0 rfl ht (vp_in_nI hj hn) hdg (by rw [nI_clamp (Nat.lt_trans hj hn)]; exact kk)
theorem m_zast (F : CallFix p m c cc nL s args Ts own) (hK : va_K D cl tys s) (hM : mw D cl lo ad ct H) (hS : va_S (fun q => lo ≤ q) H0 H locs) (t0 : Nat) {cA : ClassId} (ht : tys[t0]? = some (cA, .boolean)) {k n j : Nat} {f : Nat → Int32} {b : Bool} {x : Int32} (he : ct k = some (.inl (cA, n, .inl f))) (hj : j < n) (hn : n < 2 ^ 31) (hdg : decode cc pc = .ok (.bastore, 1)) 
    (kk : ∀ (H1 : Heap) (locs1 : List Loc), mw D cl lo ad (va_up ct k (some (.inl (cA, n, .inl (upd f j (bI b)))))) H1 → va_S (fun q => lo ≤ q) H0 H1 locs1 → W p l e R s m args below meth c H1 locs1 cells slots Q (F0 m (pc + 1) ls rest)) (hb : x = bI b := by rfl) : W p l e R s m args below meth c H locs cells slots Q (F0 m pc ls (.int x :: .int (nI j) :: .ref (ad k) :: rest)) := by
  subst hb
  have hcl : (nI j).toNatClampNeg = j := nI_clamp (Nat.lt_trans hj hn)
  have hin : vp_in (nI j) n := vp_in_nI hj hn
  refine W.zast F.1 F.2.1 (hM.1 k _ he).1 ((hK.2 t0 _ ht).1 n (fun j => .int (f j))) (fun q => by cases q) (by show ¬ (nI j < 0 ∨ (arrV _ _ _).slots.size ≤ _); rw [arrV_size]; exact hin) rfl rfl hdg fun H1 e z oq => ?_
  refine kk H1 _ (hM.set he ?_ oq) (hS.put z oq (hM.1 k _ he).2)
  show H1[ad k]? = some (vp_cell _ _)
  rw [e]
  rw [vp_cell_i, vp_cell_i, arrV_store]
  congr 2
  funext q
  rw [hcl]
  have hna := nar_bI b
  by_cases hq : q = j
  · subst hq
    simp only [updV, upd, if_true]
    unfold vp_nar at hna
    cases b <;> rfl
  · simp [updV, upd, hq]
theorem m_newz (F : CallFix p m c cc nL s args Ts own) (harr : Cond.arrayClass .boolean ∈ Ts) (hK : va_K D cl tys s) (hM : mw D cl lo ad ct H) (hS : va_S (fun q => lo ≤ q) H0 H locs) (hlo : lo ≤ H0.size) (t0 : Nat) {cA : ClassId} (ht : tys[t0]? = some (cA, .boolean)) (k : Nat) (hk : ct k = none) {n : Nat} (hn : n ≤ 100000) (hcells : cells + 1 ≤ R.cells) (hslots : slots + n ≤ R.slots) (hdg : decode cc pc = .ok (.newarray .boolean, 2))
    (kk : ∀ (q : Nat) (H1 : Heap), mw D cl lo (va_up ad k q) (va_up ct k (some (.inl (cA, n, .inl (fun _ => bI false))))) H1 → va_S (fun q => lo ≤ q) H0 H1 locs → W p l e R s m args below meth c H1 locs (cells + 1) (slots + n) Q (F0 m (pc + 2) ls (.ref q :: rest))) : W p l e R s m args below meth c H locs cells slots Q (F0 m pc ls (.int (nI n) :: rest)) := by
  refine va_newaK (atype := .boolean) F.1 F.2.1 (F.2.2.2.2 _ harr) rfl hdg rfl (nI_pos (by omega)) (nI_clamp (by omega)) (by show n * 1 ≤ 536870912; omega) hcells hslots rfl fun H1 cB e1 z1 o1 hAr hNm => ?_
  have hR : s.vm.findClass ("[" ++ FieldType.boolean.toString) = some cA := (hK.2 t0 _ ht).2
  have hcc : cB = cA := Option.some.inj (hNm.symm.trans hR)
  subst hcc
  refine kk H.size H1 (hM.push hk (Nat.le_trans hlo hS.1) ?_ o1) ⟨Nat.le_trans hS.1 (by omega), fun x h1 h2 => (o1 x (Nat.lt_of_lt_of_le h1 hS.1)).trans (hS.2.1 x h1 h2), hS.2.2⟩
  show H1[H.size]? = some (vp_cell _ _)
  rw [e1]
  rfl
end MZ
/-! THE REFERENCE'S STATE in the memory: its object at index 1000, its rows from 1001 on; below 1000: the others' cells. -/
def ctM (aC : Nat → ClassId) (ad : Nat → Nat) (n : Nat) (th : Nat → Bool) (sz : Nat → Nat) (sg : Nat → Nat) (me : Nat → Nat) (gr : Nat → Int32) (lk : Int32) (P : Nat) (co : Nat → Option Nat) (tb : Nat → Nat) (fd : Nat) (wd : Nat → Nat) (sm : Nat → Nat) (rc : Nat → Nat) (X : Nat → Option va_E) : Nat → Option va_E := fun k =>
  if k < 1000 then X k
  else if k = 1000 then some (.inr (4, [.int (nI n), .ref (ad 1001), .ref (ad 1002), .ref (ad 1003), .ref (ad 1004), .ref (ad 1005), .int lk, .int (nI P), .ref (ad 1006), .ref (ad 1007), .int (nI fd), .ref (ad 1008), .ref (ad 1009), .ref (ad 1010)]))
  else if k = 1001 then some (.inl (aC 2, 201, .inl (fun j => bI (th j))))
  else if k = 1002 then some (.inl (aC 0, 201, .inl (fun j => nI (sz j))))
  else if k = 1003 then some (.inl (aC 0, 4020, .inl (fun j => nI (sg j))))
  else if k = 1004 then some (.inl (aC 0, 201, .inl (fun j => nI (me j))))
  else if k = 1005 then some (.inl (aC 0, 201, .inl (gr)))
  else if k = 1006 then some (.inl (aC 0, 2560, .inl (fun j => cV (co j))))
  else if k = 1007 then some (.inl (aC 0, 441, .inl (fun j => nI (tb j))))
  else if k = 1008 then some (.inl (aC 0, 200, .inl (fun j => nI (wd j))))
  else if k = 1009 then some (.inl (aC 0, 200, .inl (fun j => nI (sm j))))
  else if k = 1010 then some (.inl (aC 0, 201, .inl (fun j => nI (rc j))))
  else none
section CTM
variable {aC : Nat → ClassId} {ad : Nat → Nat} {n : Nat} {th : Nat → Bool} {sz : Nat → Nat} {sg : Nat → Nat} {me : Nat → Nat} {gr : Nat → Int32} {lk : Int32} {P : Nat} {co : Nat → Option Nat} {tb : Nat → Nat} {fd : Nat} {wd : Nat → Nat} {sm : Nat → Nat} {rc : Nat → Nat} {X : Nat → Option va_E}
theorem ctM_o : ctM aC ad n th sz sg me gr lk P co tb fd wd sm rc X 1000 = some (.inr (4, [.int (nI n), .ref (ad 1001), .ref (ad 1002), .ref (ad 1003), .ref (ad 1004), .ref (ad 1005), .int lk, .int (nI P), .ref (ad 1006), .ref (ad 1007), .int (nI fd), .ref (ad 1008), .ref (ad 1009), .ref (ad 1010)])) := rfl
theorem ctM_ath : ctM aC ad n th sz sg me gr lk P co tb fd wd sm rc X 1001 = some (.inl (aC 2, 201, .inl (fun j => bI (th j)))) := rfl
theorem ctM_asz : ctM aC ad n th sz sg me gr lk P co tb fd wd sm rc X 1002 = some (.inl (aC 0, 201, .inl (fun j => nI (sz j)))) := rfl
theorem ctM_asg : ctM aC ad n th sz sg me gr lk P co tb fd wd sm rc X 1003 = some (.inl (aC 0, 4020, .inl (fun j => nI (sg j)))) := rfl
theorem ctM_ame : ctM aC ad n th sz sg me gr lk P co tb fd wd sm rc X 1004 = some (.inl (aC 0, 201, .inl (fun j => nI (me j)))) := rfl
theorem ctM_agr : ctM aC ad n th sz sg me gr lk P co tb fd wd sm rc X 1005 = some (.inl (aC 0, 201, .inl (gr))) := rfl
theorem ctM_aco : ctM aC ad n th sz sg me gr lk P co tb fd wd sm rc X 1006 = some (.inl (aC 0, 2560, .inl (fun j => cV (co j)))) := rfl
theorem ctM_atb : ctM aC ad n th sz sg me gr lk P co tb fd wd sm rc X 1007 = some (.inl (aC 0, 441, .inl (fun j => nI (tb j)))) := rfl
theorem ctM_awd : ctM aC ad n th sz sg me gr lk P co tb fd wd sm rc X 1008 = some (.inl (aC 0, 200, .inl (fun j => nI (wd j)))) := rfl
theorem ctM_asm : ctM aC ad n th sz sg me gr lk P co tb fd wd sm rc X 1009 = some (.inl (aC 0, 200, .inl (fun j => nI (sm j)))) := rfl
theorem ctM_arc : ctM aC ad n th sz sg me gr lk P co tb fd wd sm rc X 1010 = some (.inl (aC 0, 201, .inl (fun j => nI (rc j)))) := rfl
theorem ctM_x {k : Nat} (h : k < 1000) : ctM aC ad n th sz sg me gr lk P co tb fd wd sm rc X k = X k := if_pos h
theorem ctM_n {z : Nat} : va_up (ctM aC ad n th sz sg me gr lk P co tb fd wd sm rc X) 1000 (some (.inr (4, [.int (nI z), .ref (ad 1001), .ref (ad 1002), .ref (ad 1003), .ref (ad 1004), .ref (ad 1005), .int lk, .int (nI P), .ref (ad 1006), .ref (ad 1007), .int (nI fd), .ref (ad 1008), .ref (ad 1009), .ref (ad 1010)]))) = ctM aC ad z th sz sg me gr lk P co tb fd wd sm rc X := by
  funext k
  by_cases hk : k = 1000
  · subst hk; rw [va_up_self]; rfl
  · rw [va_up_ne _ _ hk]; unfold ctM; rw [if_neg hk, if_neg hk]
theorem ctM_th {z : Nat → Bool} : va_up (ctM aC ad n th sz sg me gr lk P co tb fd wd sm rc X) 1001 (some (.inl (aC 2, 201, .inl (fun j => bI (z j))))) = ctM aC ad n z sz sg me gr lk P co tb fd wd sm rc X := by
  funext k
  by_cases hk : k = 1001
  · subst hk; rw [va_up_self]; rfl
  · rw [va_up_ne _ _ hk]; unfold ctM; rw [if_neg hk, if_neg hk]
theorem ctM_sz {z : Nat → Nat} : va_up (ctM aC ad n th sz sg me gr lk P co tb fd wd sm rc X) 1002 (some (.inl (aC 0, 201, .inl (fun j => nI (z j))))) = ctM aC ad n th z sg me gr lk P co tb fd wd sm rc X := by
  funext k
  by_cases hk : k = 1002
  · subst hk; rw [va_up_self]; rfl
  · rw [va_up_ne _ _ hk]; unfold ctM; rw [if_neg hk, if_neg hk]
theorem ctM_sg {z : Nat → Nat} : va_up (ctM aC ad n th sz sg me gr lk P co tb fd wd sm rc X) 1003 (some (.inl (aC 0, 4020, .inl (fun j => nI (z j))))) = ctM aC ad n th sz z me gr lk P co tb fd wd sm rc X := by
  funext k
  by_cases hk : k = 1003
  · subst hk; rw [va_up_self]; rfl
  · rw [va_up_ne _ _ hk]; unfold ctM; rw [if_neg hk, if_neg hk]
theorem ctM_me {z : Nat → Nat} : va_up (ctM aC ad n th sz sg me gr lk P co tb fd wd sm rc X) 1004 (some (.inl (aC 0, 201, .inl (fun j => nI (z j))))) = ctM aC ad n th sz sg z gr lk P co tb fd wd sm rc X := by
  funext k
  by_cases hk : k = 1004
  · subst hk; rw [va_up_self]; rfl
  · rw [va_up_ne _ _ hk]; unfold ctM; rw [if_neg hk, if_neg hk]
theorem ctM_gr {z : Nat → Int32} : va_up (ctM aC ad n th sz sg me gr lk P co tb fd wd sm rc X) 1005 (some (.inl (aC 0, 201, .inl (z)))) = ctM aC ad n th sz sg me z lk P co tb fd wd sm rc X := by
  funext k
  by_cases hk : k = 1005
  · subst hk; rw [va_up_self]; rfl
  · rw [va_up_ne _ _ hk]; unfold ctM; rw [if_neg hk, if_neg hk]
theorem ctM_lk {z : Int32} : va_up (ctM aC ad n th sz sg me gr lk P co tb fd wd sm rc X) 1000 (some (.inr (4, [.int (nI n), .ref (ad 1001), .ref (ad 1002), .ref (ad 1003), .ref (ad 1004), .ref (ad 1005), .int z, .int (nI P), .ref (ad 1006), .ref (ad 1007), .int (nI fd), .ref (ad 1008), .ref (ad 1009), .ref (ad 1010)]))) = ctM aC ad n th sz sg me gr z P co tb fd wd sm rc X := by
  funext k
  by_cases hk : k = 1000
  · subst hk; rw [va_up_self]; rfl
  · rw [va_up_ne _ _ hk]; unfold ctM; rw [if_neg hk, if_neg hk]
theorem ctM_P {z : Nat} : va_up (ctM aC ad n th sz sg me gr lk P co tb fd wd sm rc X) 1000 (some (.inr (4, [.int (nI n), .ref (ad 1001), .ref (ad 1002), .ref (ad 1003), .ref (ad 1004), .ref (ad 1005), .int lk, .int (nI z), .ref (ad 1006), .ref (ad 1007), .int (nI fd), .ref (ad 1008), .ref (ad 1009), .ref (ad 1010)]))) = ctM aC ad n th sz sg me gr lk z co tb fd wd sm rc X := by
  funext k
  by_cases hk : k = 1000
  · subst hk; rw [va_up_self]; rfl
  · rw [va_up_ne _ _ hk]; unfold ctM; rw [if_neg hk, if_neg hk]
theorem ctM_co {z : Nat → Option Nat} : va_up (ctM aC ad n th sz sg me gr lk P co tb fd wd sm rc X) 1006 (some (.inl (aC 0, 2560, .inl (fun j => cV (z j))))) = ctM aC ad n th sz sg me gr lk P z tb fd wd sm rc X := by
  funext k
  by_cases hk : k = 1006
  · subst hk; rw [va_up_self]; rfl
  · rw [va_up_ne _ _ hk]; unfold ctM; rw [if_neg hk, if_neg hk]
theorem ctM_tb {z : Nat → Nat} : va_up (ctM aC ad n th sz sg me gr lk P co tb fd wd sm rc X) 1007 (some (.inl (aC 0, 441, .inl (fun j => nI (z j))))) = ctM aC ad n th sz sg me gr lk P co z fd wd sm rc X := by
  funext k
  by_cases hk : k = 1007
  · subst hk; rw [va_up_self]; rfl
  · rw [va_up_ne _ _ hk]; unfold ctM; rw [if_neg hk, if_neg hk]
theorem ctM_fd {z : Nat} : va_up (ctM aC ad n th sz sg me gr lk P co tb fd wd sm rc X) 1000 (some (.inr (4, [.int (nI n), .ref (ad 1001), .ref (ad 1002), .ref (ad 1003), .ref (ad 1004), .ref (ad 1005), .int lk, .int (nI P), .ref (ad 1006), .ref (ad 1007), .int (nI z), .ref (ad 1008), .ref (ad 1009), .ref (ad 1010)]))) = ctM aC ad n th sz sg me gr lk P co tb z wd sm rc X := by
  funext k
  by_cases hk : k = 1000
  · subst hk; rw [va_up_self]; rfl
  · rw [va_up_ne _ _ hk]; unfold ctM; rw [if_neg hk, if_neg hk]
theorem ctM_wd {z : Nat → Nat} : va_up (ctM aC ad n th sz sg me gr lk P co tb fd wd sm rc X) 1008 (some (.inl (aC 0, 200, .inl (fun j => nI (z j))))) = ctM aC ad n th sz sg me gr lk P co tb fd z sm rc X := by
  funext k
  by_cases hk : k = 1008
  · subst hk; rw [va_up_self]; rfl
  · rw [va_up_ne _ _ hk]; unfold ctM; rw [if_neg hk, if_neg hk]
theorem ctM_sm {z : Nat → Nat} : va_up (ctM aC ad n th sz sg me gr lk P co tb fd wd sm rc X) 1009 (some (.inl (aC 0, 200, .inl (fun j => nI (z j))))) = ctM aC ad n th sz sg me gr lk P co tb fd wd z rc X := by
  funext k
  by_cases hk : k = 1009
  · subst hk; rw [va_up_self]; rfl
  · rw [va_up_ne _ _ hk]; unfold ctM; rw [if_neg hk, if_neg hk]
theorem ctM_rc {z : Nat → Nat} : va_up (ctM aC ad n th sz sg me gr lk P co tb fd wd sm rc X) 1010 (some (.inl (aC 0, 201, .inl (fun j => nI (z j))))) = ctM aC ad n th sz sg me gr lk P co tb fd wd sm z X := by
  funext k
  by_cases hk : k = 1010
  · subst hk; rw [va_up_self]; rfl
  · rw [va_up_ne _ _ hk]; unfold ctM; rw [if_neg hk, if_neg hk]
end CTM
end
section
/-! WHAT THE REFERENCE'S METHODS ANSWER AND DO -/
def btw (v a b : Int32) : Bool := !decide (v < a) && !decide (b < v)
theorem btw_in {n : Nat} {x : Int32} (h : btw x (nI 1) (nI n) = true) (h200 : n ≤ 200) : ∃ j : Nat, 1 ≤ j ∧ j ≤ n ∧ x = nI j := by
  simp only [btw, Bool.and_eq_true, Bool.not_eq_true', decide_eq_false_iff_not] at h
  exact cLiv_in h.1 h.2 h200
theorem btw_nI {a b v : Nat} (h1 : a ≤ v) (h2 : v ≤ b) (hb : b < 2 ^ 31) : btw (nI v) (nI a) (nI b) = true := by
  simp only [btw, Bool.and_eq_true, Bool.not_eq_true', decide_eq_false_iff_not]
  exact ⟨nI_nlt h1 (by omega), nI_nlt h2 hb⟩
def isE (n : Nat) (th : Nat → Bool) (x : Int32) : Bool := btw x (nI 1) (nI n) && th x.toNatClampNeg
theorem isE_nI {n : Nat} {th : Nat → Bool} {j : Nat} (h1 : 1 ≤ j) (h2 : j ≤ n) (h200 : n ≤ 200) : isE n th (nI j) = th j := by
  unfold isE
  rw [btw_nI h1 h2 (by omega), nI_clamp (by omega)]
  rfl
/-- what stood for j stands for itself, up to i -/
def drM (me : Nat → Nat) (j i : Nat) : Nat → Nat := fun a => if 1 ≤ a ∧ a ≤ i ∧ me a = j then 0 else me a
theorem drM_0 {me : Nat → Nat} {j : Nat} : drM me j 0 = me := by
  funext a
  unfold drM
  rw [if_neg (by omega)]
theorem drM_at {me : Nat → Nat} {j i : Nat} : drM me j i (i + 1) = me (i + 1) := by
  unfold drM
  rw [if_neg (by omega)]
theorem drM_s {me : Nat → Nat} {j i v : Nat} (hv : v = if me (i + 1) = j then 0 else me (i + 1)) : un (drM me j i) (i + 1) v = drM me j (i + 1) := by
  subst hv
  funext a
  unfold un
  by_cases ha : a = i + 1
  · subst ha
    rw [va_up_self]
    unfold drM
    by_cases hm : me (i + 1) = j
    · rw [if_pos hm, if_pos ⟨by omega, Nat.le_refl _, hm⟩]
    · rw [if_neg hm, if_neg (fun q => hm q.2.2)]
  · rw [va_up_ne _ _ ha]
    unfold drM
    by_cases h2 : 1 ≤ a ∧ a ≤ i ∧ me a = j
    · rw [if_pos h2, if_pos ⟨h2.1, by omega, h2.2.2⟩]
    · rw [if_neg h2, if_neg (fun q => h2 ⟨q.1, by omega, q.2.2⟩)]
def okM (x y z : Int32) : Bool := btw x (nI 0) (nI 19) && isSg y && btw z (nI 0) (nI 1000)
def clI (co : Nat → Option Nat) (i : Nat) : Nat → Option Nat := fun j => if j < i then none else co j
theorem clI_0 {co : Nat → Option Nat} : clI co 0 = co := by funext j; simp [clI]
theorem clI_s {co : Nat → Option Nat} {i : Nat} : va_up (clI co i) i none = clI co (i + 1) := by
  funext j
  by_cases h : j = i
  · subst h; rw [va_up_self]; unfold clI; rw [if_pos (by omega)]
  · rw [va_up_ne _ _ h]
    unfold clI
    by_cases h2 : j < i
    · rw [if_pos h2, if_pos (by omega)]
    · rw [if_neg h2, if_neg (by omega)]
def inM (th : Nat → Bool) (gr : Nat → Int32) (x : Int32) (j : Nat) : Bool := th j && (decide (x < 0) || decide ((gr j >>> (x &&& 31)) &&& nI 1 = nI 1))
def abM (th : Nat → Bool) (me : Nat → Nat) (d j : Nat) : Bool := th j && decide (me j = d)
def mfM (th : Nat → Bool) (me : Nat → Nat) (gr : Nat → Int32) (lk : Int32) (j : Nat) : Bool := th j && decide (me j = 0) && (decide (lk < 0) || decide ((gr j >>> (lk &&& 31)) &&& nI 1 = nI 1))
def hasM (fd : Nat) (x : Int32) : Bool := btw x (nI 0) (nI fd - nI 1)
/-- the least cost of the first s signs out of the first p places -/
def tB (w : Nat → Nat → Nat) : Nat → Nat → Nat
  | 0, 0 => 0
  | 0, s + 1 => tB w 0 s + 30
  | p + 1, 0 => tB w p 0 + 25
  | p + 1, s + 1 => min (min (tB w (p + 1) s + 30) (tB w p (s + 1) + 25)) (tB w p s + w p s)
theorem tB_le {w : Nat → Nat → Nat} : ∀ p s, tB w p s ≤ 25 * p + 30 * s
  | 0, 0 => by simp [tB]
  | 0, s + 1 => by
    have := tB_le (w := w) 0 s
    simp only [tB]
    omega
  | p + 1, 0 => by
    have := tB_le (w := w) p 0
    simp only [tB]
    omega
  | p + 1, s + 1 => by
    have := tB_le (w := w) (p + 1) s
    simp only [tB]
    omega
/-- what sign s of entry e costs at place p -/
def wM (co : Nat → Option Nat) (sg : Nat → Nat) (e p s : Nat) : Nat := match co (128 * p + sg (20 * e + s)) with
  | none => 60
  | some c => c
def owM (P : Nat) (co : Nat → Option Nat) (sz sg : Nat → Nat) (e : Nat) : Nat := tB (wM co sg e) P (sz e)
theorem owM_le {P : Nat} {co : Nat → Option Nat} {sz sg : Nat → Nat} {e : Nat} (hP : P ≤ 20) (hz : sz e ≤ 20) : owM P co sz sg e ≤ 1100 := by
  have := tB_le (w := wM co sg e) P (sz e)
  unfold owM
  omega
/-- the least of an entry's own sum and those that stand for it, up to i -/
def sOm (th : Nat → Bool) (me : Nat → Nat) (o : Nat → Nat) (e : Nat) : Nat → Nat
  | 0 => o e
  | a + 1 => if (th (a + 1) && decide (me (a + 1) = e)) = true then min (sOm th me o e a) (o (a + 1)) else sOm th me o e a
theorem sOm_le {th : Nat → Bool} {me o : Nat → Nat} {e : Nat} : ∀ a, sOm th me o e a ≤ o e
  | 0 => Nat.le_refl _
  | a + 1 => by
    have := sOm_le (th := th) (me := me) (o := o) (e := e) a
    unfold sOm
    split <;> omega
end
section
set_option maxHeartbeats 4000000 in
set_option maxRecDepth 100000 in
theorem c_between (l : Launch) {D : va_G} {aC : Nat → ClassId} {lo : Nat} {ad : Nat → Nat} {ct : Nat → Option va_E} (x a b : Int32)  : Met l yX4_between (wsO yX4_between cX4_between 3 (some .boolean)) ({ frames := 0, cells := 0, slots := 0, locals := 0 } : Room) (mPc D vwCl (tyA aC) lo ad ct [.int x, .int a, .int b]) (mD1 D vwCl lo (.int (bI (btw x a b))) ad ct) 0 0 (fun q => lo ≤ q) := by
  refine Met.ofW (cc := cX4_between) (maxL := 3) (ret := (some .boolean)) (by decide) rfl ?_
  intro pr en s0 mm args below meth cc0 s₁ B hml hv
  obtain ⟨rfl, hlo, hM, hKK⟩ := hv
  have hK := hKK.1
  have hr := B.returns
  have hts := atoms_spec (ws := (wsO yX4_between cX4_between 3 (some .boolean))) B.pre
  have F : CallFix pr mm cc0 cX4_between 3 s0 (([.int x, .int a, .int b] : List Value).toArray) (wsO yX4_between cX4_between 3 (some .boolean)) RX4 := ⟨B.exec, B.bytes, hml, findClass_of_methodNamed B.named, hts⟩
  have hx := F.1
  have hb := F.2.1
  have hlocks := B.notSynchronized
  have hS : va_S (fun q => lo ≤ q) s0.heap s0.heap [] := va_S.rf
  have hl := lv_entry ([.int x, .int a, .int b]) (n := 3) (Nat.le_of_ble_eq_true rfl)
  rw [lg_entry_eq]
  generalize (lg_sl ([.int x, .int a, .int b]) ++ List.replicate (3 - (lg_sl ([.int x, .int a, .int b])).length) Slot.unset).toArray = ls at hl ⊢
  have hl : lv_has ls 3 [(0, .int x), (1, .int a), (2, .int b)] := hl
  refine lv_iload_n hx hb dX4_between_0 rfl (lv_at hl 0 rfl) ?_
  refine lv_iload_n hx hb dX4_between_1 rfl (lv_at hl 1 rfl) ?_
  refine lv_icmp_lt (tgt := 14) hx hb dX4_between_2 (by decide) (fun c_2 => ?_) (fun c_2 => ?_)
  · skip
    refine lv_iconst (v := (nI 0)) hx hb dX4_between_14 (by decide) ?_
    exact W.zret hx hb hr rfl (fun t ht hW => ⟨⟨_, _, _, rfl, ⟨by rw [show btw x a b = false by first | simp [btw, c_2, c_7] | simp [btw, c_2]]; rfl, rfl, rfl⟩, by rw [ht]; exact hM⟩, hS.F ht⟩) hS.2.2 dX4_between_15
  · skip
    refine lv_iload_n hx hb dX4_between_5 rfl (lv_at hl 0 rfl) ?_
    refine lv_iload_n hx hb dX4_between_6 rfl (lv_at hl 2 rfl) ?_
    refine lv_icmp_gt (tgt := 14) hx hb dX4_between_7 (by decide) (fun c_7 => ?_) (fun c_7 => ?_)
    · skip
      refine lv_iconst (v := (nI 0)) hx hb dX4_between_14 (by decide) ?_
      exact W.zret hx hb hr rfl (fun t ht hW => ⟨⟨_, _, _, rfl, ⟨by rw [show btw x a b = false by first | simp [btw, c_2, c_7] | simp [btw, c_2]]; rfl, rfl, rfl⟩, by rw [ht]; exact hM⟩, hS.F ht⟩) hS.2.2 dX4_between_15
    · skip
      refine lv_iconst (v := (nI 1)) hx hb dX4_between_10 (by decide) ?_
      refine lv_goto (tgt := 15) hx hb dX4_between_11 (by decide) ?_
      exact W.zret hx hb hr rfl (fun t ht hW => ⟨⟨_, _, _, rfl, ⟨by rw [show btw x a b = true by simp [btw, c_2, c_7]]; rfl, rfl, rfl⟩, by rw [ht]; exact hM⟩, hS.F ht⟩) hS.2.2 dX4_between_15

set_option maxHeartbeats 4000000 in
set_option maxRecDepth 100000 in
theorem c_mIsE (l : Launch) {D : va_G} {aC : Nat → ClassId} {lo : Nat} {ad : Nat → Nat} {n : Nat} {th : Nat → Bool} {sz : Nat → Nat} {sg : Nat → Nat} {me : Nat → Nat} {gr : Nat → Int32} {lk : Int32} {P : Nat} {co : Nat → Option Nat} {tb : Nat → Nat} {fd : Nat} {wd : Nat → Nat} {sm : Nat → Nat} {rc : Nat → Nat} {X : Nat → Option va_E} (x : Int32) (h200 : n ≤ 200) : Met l yX4_isEntry (wsO yX4_isEntry cX4_isEntry 2 (some .boolean)) ({ frames := 1, cells := 0, slots := 0, locals := 22 } : Room) (mPc D vwCl (tyA aC) lo ad (ctM aC ad n th sz sg me gr lk P co tb fd wd sm rc X) [.ref (ad 1000), .int x]) (mD1 D vwCl lo (.int (bI (isE n th x))) ad (ctM aC ad n th sz sg me gr lk P co tb fd wd sm rc X)) 0 0 (fun q => lo ≤ q) := by
  refine Met.ofW (cc := cX4_isEntry) (maxL := 2) (ret := (some .boolean)) (by decide) rfl ?_
  intro pr en s0 mm args below meth cc0 s₁ B hml hv
  obtain ⟨rfl, hlo, hM, hKK⟩ := hv
  have hK := hKK.1
  have hr := B.returns
  have hts := atoms_spec (ws := (wsO yX4_isEntry cX4_isEntry 2 (some .boolean))) B.pre
  have F : CallFix pr mm cc0 cX4_isEntry 2 s0 (([.ref (ad 1000), .int x] : List Value).toArray) (wsO yX4_isEntry cX4_isEntry 2 (some .boolean)) RX4 := ⟨B.exec, B.bytes, hml, findClass_of_methodNamed B.named, hts⟩
  have hx := F.1
  have hb := F.2.1
  have hlocks := B.notSynchronized
  have hS : va_S (fun q => lo ≤ q) s0.heap s0.heap [] := va_S.rf
  have hl := lv_entry ([.ref (ad 1000), .int x]) (n := 2) (Nat.le_of_ble_eq_true rfl)
  rw [lg_entry_eq]
  generalize (lg_sl ([.ref (ad 1000), .int x]) ++ List.replicate (2 - (lg_sl ([.ref (ad 1000), .int x])).length) Slot.unset).toArray = ls at hl ⊢
  have hl : lv_has ls 2 [(0, .ref (ad 1000)), (1, .int x)] := hl
  refine lv_iload_n hx hb dX4_isEntry_0 rfl (lv_at hl 1 rfl) ?_
  refine lv_iconst (v := (nI 1)) hx hb dX4_isEntry_1 (by decide) ?_
  refine lv_aload_n hx hb dX4_isEntry_2 rfl (lv_at hl 0 rfl) ?_
  refine m_get F (ci := 4) (v := .int (nI n)) (fun w h => tb_O (inX4 w h)) hK hM ctM_o rfl 0 (by decide) (tb_O lkX4_51) rfl dX4_isEntry_3 ?_
  refine m_d1 (v := .int (bI (btw x (nI 1) (nI n)))) (ct1 := ctM aC ad n th sz sg me gr lk P co tb fd wd sm rc X) (va_runS (As := [.int x, .int (nI 1), .int (nI n)]) (rest := []) F (c_between l x (nI 1) (nI n)) (va_cwS 3 F.2.2.2.2 (go_S (fun _ h => tb_O h) mlX4_54 stX4_between iniX4 cdX4_between) rfl rfl rfl (by decide +kernel) ⟨Nat.le_of_ble_eq_true rfl, Nat.le_of_ble_eq_true rfl⟩) (mPreS hKK hM (Nat.le_trans hlo hS.1)) rfl rfl hl.1 rfl (lv_room (Nat.le_of_ble_eq_true rfl)) dX4_isEntry_6 ⟨Nat.le_of_ble_eq_true rfl, Nat.le_of_ble_eq_true rfl⟩) hS (fun H locs hM hS => ?_)
  refine lv_if_eq (tgt := 25) hx hb dX4_isEntry_9 (by decide) (fun c_9 => ?_) (fun c_9 => ?_)
  · skip
    refine lv_iconst (v := (nI 0)) hx hb dX4_isEntry_25 (by decide) ?_
    exact W.zret hx hb hr rfl (fun t ht hW => ⟨⟨_, _, _, rfl, ⟨by first | (rw [isE_nI hj1 hj2 h200, bI_eq c_18]; rfl) | (rw [show isE n th x = false by unfold isE; rw [bI_eq c_9]; rfl]; rfl), rfl, rfl⟩, by rw [ht]; exact hM⟩, hS.F ht⟩) hS.2.2 dX4_isEntry_26
  · skip
    obtain ⟨j, hj1, hj2, rfl⟩ := btw_in (bI_ne c_9) h200
    refine lv_aload_n hx hb dX4_isEntry_12 rfl (lv_at hl 0 rfl) ?_
    refine m_get F (ci := 4) (v := .ref (ad 1001)) (fun w h => tb_O (inX4 w h)) hK hM ctM_o rfl 1 (by decide) (tb_O lkX4_7) rfl dX4_isEntry_13 ?_
    refine lv_iload_n hx hb dX4_isEntry_16 rfl (lv_at hl 1 rfl) ?_
    refine m_zald F hK hM 2 rfl (j := j) ctM_ath (by omega) (by decide) dX4_isEntry_17 ?_
    refine m_top (y := (bI (th j))) rfl ?_
    refine lv_if_eq (tgt := 25) hx hb dX4_isEntry_18 (by decide) (fun c_18 => ?_) (fun c_18 => ?_)
    · skip
      refine lv_iconst (v := (nI 0)) hx hb dX4_isEntry_25 (by decide) ?_
      exact W.zret hx hb hr rfl (fun t ht hW => ⟨⟨_, _, _, rfl, ⟨by first | (rw [isE_nI hj1 hj2 h200, bI_eq c_18]; rfl) | (rw [show isE n th x = false by unfold isE; rw [bI_eq c_9]; rfl]; rfl), rfl, rfl⟩, by rw [ht]; exact hM⟩, hS.F ht⟩) hS.2.2 dX4_isEntry_26
    · skip
      refine lv_iconst (v := (nI 1)) hx hb dX4_isEntry_21 (by decide) ?_
      refine lv_goto (tgt := 26) hx hb dX4_isEntry_22 (by decide) ?_
      exact W.zret hx hb hr rfl (fun t ht hW => ⟨⟨_, _, _, rfl, ⟨by rw [isE_nI hj1 hj2 h200, bI_ne c_18]; rfl, rfl, rfl⟩, by rw [ht]; exact hM⟩, hS.F ht⟩) hS.2.2 dX4_isEntry_26

set_option maxHeartbeats 4000000 in
set_option maxRecDepth 100000 in
theorem c_mEntryR (l : Launch) {D : va_G} {aC : Nat → ClassId} {lo : Nat} {ad : Nat → Nat} {n : Nat} {th : Nat → Bool} {sz : Nat → Nat} {sg : Nat → Nat} {me : Nat → Nat} {gr : Nat → Int32} {lk : Int32} {P : Nat} {co : Nat → Option Nat} {tb : Nat → Nat} {fd : Nat} {wd : Nat → Nat} {sm : Nat → Nat} {rc : Nat → Nat} {X : Nat → Option va_E} (hnn : n = 200) : Met l yX4_entry (wsO yX4_entry cX4_entry 1 (some .int)) ({ frames := 0, cells := 0, slots := 0, locals := 0 } : Room) (mPc D vwCl (tyA aC) lo ad (ctM aC ad n th sz sg me gr lk P co tb fd wd sm rc X) [.ref (ad 1000)]) (mD1 D vwCl lo (.int (-4)) ad (ctM aC ad n th sz sg me gr lk P co tb fd wd sm rc X)) 0 0 (fun q => lo ≤ q) := by
  refine Met.ofW (cc := cX4_entry) (maxL := 1) (ret := (some .int)) (by decide) rfl ?_
  intro pr en s0 mm args below meth cc0 s₁ B hml hv
  obtain ⟨rfl, hlo, hM, hKK⟩ := hv
  have hK := hKK.1
  have hr := B.returns
  have hts := atoms_spec (ws := (wsO yX4_entry cX4_entry 1 (some .int))) B.pre
  have F : CallFix pr mm cc0 cX4_entry 1 s0 (([.ref (ad 1000)] : List Value).toArray) (wsO yX4_entry cX4_entry 1 (some .int)) RX4 := ⟨B.exec, B.bytes, hml, findClass_of_methodNamed B.named, hts⟩
  have hx := F.1
  have hb := F.2.1
  have hlocks := B.notSynchronized
  have hS : va_S (fun q => lo ≤ q) s0.heap s0.heap [] := va_S.rf
  have hl := lv_entry ([.ref (ad 1000)]) (n := 1) (Nat.le_of_ble_eq_true rfl)
  rw [lg_entry_eq]
  generalize (lg_sl ([.ref (ad 1000)]) ++ List.replicate (1 - (lg_sl ([.ref (ad 1000)])).length) Slot.unset).toArray = ls at hl ⊢
  have hl : lv_has ls 1 [(0, .ref (ad 1000))] := hl
  refine lv_aload_n hx hb dX4_entry_0 rfl (lv_at hl 0 rfl) ?_
  refine m_get F (ci := 4) (v := .int (nI n)) (fun w h => tb_O (inX4 w h)) hK hM ctM_o rfl 0 (by decide) (tb_O lkX4_51) rfl dX4_entry_1 ?_
  refine lv_sipush (v := (nI 200)) hx hb dX4_entry_4 (by decide) ?_
  refine m_icmp_ne F (a := n) (b := 200) (by omega) (by omega) (tgt := 13) dX4_entry_7 (by decide) (fun c_7 => ?_) (fun c_7 => ?_)
  · skip
    exact absurd hnn c_7
  · skip
    refine lv_bipush (v := (-4)) hx hb dX4_entry_10 (by decide) ?_
    exact W.iret hx hb hr (fun t ht hW => ⟨⟨_, _, _, rfl, ⟨rfl, rfl, rfl⟩, by rw [ht]; exact hM⟩, hS.F ht⟩) hS.2.2 dX4_entry_12

set_option maxHeartbeats 4000000 in
set_option maxRecDepth 100000 in
theorem c_mEntry (l : Launch) {D : va_G} {aC : Nat → ClassId} {lo : Nat} {ad : Nat → Nat} {n : Nat} {th : Nat → Bool} {sz : Nat → Nat} {sg : Nat → Nat} {me : Nat → Nat} {gr : Nat → Int32} {lk : Int32} {P : Nat} {co : Nat → Option Nat} {tb : Nat → Nat} {fd : Nat} {wd : Nat → Nat} {sm : Nat → Nat} {rc : Nat → Nat} {X : Nat → Option va_E} (hnn : n < 200) : Met l yX4_entry (wsO yX4_entry cX4_entry 1 (some .int)) ({ frames := 0, cells := 0, slots := 0, locals := 0 } : Room) (mPc D vwCl (tyA aC) lo ad (ctM aC ad n th sz sg me gr lk P co tb fd wd sm rc X) [.ref (ad 1000)]) (mD1 D vwCl lo (.int (nI (n + 1))) ad (ctM aC ad (n + 1) (va_up th (n + 1) true) sz sg me gr lk P co tb fd wd sm rc X)) 0 0 (fun q => lo ≤ q) := by
  refine Met.ofW (cc := cX4_entry) (maxL := 1) (ret := (some .int)) (by decide) rfl ?_
  intro pr en s0 mm args below meth cc0 s₁ B hml hv
  obtain ⟨rfl, hlo, hM, hKK⟩ := hv
  have hK := hKK.1
  have hr := B.returns
  have hts := atoms_spec (ws := (wsO yX4_entry cX4_entry 1 (some .int))) B.pre
  have F : CallFix pr mm cc0 cX4_entry 1 s0 (([.ref (ad 1000)] : List Value).toArray) (wsO yX4_entry cX4_entry 1 (some .int)) RX4 := ⟨B.exec, B.bytes, hml, findClass_of_methodNamed B.named, hts⟩
  have hx := F.1
  have hb := F.2.1
  have hlocks := B.notSynchronized
  have hS : va_S (fun q => lo ≤ q) s0.heap s0.heap [] := va_S.rf
  have hl := lv_entry ([.ref (ad 1000)]) (n := 1) (Nat.le_of_ble_eq_true rfl)
  rw [lg_entry_eq]
  generalize (lg_sl ([.ref (ad 1000)]) ++ List.replicate (1 - (lg_sl ([.ref (ad 1000)])).length) Slot.unset).toArray = ls at hl ⊢
  have hl : lv_has ls 1 [(0, .ref (ad 1000))] := hl
  refine lv_aload_n hx hb dX4_entry_0 rfl (lv_at hl 0 rfl) ?_
  refine m_get F (ci := 4) (v := .int (nI n)) (fun w h => tb_O (inX4 w h)) hK hM ctM_o rfl 0 (by decide) (tb_O lkX4_51) rfl dX4_entry_1 ?_
  refine lv_sipush (v := (nI 200)) hx hb dX4_entry_4 (by decide) ?_
  refine m_icmp_ne F (a := n) (b := 200) (by omega) (by omega) (tgt := 13) dX4_entry_7 (by decide) (fun c_7 => ?_) (fun c_7 => ?_)
  · skip
    refine lv_aload_n hx hb dX4_entry_13 rfl (lv_at hl 0 rfl) ?_
    refine lv_dup hx hb dX4_entry_14 rfl ?_
    refine m_get F (ci := 4) (v := .int (nI n)) (fun w h => tb_O (inX4 w h)) hK hM ctM_o rfl 0 (by decide) (tb_O lkX4_51) rfl dX4_entry_15 ?_
    refine lv_iconst (v := (nI 1)) hx hb dX4_entry_18 (by decide) ?_
    refine lv_iadd hx hb dX4_entry_19 ?_
    refine m_top (nI_add n 1) ?_
    refine m_put F (ci := 4) (v := .int (nI (n + 1))) (fun w h => tb_O (inX4 w h)) mc_X4 hK hM hS ctM_o 0 (by decide) (tb_O lkX4_51) rfl rfl rfl (Nat.le_of_ble_eq_true rfl) dX4_entry_20 (fun H locs hM hS => ?_)
    have hM : mw D vwCl lo ad (va_up (ctM aC ad n th sz sg me gr lk P co tb fd wd sm rc X) 1000 (some (.inr (4, [.int (nI (n + 1)), .ref (ad 1001), .ref (ad 1002), .ref (ad 1003), .ref (ad 1004), .ref (ad 1005), .int lk, .int (nI P), .ref (ad 1006), .ref (ad 1007), .int (nI fd), .ref (ad 1008), .ref (ad 1009), .ref (ad 1010)])))) H := hM
    have hM : mw D vwCl lo ad (ctM aC ad (n + 1) th sz sg me gr lk P co tb fd wd sm rc X) H := by rw [ctM_n] at hM; exact hM
    refine lv_aload_n hx hb dX4_entry_23 rfl (lv_at hl 0 rfl) ?_
    refine m_get F (ci := 4) (v := .ref (ad 1001)) (fun w h => tb_O (inX4 w h)) hK hM ctM_o rfl 1 (by decide) (tb_O lkX4_7) rfl dX4_entry_24 ?_
    refine lv_aload_n hx hb dX4_entry_27 rfl (lv_at hl 0 rfl) ?_
    refine m_get F (ci := 4) (v := .int (nI (n + 1))) (fun w h => tb_O (inX4 w h)) hK hM ctM_o rfl 0 (by decide) (tb_O lkX4_51) rfl dX4_entry_28 ?_
    refine lv_iconst (v := (nI 1)) hx hb dX4_entry_31 (by decide) ?_
    refine m_zast F hK hM hS 2 rfl (j := (n + 1)) (b := true) ctM_ath (by omega) (by decide) dX4_entry_32 (fun H locs hM hS => ?_)
    have hM : mw D vwCl lo ad (ctM aC ad (n + 1) (va_up th (n + 1) true) sz sg me gr lk P co tb fd wd sm rc X) H := by rw [upd_bI, ctM_th] at hM; exact hM
    refine lv_aload_n hx hb dX4_entry_33 rfl (lv_at hl 0 rfl) ?_
    refine m_get F (ci := 4) (v := .int (nI (n + 1))) (fun w h => tb_O (inX4 w h)) hK hM ctM_o rfl 0 (by decide) (tb_O lkX4_51) rfl dX4_entry_34 ?_
    exact W.iret hx hb hr (fun t ht hW => ⟨⟨_, _, _, rfl, ⟨rfl, rfl, rfl⟩, by rw [ht]; exact hM⟩, hS.F ht⟩) hS.2.2 dX4_entry_37
  · skip
    exact absurd c_7 (by omega)

set_option maxHeartbeats 4000000 in
set_option maxRecDepth 100000 in
theorem c_mLetterU (l : Launch) {D : va_G} {aC : Nat → ClassId} {lo : Nat} {ad : Nat → Nat} {n : Nat} {th : Nat → Bool} {sz : Nat → Nat} {sg : Nat → Nat} {me : Nat → Nat} {gr : Nat → Int32} {lk : Int32} {P : Nat} {co : Nat → Option Nat} {tb : Nat → Nat} {fd : Nat} {wd : Nat → Nat} {sm : Nat → Nat} {rc : Nat → Nat} {X : Nat → Option va_E} (x y : Int32) (hn0 : isE n th x = false) (h200 : n ≤ 200) : Met l yX4_letter (wsO yX4_letter cX4_letter 3 (some .int)) ({ frames := 2, cells := 0, slots := 0, locals := 43 } : Room) (mPc D vwCl (tyA aC) lo ad (ctM aC ad n th sz sg me gr lk P co tb fd wd sm rc X) [.ref (ad 1000), .int x, .int y]) (mD1 D vwCl lo (.int (-1)) ad (ctM aC ad n th sz sg me gr lk P co tb fd wd sm rc X)) 0 0 (fun q => lo ≤ q) := by
  refine Met.ofW (cc := cX4_letter) (maxL := 3) (ret := (some .int)) (by decide) rfl ?_
  intro pr en s0 mm args below meth cc0 s₁ B hml hv
  obtain ⟨rfl, hlo, hM, hKK⟩ := hv
  have hK := hKK.1
  have hr := B.returns
  have hts := atoms_spec (ws := (wsO yX4_letter cX4_letter 3 (some .int))) B.pre
  have F : CallFix pr mm cc0 cX4_letter 3 s0 (([.ref (ad 1000), .int x, .int y] : List Value).toArray) (wsO yX4_letter cX4_letter 3 (some .int)) RX4 := ⟨B.exec, B.bytes, hml, findClass_of_methodNamed B.named, hts⟩
  have hx := F.1
  have hb := F.2.1
  have hlocks := B.notSynchronized
  have hS : va_S (fun q => lo ≤ q) s0.heap s0.heap [] := va_S.rf
  have hl := lv_entry ([.ref (ad 1000), .int x, .int y]) (n := 3) (Nat.le_of_ble_eq_true rfl)
  rw [lg_entry_eq]
  generalize (lg_sl ([.ref (ad 1000), .int x, .int y]) ++ List.replicate (3 - (lg_sl ([.ref (ad 1000), .int x, .int y])).length) Slot.unset).toArray = ls at hl ⊢
  have hl : lv_has ls 3 [(0, .ref (ad 1000)), (1, .int x), (2, .int y)] := hl
  refine lv_aload_n hx hb dX4_letter_0 rfl (lv_at hl 0 rfl) ?_
  refine lv_iload_n hx hb dX4_letter_1 rfl (lv_at hl 1 rfl) ?_
  refine m_d1 (v := .int (bI (isE n th x))) (ct1 := ctM aC ad n th sz sg me gr lk P co tb fd wd sm rc X) (va_runV (As := [.int x]) (rest := []) F (c_mIsE l x h200) (cwV 1 F.2.2.2.2 (go_V (fun _ h => tb_O h) mlX4_58 imX4_isEntry seX4_isEntry iniX4 cdX4_isEntry) rfl rfl rfl (by decide +kernel) ⟨Nat.le_of_ble_eq_true rfl, Nat.le_of_ble_eq_true rfl⟩) (mPreV hKK hM (Nat.le_trans hlo hS.1) ctM_o rfl) rfl rfl hl.1 rfl (lv_room (Nat.le_of_ble_eq_true rfl)) dX4_letter_2 ⟨Nat.le_of_ble_eq_true rfl, Nat.le_of_ble_eq_true rfl⟩) hS (fun H locs hM hS => ?_)
  refine lv_if_ne (tgt := 10) hx hb dX4_letter_5 (by decide) (fun c_5 => ?_) (fun c_5 => ?_)
  · skip
    exact absurd (by rw [hn0]; rfl) c_5
  · skip
    refine lv_iconst (v := (-1)) hx hb dX4_letter_8 (by decide) ?_
    exact W.iret hx hb hr (fun t ht hW => ⟨⟨_, _, _, rfl, ⟨rfl, rfl, rfl⟩, by rw [ht]; exact hM⟩, hS.F ht⟩) hS.2.2 dX4_letter_9

set_option maxHeartbeats 4000000 in
set_option maxRecDepth 100000 in
theorem c_mLetterO (l : Launch) {D : va_G} {aC : Nat → ClassId} {lo : Nat} {ad : Nat → Nat} {n : Nat} {th : Nat → Bool} {sz : Nat → Nat} {sg : Nat → Nat} {me : Nat → Nat} {gr : Nat → Int32} {lk : Int32} {P : Nat} {co : Nat → Option Nat} {tb : Nat → Nat} {fd : Nat} {wd : Nat → Nat} {sm : Nat → Nat} {rc : Nat → Nat} {X : Nat → Option va_E} (j : Nat) (y : Int32) (hj1 : 1 ≤ j) (hj2 : j ≤ n) (h200 : n ≤ 200) (ht : th j = true) (hy : isSg y = false) : Met l yX4_letter (wsO yX4_letter cX4_letter 3 (some .int)) ({ frames := 2, cells := 0, slots := 0, locals := 43 } : Room) (mPc D vwCl (tyA aC) lo ad (ctM aC ad n th sz sg me gr lk P co tb fd wd sm rc X) [.ref (ad 1000), .int (nI j), .int y]) (mD1 D vwCl lo (.int (-2)) ad (ctM aC ad n th sz sg me gr lk P co tb fd wd sm rc X)) 0 0 (fun q => lo ≤ q) := by
  refine Met.ofW (cc := cX4_letter) (maxL := 3) (ret := (some .int)) (by decide) rfl ?_
  intro pr en s0 mm args below meth cc0 s₁ B hml hv
  obtain ⟨rfl, hlo, hM, hKK⟩ := hv
  have hK := hKK.1
  have hr := B.returns
  have hts := atoms_spec (ws := (wsO yX4_letter cX4_letter 3 (some .int))) B.pre
  have F : CallFix pr mm cc0 cX4_letter 3 s0 (([.ref (ad 1000), .int (nI j), .int y] : List Value).toArray) (wsO yX4_letter cX4_letter 3 (some .int)) RX4 := ⟨B.exec, B.bytes, hml, findClass_of_methodNamed B.named, hts⟩
  have hx := F.1
  have hb := F.2.1
  have hlocks := B.notSynchronized
  have hS : va_S (fun q => lo ≤ q) s0.heap s0.heap [] := va_S.rf
  have hl := lv_entry ([.ref (ad 1000), .int (nI j), .int y]) (n := 3) (Nat.le_of_ble_eq_true rfl)
  rw [lg_entry_eq]
  generalize (lg_sl ([.ref (ad 1000), .int (nI j), .int y]) ++ List.replicate (3 - (lg_sl ([.ref (ad 1000), .int (nI j), .int y])).length) Slot.unset).toArray = ls at hl ⊢
  have hl : lv_has ls 3 [(0, .ref (ad 1000)), (1, .int (nI j)), (2, .int y)] := hl
  refine lv_aload_n hx hb dX4_letter_0 rfl (lv_at hl 0 rfl) ?_
  refine lv_iload_n hx hb dX4_letter_1 rfl (lv_at hl 1 rfl) ?_
  refine m_d1 (v := .int (bI (isE n th (nI j)))) (ct1 := ctM aC ad n th sz sg me gr lk P co tb fd wd sm rc X) (va_runV (As := [.int (nI j)]) (rest := []) F (c_mIsE l (nI j) h200) (cwV 1 F.2.2.2.2 (go_V (fun _ h => tb_O h) mlX4_58 imX4_isEntry seX4_isEntry iniX4 cdX4_isEntry) rfl rfl rfl (by decide +kernel) ⟨Nat.le_of_ble_eq_true rfl, Nat.le_of_ble_eq_true rfl⟩) (mPreV hKK hM (Nat.le_trans hlo hS.1) ctM_o rfl) rfl rfl hl.1 rfl (lv_room (Nat.le_of_ble_eq_true rfl)) dX4_letter_2 ⟨Nat.le_of_ble_eq_true rfl, Nat.le_of_ble_eq_true rfl⟩) hS (fun H locs hM hS => ?_)
  refine lv_if_ne (tgt := 10) hx hb dX4_letter_5 (by decide) (fun c_5 => ?_) (fun c_5 => ?_)
  · skip
    refine lv_iload_n hx hb dX4_letter_10 rfl (lv_at hl 2 rfl) ?_
    refine lv_bipush (v := (nI 33)) hx hb dX4_letter_11 (by decide) ?_
    refine lv_bipush (v := (nI 126)) hx hb dX4_letter_13 (by decide) ?_
    refine m_d1 (v := .int (bI (btw y (nI 33) (nI 126)))) (ct1 := ctM aC ad n th sz sg me gr lk P co tb fd wd sm rc X) (va_runS (As := [.int y, .int (nI 33), .int (nI 126)]) (rest := []) F (c_between l y (nI 33) (nI 126)) (va_cwS 3 F.2.2.2.2 (go_S (fun _ h => tb_O h) mlX4_54 stX4_between iniX4 cdX4_between) rfl rfl rfl (by decide +kernel) ⟨Nat.le_of_ble_eq_true rfl, Nat.le_of_ble_eq_true rfl⟩) (mPreS hKK hM (Nat.le_trans hlo hS.1)) rfl rfl hl.1 rfl (lv_room (Nat.le_of_ble_eq_true rfl)) dX4_letter_15 ⟨Nat.le_of_ble_eq_true rfl, Nat.le_of_ble_eq_true rfl⟩) hS (fun H locs hM hS => ?_)
    refine lv_if_ne (tgt := 24) hx hb dX4_letter_18 (by decide) (fun c_18 => ?_) (fun c_18 => ?_)
    · skip
      exact absurd (by rw [show btw y (nI 33) (nI 126) = isSg y from rfl, hy]; rfl) c_18
    · skip
      refine lv_bipush (v := (-2)) hx hb dX4_letter_21 (by decide) ?_
      exact W.iret hx hb hr (fun t ht hW => ⟨⟨_, _, _, rfl, ⟨rfl, rfl, rfl⟩, by rw [ht]; exact hM⟩, hS.F ht⟩) hS.2.2 dX4_letter_23
  · skip
    exact absurd (by rw [isE_nI hj1 hj2 h200, ht]; decide) (fun h : ¬ bI (isE n th (nI j)) = 0 => h c_5)

set_option maxHeartbeats 4000000 in
set_option maxRecDepth 100000 in
theorem c_mLetterR (l : Launch) {D : va_G} {aC : Nat → ClassId} {lo : Nat} {ad : Nat → Nat} {n : Nat} {th : Nat → Bool} {sz : Nat → Nat} {sg : Nat → Nat} {me : Nat → Nat} {gr : Nat → Int32} {lk : Int32} {P : Nat} {co : Nat → Option Nat} {tb : Nat → Nat} {fd : Nat} {wd : Nat → Nat} {sm : Nat → Nat} {rc : Nat → Nat} {X : Nat → Option va_E} (j q : Nat) (hj1 : 1 ≤ j) (hj2 : j ≤ n) (h200 : n ≤ 200) (ht : th j = true) (hq1 : 33 ≤ q) (hq2 : q ≤ 126) (hsz : ∀ k, sz k ≤ 20) (hl20 : sz j = 20) : Met l yX4_letter (wsO yX4_letter cX4_letter 3 (some .int)) ({ frames := 2, cells := 0, slots := 0, locals := 43 } : Room) (mPc D vwCl (tyA aC) lo ad (ctM aC ad n th sz sg me gr lk P co tb fd wd sm rc X) [.ref (ad 1000), .int (nI j), .int (nI q)]) (mD1 D vwCl lo (.int (-4)) ad (ctM aC ad n th sz sg me gr lk P co tb fd wd sm rc X)) 0 0 (fun q => lo ≤ q) := by
  refine Met.ofW (cc := cX4_letter) (maxL := 3) (ret := (some .int)) (by decide) rfl ?_
  intro pr en s0 mm args below meth cc0 s₁ B hml hv
  obtain ⟨rfl, hlo, hM, hKK⟩ := hv
  have hK := hKK.1
  have hr := B.returns
  have hts := atoms_spec (ws := (wsO yX4_letter cX4_letter 3 (some .int))) B.pre
  have F : CallFix pr mm cc0 cX4_letter 3 s0 (([.ref (ad 1000), .int (nI j), .int (nI q)] : List Value).toArray) (wsO yX4_letter cX4_letter 3 (some .int)) RX4 := ⟨B.exec, B.bytes, hml, findClass_of_methodNamed B.named, hts⟩
  have hx := F.1
  have hb := F.2.1
  have hlocks := B.notSynchronized
  have hS : va_S (fun q => lo ≤ q) s0.heap s0.heap [] := va_S.rf
  have hl := lv_entry ([.ref (ad 1000), .int (nI j), .int (nI q)]) (n := 3) (Nat.le_of_ble_eq_true rfl)
  rw [lg_entry_eq]
  generalize (lg_sl ([.ref (ad 1000), .int (nI j), .int (nI q)]) ++ List.replicate (3 - (lg_sl ([.ref (ad 1000), .int (nI j), .int (nI q)])).length) Slot.unset).toArray = ls at hl ⊢
  have hl : lv_has ls 3 [(0, .ref (ad 1000)), (1, .int (nI j)), (2, .int (nI q))] := hl
  refine lv_aload_n hx hb dX4_letter_0 rfl (lv_at hl 0 rfl) ?_
  refine lv_iload_n hx hb dX4_letter_1 rfl (lv_at hl 1 rfl) ?_
  refine m_d1 (v := .int (bI (isE n th (nI j)))) (ct1 := ctM aC ad n th sz sg me gr lk P co tb fd wd sm rc X) (va_runV (As := [.int (nI j)]) (rest := []) F (c_mIsE l (nI j) h200) (cwV 1 F.2.2.2.2 (go_V (fun _ h => tb_O h) mlX4_58 imX4_isEntry seX4_isEntry iniX4 cdX4_isEntry) rfl rfl rfl (by decide +kernel) ⟨Nat.le_of_ble_eq_true rfl, Nat.le_of_ble_eq_true rfl⟩) (mPreV hKK hM (Nat.le_trans hlo hS.1) ctM_o rfl) rfl rfl hl.1 rfl (lv_room (Nat.le_of_ble_eq_true rfl)) dX4_letter_2 ⟨Nat.le_of_ble_eq_true rfl, Nat.le_of_ble_eq_true rfl⟩) hS (fun H locs hM hS => ?_)
  refine lv_if_ne (tgt := 10) hx hb dX4_letter_5 (by decide) (fun c_5 => ?_) (fun c_5 => ?_)
  · skip
    refine lv_iload_n hx hb dX4_letter_10 rfl (lv_at hl 2 rfl) ?_
    refine lv_bipush (v := (nI 33)) hx hb dX4_letter_11 (by decide) ?_
    refine lv_bipush (v := (nI 126)) hx hb dX4_letter_13 (by decide) ?_
    refine m_d1 (v := .int (bI (btw (nI q) (nI 33) (nI 126)))) (ct1 := ctM aC ad n th sz sg me gr lk P co tb fd wd sm rc X) (va_runS (As := [.int (nI q), .int (nI 33), .int (nI 126)]) (rest := []) F (c_between l (nI q) (nI 33) (nI 126)) (va_cwS 3 F.2.2.2.2 (go_S (fun _ h => tb_O h) mlX4_54 stX4_between iniX4 cdX4_between) rfl rfl rfl (by decide +kernel) ⟨Nat.le_of_ble_eq_true rfl, Nat.le_of_ble_eq_true rfl⟩) (mPreS hKK hM (Nat.le_trans hlo hS.1)) rfl rfl hl.1 rfl (lv_room (Nat.le_of_ble_eq_true rfl)) dX4_letter_15 ⟨Nat.le_of_ble_eq_true rfl, Nat.le_of_ble_eq_true rfl⟩) hS (fun H locs hM hS => ?_)
    refine lv_if_ne (tgt := 24) hx hb dX4_letter_18 (by decide) (fun c_18 => ?_) (fun c_18 => ?_)
    · skip
      refine lv_aload_n hx hb dX4_letter_24 rfl (lv_at hl 0 rfl) ?_
      refine m_get F (ci := 4) (v := .ref (ad 1002)) (fun w h => tb_O (inX4 w h)) hK hM ctM_o rfl 2 (by decide) (tb_O lkX4_13) rfl dX4_letter_25 ?_
      refine lv_iload_n hx hb dX4_letter_28 rfl (lv_at hl 1 rfl) ?_
      refine m_iald F hK hM 0 rfl (j := j) ctM_asz (by omega) (by decide) dX4_letter_29 ?_
      refine m_top (y := (nI (sz j))) rfl ?_
      refine lv_bipush (v := (nI 20)) hx hb dX4_letter_30 (by decide) ?_
      refine m_icmp_ne F (a := (sz j)) (b := 20) (by omega) (by omega) (tgt := 38) dX4_letter_32 (by decide) (fun c_32 => ?_) (fun c_32 => ?_)
      · skip
        exact absurd hl20 c_32
      · skip
        refine lv_bipush (v := (-4)) hx hb dX4_letter_35 (by decide) ?_
        exact W.iret hx hb hr (fun t ht hW => ⟨⟨_, _, _, rfl, ⟨rfl, rfl, rfl⟩, by rw [ht]; exact hM⟩, hS.F ht⟩) hS.2.2 dX4_letter_37
    · skip
      exact absurd (by rw [btw_nI hq1 hq2 (by omega)]; decide) (fun h : ¬ bI (btw (nI q) (nI 33) (nI 126)) = 0 => h c_18)
  · skip
    exact absurd (by rw [isE_nI hj1 hj2 h200, ht]; decide) (fun h : ¬ bI (isE n th (nI j)) = 0 => h c_5)

set_option maxHeartbeats 4000000 in
set_option maxRecDepth 100000 in
theorem c_mLetter (l : Launch) {D : va_G} {aC : Nat → ClassId} {lo : Nat} {ad : Nat → Nat} {n : Nat} {th : Nat → Bool} {sz : Nat → Nat} {sg : Nat → Nat} {me : Nat → Nat} {gr : Nat → Int32} {lk : Int32} {P : Nat} {co : Nat → Option Nat} {tb : Nat → Nat} {fd : Nat} {wd : Nat → Nat} {sm : Nat → Nat} {rc : Nat → Nat} {X : Nat → Option va_E} (j q : Nat) (hj1 : 1 ≤ j) (hj2 : j ≤ n) (h200 : n ≤ 200) (ht : th j = true) (hq1 : 33 ≤ q) (hq2 : q ≤ 126) (hsz : ∀ k, sz k ≤ 20) (hl20 : sz j < 20) : Met l yX4_letter (wsO yX4_letter cX4_letter 3 (some .int)) ({ frames := 2, cells := 0, slots := 0, locals := 43 } : Room) (mPc D vwCl (tyA aC) lo ad (ctM aC ad n th sz sg me gr lk P co tb fd wd sm rc X) [.ref (ad 1000), .int (nI j), .int (nI q)]) (mD1 D vwCl lo (.int (nI (sz j + 1))) ad (ctM aC ad n th (un sz j (sz j + 1)) (un sg (20 * j + sz j) q) me gr lk P co tb fd wd sm rc X)) 0 0 (fun q => lo ≤ q) := by
  refine Met.ofW (cc := cX4_letter) (maxL := 3) (ret := (some .int)) (by decide) rfl ?_
  intro pr en s0 mm args below meth cc0 s₁ B hml hv
  obtain ⟨rfl, hlo, hM, hKK⟩ := hv
  have hK := hKK.1
  have hr := B.returns
  have hts := atoms_spec (ws := (wsO yX4_letter cX4_letter 3 (some .int))) B.pre
  have F : CallFix pr mm cc0 cX4_letter 3 s0 (([.ref (ad 1000), .int (nI j), .int (nI q)] : List Value).toArray) (wsO yX4_letter cX4_letter 3 (some .int)) RX4 := ⟨B.exec, B.bytes, hml, findClass_of_methodNamed B.named, hts⟩
  have hx := F.1
  have hb := F.2.1
  have hlocks := B.notSynchronized
  have hS : va_S (fun q => lo ≤ q) s0.heap s0.heap [] := va_S.rf
  have hl := lv_entry ([.ref (ad 1000), .int (nI j), .int (nI q)]) (n := 3) (Nat.le_of_ble_eq_true rfl)
  rw [lg_entry_eq]
  generalize (lg_sl ([.ref (ad 1000), .int (nI j), .int (nI q)]) ++ List.replicate (3 - (lg_sl ([.ref (ad 1000), .int (nI j), .int (nI q)])).length) Slot.unset).toArray = ls at hl ⊢
  have hl : lv_has ls 3 [(0, .ref (ad 1000)), (1, .int (nI j)), (2, .int (nI q))] := hl
  refine lv_aload_n hx hb dX4_letter_0 rfl (lv_at hl 0 rfl) ?_
  refine lv_iload_n hx hb dX4_letter_1 rfl (lv_at hl 1 rfl) ?_
  refine m_d1 (v := .int (bI (isE n th (nI j)))) (ct1 := ctM aC ad n th sz sg me gr lk P co tb fd wd sm rc X) (va_runV (As := [.int (nI j)]) (rest := []) F (c_mIsE l (nI j) h200) (cwV 1 F.2.2.2.2 (go_V (fun _ h => tb_O h) mlX4_58 imX4_isEntry seX4_isEntry iniX4 cdX4_isEntry) rfl rfl rfl (by decide +kernel) ⟨Nat.le_of_ble_eq_true rfl, Nat.le_of_ble_eq_true rfl⟩) (mPreV hKK hM (Nat.le_trans hlo hS.1) ctM_o rfl) rfl rfl hl.1 rfl (lv_room (Nat.le_of_ble_eq_true rfl)) dX4_letter_2 ⟨Nat.le_of_ble_eq_true rfl, Nat.le_of_ble_eq_true rfl⟩) hS (fun H locs hM hS => ?_)
  refine lv_if_ne (tgt := 10) hx hb dX4_letter_5 (by decide) (fun c_5 => ?_) (fun c_5 => ?_)
  · skip
    refine lv_iload_n hx hb dX4_letter_10 rfl (lv_at hl 2 rfl) ?_
    refine lv_bipush (v := (nI 33)) hx hb dX4_letter_11 (by decide) ?_
    refine lv_bipush (v := (nI 126)) hx hb dX4_letter_13 (by decide) ?_
    refine m_d1 (v := .int (bI (btw (nI q) (nI 33) (nI 126)))) (ct1 := ctM aC ad n th sz sg me gr lk P co tb fd wd sm rc X) (va_runS (As := [.int (nI q), .int (nI 33), .int (nI 126)]) (rest := []) F (c_between l (nI q) (nI 33) (nI 126)) (va_cwS 3 F.2.2.2.2 (go_S (fun _ h => tb_O h) mlX4_54 stX4_between iniX4 cdX4_between) rfl rfl rfl (by decide +kernel) ⟨Nat.le_of_ble_eq_true rfl, Nat.le_of_ble_eq_true rfl⟩) (mPreS hKK hM (Nat.le_trans hlo hS.1)) rfl rfl hl.1 rfl (lv_room (Nat.le_of_ble_eq_true rfl)) dX4_letter_15 ⟨Nat.le_of_ble_eq_true rfl, Nat.le_of_ble_eq_true rfl⟩) hS (fun H locs hM hS => ?_)
    refine lv_if_ne (tgt := 24) hx hb dX4_letter_18 (by decide) (fun c_18 => ?_) (fun c_18 => ?_)
    · skip
      refine lv_aload_n hx hb dX4_letter_24 rfl (lv_at hl 0 rfl) ?_
      refine m_get F (ci := 4) (v := .ref (ad 1002)) (fun w h => tb_O (inX4 w h)) hK hM ctM_o rfl 2 (by decide) (tb_O lkX4_13) rfl dX4_letter_25 ?_
      refine lv_iload_n hx hb dX4_letter_28 rfl (lv_at hl 1 rfl) ?_
      refine m_iald F hK hM 0 rfl (j := j) ctM_asz (by omega) (by decide) dX4_letter_29 ?_
      refine m_top (y := (nI (sz j))) rfl ?_
      refine lv_bipush (v := (nI 20)) hx hb dX4_letter_30 (by decide) ?_
      refine m_icmp_ne F (a := (sz j)) (b := 20) (by omega) (by omega) (tgt := 38) dX4_letter_32 (by decide) (fun c_32 => ?_) (fun c_32 => ?_)
      · skip
        refine lv_aload_n hx hb dX4_letter_38 rfl (lv_at hl 0 rfl) ?_
        refine m_get F (ci := 4) (v := .ref (ad 1003)) (fun w h => tb_O (inX4 w h)) hK hM ctM_o rfl 3 (by decide) (tb_O lkX4_17) rfl dX4_letter_39 ?_
        refine lv_bipush (v := (nI 20)) hx hb dX4_letter_42 (by decide) ?_
        refine lv_iload_n hx hb dX4_letter_44 rfl (lv_at hl 1 rfl) ?_
        refine lv_imul hx hb dX4_letter_45 ?_
        refine m_top (pk_mul 20 j) ?_
        refine lv_aload_n hx hb dX4_letter_46 rfl (lv_at hl 0 rfl) ?_
        refine m_get F (ci := 4) (v := .ref (ad 1002)) (fun w h => tb_O (inX4 w h)) hK hM ctM_o rfl 2 (by decide) (tb_O lkX4_13) rfl dX4_letter_47 ?_
        refine lv_iload_n hx hb dX4_letter_50 rfl (lv_at hl 1 rfl) ?_
        refine m_iald F hK hM 0 rfl (j := j) ctM_asz (by omega) (by decide) dX4_letter_51 ?_
        refine m_top (y := (nI (sz j))) rfl ?_
        refine lv_iadd hx hb dX4_letter_52 ?_
        refine m_top (nI_add (20 * j) (sz j)) ?_
        refine lv_iload_n hx hb dX4_letter_53 rfl (lv_at hl 2 rfl) ?_
        refine m_iast F hK hM hS 0 rfl (j := (20 * j + (sz j))) (x := (nI q)) ctM_asg (by omega) (by decide) dX4_letter_54 (fun H locs hM hS => ?_)
        have hM : mw D vwCl lo ad (ctM aC ad n th sz (un sg (20 * j + (sz j)) q) me gr lk P co tb fd wd sm rc X) H := by rw [upd_nI, ctM_sg] at hM; exact hM
        refine lv_aload_n hx hb dX4_letter_55 rfl (lv_at hl 0 rfl) ?_
        refine m_get F (ci := 4) (v := .ref (ad 1002)) (fun w h => tb_O (inX4 w h)) hK hM ctM_o rfl 2 (by decide) (tb_O lkX4_13) rfl dX4_letter_56 ?_
        refine lv_iload_n hx hb dX4_letter_59 rfl (lv_at hl 1 rfl) ?_
        refine lv_dup2_11 hx hb dX4_letter_60 rfl rfl ?_
        refine m_iald F hK hM 0 rfl (j := j) ctM_asz (by omega) (by decide) dX4_letter_61 ?_
        refine m_top (y := (nI (sz j))) rfl ?_
        refine lv_iconst (v := (nI 1)) hx hb dX4_letter_62 (by decide) ?_
        refine lv_iadd hx hb dX4_letter_63 ?_
        refine m_top (nI_add (sz j) 1) ?_
        refine m_iast F hK hM hS 0 rfl (j := j) (x := (nI (sz j + 1))) ctM_asz (by omega) (by decide) dX4_letter_64 (fun H locs hM hS => ?_)
        have hM : mw D vwCl lo ad (ctM aC ad n th (un sz j (sz j + 1)) (un sg (20 * j + (sz j)) q) me gr lk P co tb fd wd sm rc X) H := by rw [upd_nI, ctM_sz] at hM; exact hM
        refine lv_aload_n hx hb dX4_letter_65 rfl (lv_at hl 0 rfl) ?_
        refine m_get F (ci := 4) (v := .ref (ad 1002)) (fun w h => tb_O (inX4 w h)) hK hM ctM_o rfl 2 (by decide) (tb_O lkX4_13) rfl dX4_letter_66 ?_
        refine lv_iload_n hx hb dX4_letter_69 rfl (lv_at hl 1 rfl) ?_
        refine m_iald F hK hM 0 rfl (j := j) ctM_asz (by omega) (by decide) dX4_letter_70 ?_
        refine m_top (y := (nI (sz j + 1))) (congrArg nI (va_up_self _ _ _)) ?_
        exact W.iret hx hb hr (fun t ht hW => ⟨⟨_, _, _, rfl, ⟨rfl, rfl, rfl⟩, by rw [ht]; exact hM⟩, hS.F ht⟩) hS.2.2 dX4_letter_71
      · skip
        exact absurd c_32 (by omega)
    · skip
      exact absurd (by rw [btw_nI hq1 hq2 (by omega)]; decide) (fun h : ¬ bI (btw (nI q) (nI 33) (nI 126)) = 0 => h c_18)
  · skip
    exact absurd (by rw [isE_nI hj1 hj2 h200, ht]; decide) (fun h : ¬ bI (isE n th (nI j)) = 0 => h c_5)

set_option maxHeartbeats 4000000 in
set_option maxRecDepth 100000 in
theorem c_mCount (l : Launch) {D : va_G} {aC : Nat → ClassId} {lo : Nat} {ad : Nat → Nat} {n : Nat} {th : Nat → Bool} {sz : Nat → Nat} {sg : Nat → Nat} {me : Nat → Nat} {gr : Nat → Int32} {lk : Int32} {P : Nat} {co : Nat → Option Nat} {tb : Nat → Nat} {fd : Nat} {wd : Nat → Nat} {sm : Nat → Nat} {rc : Nat → Nat} {X : Nat → Option va_E} (h200 : n ≤ 200) : Met l yX4_count (wsO yX4_count cX4_count 3 (some .int)) ({ frames := 0, cells := 0, slots := 0, locals := 0 } : Room) (mPc D vwCl (tyA aC) lo ad (ctM aC ad n th sz sg me gr lk P co tb fd wd sm rc X) [.ref (ad 1000)]) (mD1 D vwCl lo (.int (nI (cnt (th) n))) ad (ctM aC ad n th sz sg me gr lk P co tb fd wd sm rc X)) 0 0 (fun q => lo ≤ q) := by
  refine Met.ofW (cc := cX4_count) (maxL := 3) (ret := (some .int)) (by decide) rfl ?_
  intro pr en s0 mm args below meth cc0 s₁ B hml hv
  obtain ⟨rfl, hlo, hM, hKK⟩ := hv
  have hK := hKK.1
  have hr := B.returns
  have hts := atoms_spec (ws := (wsO yX4_count cX4_count 3 (some .int))) B.pre
  have F : CallFix pr mm cc0 cX4_count 3 s0 (([.ref (ad 1000)] : List Value).toArray) (wsO yX4_count cX4_count 3 (some .int)) RX4 := ⟨B.exec, B.bytes, hml, findClass_of_methodNamed B.named, hts⟩
  have hx := F.1
  have hb := F.2.1
  have hlocks := B.notSynchronized
  have hS : va_S (fun q => lo ≤ q) s0.heap s0.heap [] := va_S.rf
  have hl := lv_entry ([.ref (ad 1000)]) (n := 3) (Nat.le_of_ble_eq_true rfl)
  rw [lg_entry_eq]
  generalize (lg_sl ([.ref (ad 1000)]) ++ List.replicate (3 - (lg_sl ([.ref (ad 1000)])).length) Slot.unset).toArray = ls at hl ⊢
  have hl : lv_has ls 3 [(0, .ref (ad 1000))] := hl
  have loop_4 : ∀ (fu : Nat) (i : Nat), (i ≤ n) → n + 1 - i ≤ fu → ∀ (H : Heap) (locs : List Loc) (ls : Array Slot), mw D vwCl lo ad (ctM aC ad n th sz sg me gr lk P co tb fd wd sm rc X) H → va_S (fun q => lo ≤ q) s0.heap H locs → lv_has ls 3 [(0, .ref (ad 1000)), (1, .int (nI (cnt (th) i))), (2, .int (nI (i + 1)))] → W pr l en (headSpec (wsO yX4_count cX4_count 3 (some .int)) ({ frames := 0, cells := 0, slots := 0, locals := 0 } : Room)).room s0 mm (([.ref (ad 1000)] : List Value).toArray) below meth cc0 H locs 0 0 (MQ below (mD1 D vwCl lo (.int (nI (cnt (th) n))) ad (ctM aC ad n th sz sg me gr lk P co tb fd wd sm rc X)) (([.ref (ad 1000)] : List Value).toArray) s0 0 0 (fun q => lo ≤ q)) (F0 mm 4 ls []) := by
    intro fu
    induction fu with
    | zero =>
      intro i hi hfu H locs ls hM hS hl
      exact absurd hfu (by omega)
    | succ fu ih_4 =>
      intro i hi hfu H locs ls hM hS hl
      have hcl := cnt_le (th) i
      refine lv_iload_n hx hb dX4_count_4 rfl (lv_at hl 2 rfl) ?_
      refine lv_aload_n hx hb dX4_count_5 rfl (lv_at hl 0 rfl) ?_
      refine m_get F (ci := 4) (v := .int (nI n)) (fun w h => tb_O (inX4 w h)) hK hM ctM_o rfl 0 (by decide) (tb_O lkX4_51) rfl dX4_count_6 ?_
      refine m_icmp_gt F (a := (i + 1)) (b := n) (by omega) (by omega) (tgt := 35) dX4_count_9 (by decide) (fun c_9 => ?_) (fun c_9 => ?_)
      · skip
        have hin9 : n = i := by omega
        subst hin9
        refine lv_iload_n hx hb dX4_count_35 rfl (lv_at hl 1 rfl) ?_
        exact W.iret hx hb hr (fun t ht hW => ⟨⟨_, _, _, rfl, ⟨rfl, rfl, rfl⟩, by rw [ht]; exact hM⟩, hS.F ht⟩) hS.2.2 dX4_count_36
      · skip
        refine lv_aload_n hx hb dX4_count_12 rfl (lv_at hl 0 rfl) ?_
        refine m_get F (ci := 4) (v := .ref (ad 1001)) (fun w h => tb_O (inX4 w h)) hK hM ctM_o rfl 1 (by decide) (tb_O lkX4_7) rfl dX4_count_13 ?_
        refine lv_iload_n hx hb dX4_count_16 rfl (lv_at hl 2 rfl) ?_
        refine m_zald F hK hM 2 rfl (j := (i + 1)) ctM_ath (by omega) (by decide) dX4_count_17 ?_
        refine m_top (y := (bI (th (i + 1)))) rfl ?_
        refine lv_if_eq (tgt := 27) hx hb dX4_count_18 (by decide) (fun c_18 => ?_) (fun c_18 => ?_)
        · skip
          refine lv_iload_n hx hb dX4_count_27 rfl (lv_at hl 1 rfl) ?_
          refine lv_istore_n (lv' := [(1, .int (nI (cnt (th) i))), (0, .ref (ad 1000)), (2, .int (nI (i + 1)))]) hx hb dX4_count_28 rfl hl (by decide) rfl (fun ls hl => ?_)
          refine lv_iinc (v := (nI (i + 1 + 1))) (lv' := [(2, .int (nI (i + 1 + 1))), (1, .int (nI (cnt (th) i))), (0, .ref (ad 1000))]) hx hb dX4_count_29 hl (k := 2) rfl (nI_1 (i + 1)) (by decide) rfl (fun ls hl => ?_)
          refine lv_goto (tgt := 4) hx hb dX4_count_32 (by decide) ?_
          have hcn : cnt (th) (i + 1) = cnt (th) i := by show cnt (th) i + _ = _; rw [if_neg (by rw [bI_eq c_18]; decide)]; rfl
          rw [← hcn] at hl
          exact ih_4 (i + 1) (by omega) (by omega) _ _ _ hM hS (lv_sub hl [2, 1, 0] rfl)
        · skip
          refine lv_iload_n hx hb dX4_count_21 rfl (lv_at hl 1 rfl) ?_
          refine lv_iconst (v := (nI 1)) hx hb dX4_count_22 (by decide) ?_
          refine lv_iadd hx hb dX4_count_23 ?_
          refine m_top (nI_add (cnt (th) i) 1) ?_
          refine lv_goto (tgt := 28) hx hb dX4_count_24 (by decide) ?_
          refine lv_istore_n (lv' := [(1, .int (nI (cnt (th) i + 1))), (0, .ref (ad 1000)), (2, .int (nI (i + 1)))]) hx hb dX4_count_28 rfl hl (by decide) rfl (fun ls hl => ?_)
          refine lv_iinc (v := (nI (i + 1 + 1))) (lv' := [(2, .int (nI (i + 1 + 1))), (1, .int (nI (cnt (th) i + 1))), (0, .ref (ad 1000))]) hx hb dX4_count_29 hl (k := 2) rfl (nI_1 (i + 1)) (by decide) rfl (fun ls hl => ?_)
          refine lv_goto (tgt := 4) hx hb dX4_count_32 (by decide) ?_
          have hcn : cnt (th) (i + 1) = cnt (th) i + 1 := by show cnt (th) i + _ = _; rw [if_pos (bI_ne c_18)]
          rw [← hcn] at hl
          exact ih_4 (i + 1) (by omega) (by omega) _ _ _ hM hS (lv_sub hl [2, 1, 0] rfl)
  refine lv_iconst (v := (nI 0)) hx hb dX4_count_0 (by decide) ?_
  refine lv_istore_n (lv' := [(1, .int (nI 0)), (0, .ref (ad 1000))]) hx hb dX4_count_1 rfl hl (by decide) rfl (fun ls hl => ?_)
  refine lv_iconst (v := (nI 1)) hx hb dX4_count_2 (by decide) ?_
  refine lv_istore_n (lv' := [(2, .int (nI 1)), (1, .int (nI 0)), (0, .ref (ad 1000))]) hx hb dX4_count_3 rfl hl (by decide) rfl (fun ls hl => ?_)
  exact loop_4 (n + 1) 0 (Nat.zero_le _) (by omega) _ _ _ hM hS (lv_sub hl [2, 1, 0] rfl)

set_option maxHeartbeats 4000000 in
set_option maxRecDepth 100000 in
theorem c_mDropU (l : Launch) {D : va_G} {aC : Nat → ClassId} {lo : Nat} {ad : Nat → Nat} {n : Nat} {th : Nat → Bool} {sz : Nat → Nat} {sg : Nat → Nat} {me : Nat → Nat} {gr : Nat → Int32} {lk : Int32} {P : Nat} {co : Nat → Option Nat} {tb : Nat → Nat} {fd : Nat} {wd : Nat → Nat} {sm : Nat → Nat} {rc : Nat → Nat} {X : Nat → Option va_E} (x : Int32) (hn0 : isE n th x = false) (h200 : n ≤ 200) : Met l yX4_drop (wsO yX4_drop cX4_drop 3 (some .int)) ({ frames := 2, cells := 0, slots := 0, locals := 43 } : Room) (mPc D vwCl (tyA aC) lo ad (ctM aC ad n th sz sg me gr lk P co tb fd wd sm rc X) [.ref (ad 1000), .int x]) (mD1 D vwCl lo (.int (-1)) ad (ctM aC ad n th sz sg me gr lk P co tb fd wd sm rc X)) 0 0 (fun q => lo ≤ q) := by
  refine Met.ofW (cc := cX4_drop) (maxL := 3) (ret := (some .int)) (by decide) rfl ?_
  intro pr en s0 mm args below meth cc0 s₁ B hml hv
  obtain ⟨rfl, hlo, hM, hKK⟩ := hv
  have hK := hKK.1
  have hr := B.returns
  have hts := atoms_spec (ws := (wsO yX4_drop cX4_drop 3 (some .int))) B.pre
  have F : CallFix pr mm cc0 cX4_drop 3 s0 (([.ref (ad 1000), .int x] : List Value).toArray) (wsO yX4_drop cX4_drop 3 (some .int)) RX4 := ⟨B.exec, B.bytes, hml, findClass_of_methodNamed B.named, hts⟩
  have hx := F.1
  have hb := F.2.1
  have hlocks := B.notSynchronized
  have hS : va_S (fun q => lo ≤ q) s0.heap s0.heap [] := va_S.rf
  have hl := lv_entry ([.ref (ad 1000), .int x]) (n := 3) (Nat.le_of_ble_eq_true rfl)
  rw [lg_entry_eq]
  generalize (lg_sl ([.ref (ad 1000), .int x]) ++ List.replicate (3 - (lg_sl ([.ref (ad 1000), .int x])).length) Slot.unset).toArray = ls at hl ⊢
  have hl : lv_has ls 3 [(0, .ref (ad 1000)), (1, .int x)] := hl
  refine lv_aload_n hx hb dX4_drop_0 rfl (lv_at hl 0 rfl) ?_
  refine lv_iload_n hx hb dX4_drop_1 rfl (lv_at hl 1 rfl) ?_
  refine m_d1 (v := .int (bI (isE n th x))) (ct1 := ctM aC ad n th sz sg me gr lk P co tb fd wd sm rc X) (va_runV (As := [.int x]) (rest := []) F (c_mIsE l x h200) (cwV 1 F.2.2.2.2 (go_V (fun _ h => tb_O h) mlX4_58 imX4_isEntry seX4_isEntry iniX4 cdX4_isEntry) rfl rfl rfl (by decide +kernel) ⟨Nat.le_of_ble_eq_true rfl, Nat.le_of_ble_eq_true rfl⟩) (mPreV hKK hM (Nat.le_trans hlo hS.1) ctM_o rfl) rfl rfl hl.1 rfl (lv_room (Nat.le_of_ble_eq_true rfl)) dX4_drop_2 ⟨Nat.le_of_ble_eq_true rfl, Nat.le_of_ble_eq_true rfl⟩) hS (fun H locs hM hS => ?_)
  refine lv_if_ne (tgt := 10) hx hb dX4_drop_5 (by decide) (fun c_5 => ?_) (fun c_5 => ?_)
  · skip
    exact absurd (by rw [hn0]; rfl) c_5
  · skip
    refine lv_iconst (v := (-1)) hx hb dX4_drop_8 (by decide) ?_
    exact W.iret hx hb hr (fun t ht hW => ⟨⟨_, _, _, rfl, ⟨rfl, rfl, rfl⟩, by rw [ht]; exact hM⟩, hS.F ht⟩) hS.2.2 dX4_drop_9

set_option maxHeartbeats 4000000 in
set_option maxRecDepth 100000 in
theorem c_mDrop (l : Launch) {D : va_G} {aC : Nat → ClassId} {lo : Nat} {ad : Nat → Nat} {n : Nat} {th : Nat → Bool} {sz : Nat → Nat} {sg : Nat → Nat} {me : Nat → Nat} {gr : Nat → Int32} {lk : Int32} {P : Nat} {co : Nat → Option Nat} {tb : Nat → Nat} {fd : Nat} {wd : Nat → Nat} {sm : Nat → Nat} {rc : Nat → Nat} {X : Nat → Option va_E} (j : Nat) (hj1 : 1 ≤ j) (hj2 : j ≤ n) (h200 : n ≤ 200) (ht : th j = true) (hme : ∀ k, me k ≤ 200) : Met l yX4_drop (wsO yX4_drop cX4_drop 3 (some .int)) ({ frames := 2, cells := 0, slots := 0, locals := 43 } : Room) (mPc D vwCl (tyA aC) lo ad (ctM aC ad n th sz sg me gr lk P co tb fd wd sm rc X) [.ref (ad 1000), .int (nI j)]) (mD1 D vwCl lo (.int (nI (cnt (va_up th j false) n))) ad (ctM aC ad n (va_up th j false) sz sg (drM me j n) gr lk P co tb fd wd sm rc X)) 0 0 (fun q => lo ≤ q) := by
  refine Met.ofW (cc := cX4_drop) (maxL := 3) (ret := (some .int)) (by decide) rfl ?_
  intro pr en s0 mm args below meth cc0 s₁ B hml hv
  obtain ⟨rfl, hlo, hM, hKK⟩ := hv
  have hK := hKK.1
  have hr := B.returns
  have hts := atoms_spec (ws := (wsO yX4_drop cX4_drop 3 (some .int))) B.pre
  have F : CallFix pr mm cc0 cX4_drop 3 s0 (([.ref (ad 1000), .int (nI j)] : List Value).toArray) (wsO yX4_drop cX4_drop 3 (some .int)) RX4 := ⟨B.exec, B.bytes, hml, findClass_of_methodNamed B.named, hts⟩
  have hx := F.1
  have hb := F.2.1
  have hlocks := B.notSynchronized
  have hS : va_S (fun q => lo ≤ q) s0.heap s0.heap [] := va_S.rf
  have hl := lv_entry ([.ref (ad 1000), .int (nI j)]) (n := 3) (Nat.le_of_ble_eq_true rfl)
  rw [lg_entry_eq]
  generalize (lg_sl ([.ref (ad 1000), .int (nI j)]) ++ List.replicate (3 - (lg_sl ([.ref (ad 1000), .int (nI j)])).length) Slot.unset).toArray = ls at hl ⊢
  have hl : lv_has ls 3 [(0, .ref (ad 1000)), (1, .int (nI j))] := hl
  have loop_19 : ∀ (fu : Nat) (i : Nat), (i ≤ n) → n + 1 - i ≤ fu → ∀ (H : Heap) (locs : List Loc) (ls : Array Slot), mw D vwCl lo ad (ctM aC ad n (va_up th j false) sz sg (drM me j i) gr lk P co tb fd wd sm rc X) H → va_S (fun q => lo ≤ q) s0.heap H locs → lv_has ls 3 [(0, .ref (ad 1000)), (1, .int (nI j)), (2, .int (nI (i + 1)))] → W pr l en (headSpec (wsO yX4_drop cX4_drop 3 (some .int)) ({ frames := 2, cells := 0, slots := 0, locals := 43 } : Room)).room s0 mm (([.ref (ad 1000), .int (nI j)] : List Value).toArray) below meth cc0 H locs 0 0 (MQ below (mD1 D vwCl lo (.int (nI (cnt (va_up th j false) n))) ad (ctM aC ad n (va_up th j false) sz sg (drM me j n) gr lk P co tb fd wd sm rc X)) (([.ref (ad 1000), .int (nI j)] : List Value).toArray) s0 0 0 (fun q => lo ≤ q)) (F0 mm 19 ls []) := by
    intro fu
    induction fu with
    | zero =>
      intro i hi hfu H locs ls hM hS hl
      exact absurd hfu (by omega)
    | succ fu ih_19 =>
      intro i hi hfu H locs ls hM hS hl
      have hme1 := hme (i + 1)
      have hda : drM me j i (i + 1) = me (i + 1) := drM_at
      refine lv_iload_n hx hb dX4_drop_19 rfl (lv_at hl 2 rfl) ?_
      refine lv_aload_n hx hb dX4_drop_20 rfl (lv_at hl 0 rfl) ?_
      refine m_get F (ci := 4) (v := .int (nI n)) (fun w h => tb_O (inX4 w h)) hK hM ctM_o rfl 0 (by decide) (tb_O lkX4_51) rfl dX4_drop_21 ?_
      refine m_icmp_gt F (a := (i + 1)) (b := n) (by omega) (by omega) (tgt := 59) dX4_drop_24 (by decide) (fun c_24 => ?_) (fun c_24 => ?_)
      · skip
        have hin9 : n = i := by omega
        subst hin9
        refine lv_aload_n hx hb dX4_drop_59 rfl (lv_at hl 0 rfl) ?_
        refine m_d1 (v := .int (nI (cnt (va_up th j false) n))) (ct1 := ctM aC ad n (va_up th j false) sz sg (drM me j n) gr lk P co tb fd wd sm rc X) (va_runV (As := []) (rest := []) F (c_mCount l h200) (cwV 0 F.2.2.2.2 (go_V (fun _ h => tb_O h) mlX4_62 imX4_count seX4_count iniX4 cdX4_count) rfl rfl rfl (by decide +kernel) ⟨Nat.le_of_ble_eq_true rfl, Nat.le_of_ble_eq_true rfl⟩) (mPreV hKK hM (Nat.le_trans hlo hS.1) ctM_o rfl) rfl rfl hl.1 rfl (lv_room (Nat.le_of_ble_eq_true rfl)) dX4_drop_60 ⟨Nat.le_of_ble_eq_true rfl, Nat.le_of_ble_eq_true rfl⟩) hS (fun H locs hM hS => ?_)
        exact W.iret hx hb hr (fun t ht hW => ⟨⟨_, _, _, rfl, ⟨rfl, rfl, rfl⟩, by rw [ht]; exact hM⟩, hS.F ht⟩) hS.2.2 dX4_drop_63
      · skip
        refine lv_aload_n hx hb dX4_drop_27 rfl (lv_at hl 0 rfl) ?_
        refine m_get F (ci := 4) (v := .ref (ad 1004)) (fun w h => tb_O (inX4 w h)) hK hM ctM_o rfl 4 (by decide) (tb_O lkX4_20) rfl dX4_drop_28 ?_
        refine lv_iload_n hx hb dX4_drop_31 rfl (lv_at hl 2 rfl) ?_
        refine lv_aload_n hx hb dX4_drop_32 rfl (lv_at hl 0 rfl) ?_
        refine m_get F (ci := 4) (v := .ref (ad 1004)) (fun w h => tb_O (inX4 w h)) hK hM ctM_o rfl 4 (by decide) (tb_O lkX4_20) rfl dX4_drop_33 ?_
        refine lv_iload_n hx hb dX4_drop_36 rfl (lv_at hl 2 rfl) ?_
        refine m_iald F hK hM 0 rfl (j := (i + 1)) ctM_ame (by omega) (by decide) dX4_drop_37 ?_
        refine m_top (y := (nI (me (i + 1)))) (congrArg nI hda) ?_
        refine lv_iload_n hx hb dX4_drop_38 rfl (lv_at hl 1 rfl) ?_
        refine m_icmp_ne F (a := (me (i + 1))) (b := j) (by omega) (by omega) (tgt := 46) dX4_drop_39 (by decide) (fun c_39 => ?_) (fun c_39 => ?_)
        · skip
          refine lv_aload_n hx hb dX4_drop_46 rfl (lv_at hl 0 rfl) ?_
          refine m_get F (ci := 4) (v := .ref (ad 1004)) (fun w h => tb_O (inX4 w h)) hK hM ctM_o rfl 4 (by decide) (tb_O lkX4_20) rfl dX4_drop_47 ?_
          refine lv_iload_n hx hb dX4_drop_50 rfl (lv_at hl 2 rfl) ?_
          refine m_iald F hK hM 0 rfl (j := (i + 1)) ctM_ame (by omega) (by decide) dX4_drop_51 ?_
          refine m_top (y := (nI (me (i + 1)))) (congrArg nI hda) ?_
          refine m_iast F hK hM hS 0 rfl (j := (i + 1)) (x := (nI (me (i + 1)))) ctM_ame (by omega) (by decide) dX4_drop_52 (fun H locs hM hS => ?_)
          have hM : mw D vwCl lo ad (ctM aC ad n (va_up th j false) sz sg (drM me j (i + 1)) gr lk P co tb fd wd sm rc X) H := by rw [upd_nI, drM_s (by first | rw [if_pos c_39] | rw [if_neg c_39]), ctM_me] at hM; exact hM
          refine lv_iinc (v := (nI (i + 1 + 1))) (lv' := [(2, .int (nI (i + 1 + 1))), (0, .ref (ad 1000)), (1, .int (nI j))]) hx hb dX4_drop_53 hl (k := 2) rfl (nI_1 (i + 1)) (by decide) rfl (fun ls hl => ?_)
          refine lv_goto (tgt := 19) hx hb dX4_drop_56 (by decide) ?_
          exact ih_19 (i + 1) (by omega) (by omega) _ _ _ hM hS (lv_sub hl [1, 2, 0] rfl)
        · skip
          refine lv_iconst (v := (nI 0)) hx hb dX4_drop_42 (by decide) ?_
          refine lv_goto (tgt := 52) hx hb dX4_drop_43 (by decide) ?_
          refine m_iast F hK hM hS 0 rfl (j := (i + 1)) (x := (nI 0)) ctM_ame (by omega) (by decide) dX4_drop_52 (fun H locs hM hS => ?_)
          have hM : mw D vwCl lo ad (ctM aC ad n (va_up th j false) sz sg (drM me j (i + 1)) gr lk P co tb fd wd sm rc X) H := by rw [upd_nI, drM_s (by first | rw [if_pos c_39] | rw [if_neg c_39]), ctM_me] at hM; exact hM
          refine lv_iinc (v := (nI (i + 1 + 1))) (lv' := [(2, .int (nI (i + 1 + 1))), (0, .ref (ad 1000)), (1, .int (nI j))]) hx hb dX4_drop_53 hl (k := 2) rfl (nI_1 (i + 1)) (by decide) rfl (fun ls hl => ?_)
          refine lv_goto (tgt := 19) hx hb dX4_drop_56 (by decide) ?_
          exact ih_19 (i + 1) (by omega) (by omega) _ _ _ hM hS (lv_sub hl [1, 2, 0] rfl)
  refine lv_aload_n hx hb dX4_drop_0 rfl (lv_at hl 0 rfl) ?_
  refine lv_iload_n hx hb dX4_drop_1 rfl (lv_at hl 1 rfl) ?_
  refine m_d1 (v := .int (bI (isE n th (nI j)))) (ct1 := ctM aC ad n th sz sg me gr lk P co tb fd wd sm rc X) (va_runV (As := [.int (nI j)]) (rest := []) F (c_mIsE l (nI j) h200) (cwV 1 F.2.2.2.2 (go_V (fun _ h => tb_O h) mlX4_58 imX4_isEntry seX4_isEntry iniX4 cdX4_isEntry) rfl rfl rfl (by decide +kernel) ⟨Nat.le_of_ble_eq_true rfl, Nat.le_of_ble_eq_true rfl⟩) (mPreV hKK hM (Nat.le_trans hlo hS.1) ctM_o rfl) rfl rfl hl.1 rfl (lv_room (Nat.le_of_ble_eq_true rfl)) dX4_drop_2 ⟨Nat.le_of_ble_eq_true rfl, Nat.le_of_ble_eq_true rfl⟩) hS (fun H locs hM hS => ?_)
  refine lv_if_ne (tgt := 10) hx hb dX4_drop_5 (by decide) (fun c_5 => ?_) (fun c_5 => ?_)
  · skip
    refine lv_aload_n hx hb dX4_drop_10 rfl (lv_at hl 0 rfl) ?_
    refine m_get F (ci := 4) (v := .ref (ad 1001)) (fun w h => tb_O (inX4 w h)) hK hM ctM_o rfl 1 (by decide) (tb_O lkX4_7) rfl dX4_drop_11 ?_
    refine lv_iload_n hx hb dX4_drop_14 rfl (lv_at hl 1 rfl) ?_
    refine lv_iconst (v := (nI 0)) hx hb dX4_drop_15 (by decide) ?_
    refine m_zast F hK hM hS 2 rfl (j := j) (b := false) ctM_ath (by omega) (by decide) dX4_drop_16 (fun H locs hM hS => ?_)
    have hM : mw D vwCl lo ad (ctM aC ad n (va_up th j false) sz sg me gr lk P co tb fd wd sm rc X) H := by rw [upd_bI, ctM_th] at hM; exact hM
    refine lv_iconst (v := (nI 1)) hx hb dX4_drop_17 (by decide) ?_
    refine lv_istore_n (lv' := [(2, .int (nI 1)), (0, .ref (ad 1000)), (1, .int (nI j))]) hx hb dX4_drop_18 rfl hl (by decide) rfl (fun ls hl => ?_)
    exact loop_19 (n + 1) 0 (Nat.zero_le _) (by omega) _ _ _ (by rw [drM_0]; exact hM) hS (lv_sub hl [1, 2, 0] rfl)
  · skip
    exact absurd (by rw [isE_nI hj1 hj2 h200, ht]; decide) (fun h : ¬ bI (isE n th (nI j)) = 0 => h c_5)

set_option maxHeartbeats 4000000 in
set_option maxRecDepth 100000 in
theorem c_mCostO (l : Launch) {D : va_G} {aC : Nat → ClassId} {lo : Nat} {ad : Nat → Nat} {n : Nat} {th : Nat → Bool} {sz : Nat → Nat} {sg : Nat → Nat} {me : Nat → Nat} {gr : Nat → Int32} {lk : Int32} {P : Nat} {co : Nat → Option Nat} {tb : Nat → Nat} {fd : Nat} {wd : Nat → Nat} {sm : Nat → Nat} {rc : Nat → Nat} {X : Nat → Option va_E} (x y z : Int32) (hk : okM x y z = false) : Met l yX4_cost (wsO yX4_cost cX4_cost 4 (some .int)) ({ frames := 1, cells := 0, slots := 0, locals := 22 } : Room) (mPc D vwCl (tyA aC) lo ad (ctM aC ad n th sz sg me gr lk P co tb fd wd sm rc X) [.ref (ad 1000), .int x, .int y, .int z]) (mD1 D vwCl lo (.int (-2)) ad (ctM aC ad n th sz sg me gr lk P co tb fd wd sm rc X)) 0 0 (fun q => lo ≤ q) := by
  refine Met.ofW (cc := cX4_cost) (maxL := 4) (ret := (some .int)) (by decide) rfl ?_
  intro pr en s0 mm args below meth cc0 s₁ B hml hv
  obtain ⟨rfl, hlo, hM, hKK⟩ := hv
  have hK := hKK.1
  have hr := B.returns
  have hts := atoms_spec (ws := (wsO yX4_cost cX4_cost 4 (some .int))) B.pre
  have F : CallFix pr mm cc0 cX4_cost 4 s0 (([.ref (ad 1000), .int x, .int y, .int z] : List Value).toArray) (wsO yX4_cost cX4_cost 4 (some .int)) RX4 := ⟨B.exec, B.bytes, hml, findClass_of_methodNamed B.named, hts⟩
  have hx := F.1
  have hb := F.2.1
  have hlocks := B.notSynchronized
  have hS : va_S (fun q => lo ≤ q) s0.heap s0.heap [] := va_S.rf
  have hl := lv_entry ([.ref (ad 1000), .int x, .int y, .int z]) (n := 4) (Nat.le_of_ble_eq_true rfl)
  rw [lg_entry_eq]
  generalize (lg_sl ([.ref (ad 1000), .int x, .int y, .int z]) ++ List.replicate (4 - (lg_sl ([.ref (ad 1000), .int x, .int y, .int z])).length) Slot.unset).toArray = ls at hl ⊢
  have hl : lv_has ls 4 [(0, .ref (ad 1000)), (1, .int x), (2, .int y), (3, .int z)] := hl
  refine lv_iload_n hx hb dX4_cost_0 rfl (lv_at hl 1 rfl) ?_
  refine lv_iconst (v := (nI 0)) hx hb dX4_cost_1 (by decide) ?_
  refine lv_bipush (v := (nI 19)) hx hb dX4_cost_2 (by decide) ?_
  refine m_d1 (v := .int (bI (btw x (nI 0) (nI 19)))) (ct1 := ctM aC ad n th sz sg me gr lk P co tb fd wd sm rc X) (va_runS (As := [.int x, .int (nI 0), .int (nI 19)]) (rest := []) F (c_between l x (nI 0) (nI 19)) (va_cwS 3 F.2.2.2.2 (go_S (fun _ h => tb_O h) mlX4_54 stX4_between iniX4 cdX4_between) rfl rfl rfl (by decide +kernel) ⟨Nat.le_of_ble_eq_true rfl, Nat.le_of_ble_eq_true rfl⟩) (mPreS hKK hM (Nat.le_trans hlo hS.1)) rfl rfl hl.1 rfl (lv_room (Nat.le_of_ble_eq_true rfl)) dX4_cost_4 ⟨Nat.le_of_ble_eq_true rfl, Nat.le_of_ble_eq_true rfl⟩) hS (fun H locs hM hS => ?_)
  refine lv_if_eq (tgt := 32) hx hb dX4_cost_7 (by decide) (fun c_7 => ?_) (fun c_7 => ?_)
  · skip
    refine lv_bipush (v := (-2)) hx hb dX4_cost_32 (by decide) ?_
    exact W.iret hx hb hr (fun t ht hW => ⟨⟨_, _, _, rfl, ⟨rfl, rfl, rfl⟩, by rw [ht]; exact hM⟩, hS.F ht⟩) hS.2.2 dX4_cost_34
  · skip
    refine lv_iload_n hx hb dX4_cost_10 rfl (lv_at hl 2 rfl) ?_
    refine lv_bipush (v := (nI 33)) hx hb dX4_cost_11 (by decide) ?_
    refine lv_bipush (v := (nI 126)) hx hb dX4_cost_13 (by decide) ?_
    refine m_d1 (v := .int (bI (btw y (nI 33) (nI 126)))) (ct1 := ctM aC ad n th sz sg me gr lk P co tb fd wd sm rc X) (va_runS (As := [.int y, .int (nI 33), .int (nI 126)]) (rest := []) F (c_between l y (nI 33) (nI 126)) (va_cwS 3 F.2.2.2.2 (go_S (fun _ h => tb_O h) mlX4_54 stX4_between iniX4 cdX4_between) rfl rfl rfl (by decide +kernel) ⟨Nat.le_of_ble_eq_true rfl, Nat.le_of_ble_eq_true rfl⟩) (mPreS hKK hM (Nat.le_trans hlo hS.1)) rfl rfl hl.1 rfl (lv_room (Nat.le_of_ble_eq_true rfl)) dX4_cost_15 ⟨Nat.le_of_ble_eq_true rfl, Nat.le_of_ble_eq_true rfl⟩) hS (fun H locs hM hS => ?_)
    refine lv_if_eq (tgt := 32) hx hb dX4_cost_18 (by decide) (fun c_18 => ?_) (fun c_18 => ?_)
    · skip
      refine lv_bipush (v := (-2)) hx hb dX4_cost_32 (by decide) ?_
      exact W.iret hx hb hr (fun t ht hW => ⟨⟨_, _, _, rfl, ⟨rfl, rfl, rfl⟩, by rw [ht]; exact hM⟩, hS.F ht⟩) hS.2.2 dX4_cost_34
    · skip
      refine lv_iload_n hx hb dX4_cost_21 rfl (lv_at hl 3 rfl) ?_
      refine lv_iconst (v := (nI 0)) hx hb dX4_cost_22 (by decide) ?_
      refine lv_sipush (v := (nI 1000)) hx hb dX4_cost_23 (by decide) ?_
      refine m_d1 (v := .int (bI (btw z (nI 0) (nI 1000)))) (ct1 := ctM aC ad n th sz sg me gr lk P co tb fd wd sm rc X) (va_runS (As := [.int z, .int (nI 0), .int (nI 1000)]) (rest := []) F (c_between l z (nI 0) (nI 1000)) (va_cwS 3 F.2.2.2.2 (go_S (fun _ h => tb_O h) mlX4_54 stX4_between iniX4 cdX4_between) rfl rfl rfl (by decide +kernel) ⟨Nat.le_of_ble_eq_true rfl, Nat.le_of_ble_eq_true rfl⟩) (mPreS hKK hM (Nat.le_trans hlo hS.1)) rfl rfl hl.1 rfl (lv_room (Nat.le_of_ble_eq_true rfl)) dX4_cost_26 ⟨Nat.le_of_ble_eq_true rfl, Nat.le_of_ble_eq_true rfl⟩) hS (fun H locs hM hS => ?_)
      refine lv_if_ne (tgt := 35) hx hb dX4_cost_29 (by decide) (fun c_29 => ?_) (fun c_29 => ?_)
      · skip
        exact absurd hk (by rw [show okM x y z = (btw x (nI 0) (nI 19) && btw y (nI 33) (nI 126) && btw z (nI 0) (nI 1000)) from rfl, bI_ne c_7, bI_ne c_18, bI_ne c_29]; decide)
      · skip
        refine lv_bipush (v := (-2)) hx hb dX4_cost_32 (by decide) ?_
        exact W.iret hx hb hr (fun t ht hW => ⟨⟨_, _, _, rfl, ⟨rfl, rfl, rfl⟩, by rw [ht]; exact hM⟩, hS.F ht⟩) hS.2.2 dX4_cost_34

set_option maxHeartbeats 4000000 in
set_option maxRecDepth 100000 in
theorem c_mCost (l : Launch) {D : va_G} {aC : Nat → ClassId} {lo : Nat} {ad : Nat → Nat} {n : Nat} {th : Nat → Bool} {sz : Nat → Nat} {sg : Nat → Nat} {me : Nat → Nat} {gr : Nat → Int32} {lk : Int32} {P : Nat} {co : Nat → Option Nat} {tb : Nat → Nat} {fd : Nat} {wd : Nat → Nat} {sm : Nat → Nat} {rc : Nat → Nat} {X : Nat → Option va_E} (pl q cs : Nat) (hp : pl < 20) (hq1 : 33 ≤ q) (hq2 : q ≤ 126) (hcs : cs ≤ 1000) (hP : P ≤ 20) : Met l yX4_cost (wsO yX4_cost cX4_cost 4 (some .int)) ({ frames := 1, cells := 0, slots := 0, locals := 22 } : Room) (mPc D vwCl (tyA aC) lo ad (ctM aC ad n th sz sg me gr lk P co tb fd wd sm rc X) [.ref (ad 1000), .int (nI pl), .int (nI q), .int (nI cs)]) (mD1 D vwCl lo (.int (nI (max P (pl + 1)))) ad (ctM aC ad n th sz sg me gr lk (max P (pl + 1)) (va_up co (128 * pl + q) (some cs)) tb fd wd sm rc X)) 0 0 (fun q => lo ≤ q) := by
  refine Met.ofW (cc := cX4_cost) (maxL := 4) (ret := (some .int)) (by decide) rfl ?_
  intro pr en s0 mm args below meth cc0 s₁ B hml hv
  obtain ⟨rfl, hlo, hM, hKK⟩ := hv
  have hK := hKK.1
  have hr := B.returns
  have hts := atoms_spec (ws := (wsO yX4_cost cX4_cost 4 (some .int))) B.pre
  have F : CallFix pr mm cc0 cX4_cost 4 s0 (([.ref (ad 1000), .int (nI pl), .int (nI q), .int (nI cs)] : List Value).toArray) (wsO yX4_cost cX4_cost 4 (some .int)) RX4 := ⟨B.exec, B.bytes, hml, findClass_of_methodNamed B.named, hts⟩
  have hx := F.1
  have hb := F.2.1
  have hlocks := B.notSynchronized
  have hS : va_S (fun q => lo ≤ q) s0.heap s0.heap [] := va_S.rf
  have hl := lv_entry ([.ref (ad 1000), .int (nI pl), .int (nI q), .int (nI cs)]) (n := 4) (Nat.le_of_ble_eq_true rfl)
  rw [lg_entry_eq]
  generalize (lg_sl ([.ref (ad 1000), .int (nI pl), .int (nI q), .int (nI cs)]) ++ List.replicate (4 - (lg_sl ([.ref (ad 1000), .int (nI pl), .int (nI q), .int (nI cs)])).length) Slot.unset).toArray = ls at hl ⊢
  have hl : lv_has ls 4 [(0, .ref (ad 1000)), (1, .int (nI pl)), (2, .int (nI q)), (3, .int (nI cs))] := hl
  refine lv_iload_n hx hb dX4_cost_0 rfl (lv_at hl 1 rfl) ?_
  refine lv_iconst (v := (nI 0)) hx hb dX4_cost_1 (by decide) ?_
  refine lv_bipush (v := (nI 19)) hx hb dX4_cost_2 (by decide) ?_
  refine m_d1 (v := .int (bI (btw (nI pl) (nI 0) (nI 19)))) (ct1 := ctM aC ad n th sz sg me gr lk P co tb fd wd sm rc X) (va_runS (As := [.int (nI pl), .int (nI 0), .int (nI 19)]) (rest := []) F (c_between l (nI pl) (nI 0) (nI 19)) (va_cwS 3 F.2.2.2.2 (go_S (fun _ h => tb_O h) mlX4_54 stX4_between iniX4 cdX4_between) rfl rfl rfl (by decide +kernel) ⟨Nat.le_of_ble_eq_true rfl, Nat.le_of_ble_eq_true rfl⟩) (mPreS hKK hM (Nat.le_trans hlo hS.1)) rfl rfl hl.1 rfl (lv_room (Nat.le_of_ble_eq_true rfl)) dX4_cost_4 ⟨Nat.le_of_ble_eq_true rfl, Nat.le_of_ble_eq_true rfl⟩) hS (fun H locs hM hS => ?_)
  refine lv_if_eq (tgt := 32) hx hb dX4_cost_7 (by decide) (fun c_7 => ?_) (fun c_7 => ?_)
  · skip
    exact absurd (by rw [btw_nI (by omega) (by omega) (by omega)]; decide) (fun h : ¬ bI (btw (nI pl) (nI 0) (nI 19)) = 0 => h c_7)
  · skip
    refine lv_iload_n hx hb dX4_cost_10 rfl (lv_at hl 2 rfl) ?_
    refine lv_bipush (v := (nI 33)) hx hb dX4_cost_11 (by decide) ?_
    refine lv_bipush (v := (nI 126)) hx hb dX4_cost_13 (by decide) ?_
    refine m_d1 (v := .int (bI (btw (nI q) (nI 33) (nI 126)))) (ct1 := ctM aC ad n th sz sg me gr lk P co tb fd wd sm rc X) (va_runS (As := [.int (nI q), .int (nI 33), .int (nI 126)]) (rest := []) F (c_between l (nI q) (nI 33) (nI 126)) (va_cwS 3 F.2.2.2.2 (go_S (fun _ h => tb_O h) mlX4_54 stX4_between iniX4 cdX4_between) rfl rfl rfl (by decide +kernel) ⟨Nat.le_of_ble_eq_true rfl, Nat.le_of_ble_eq_true rfl⟩) (mPreS hKK hM (Nat.le_trans hlo hS.1)) rfl rfl hl.1 rfl (lv_room (Nat.le_of_ble_eq_true rfl)) dX4_cost_15 ⟨Nat.le_of_ble_eq_true rfl, Nat.le_of_ble_eq_true rfl⟩) hS (fun H locs hM hS => ?_)
    refine lv_if_eq (tgt := 32) hx hb dX4_cost_18 (by decide) (fun c_18 => ?_) (fun c_18 => ?_)
    · skip
      exact absurd (by rw [btw_nI (by omega) (by omega) (by omega)]; decide) (fun h : ¬ bI (btw (nI q) (nI 33) (nI 126)) = 0 => h c_18)
    · skip
      refine lv_iload_n hx hb dX4_cost_21 rfl (lv_at hl 3 rfl) ?_
      refine lv_iconst (v := (nI 0)) hx hb dX4_cost_22 (by decide) ?_
      refine lv_sipush (v := (nI 1000)) hx hb dX4_cost_23 (by decide) ?_
      refine m_d1 (v := .int (bI (btw (nI cs) (nI 0) (nI 1000)))) (ct1 := ctM aC ad n th sz sg me gr lk P co tb fd wd sm rc X) (va_runS (As := [.int (nI cs), .int (nI 0), .int (nI 1000)]) (rest := []) F (c_between l (nI cs) (nI 0) (nI 1000)) (va_cwS 3 F.2.2.2.2 (go_S (fun _ h => tb_O h) mlX4_54 stX4_between iniX4 cdX4_between) rfl rfl rfl (by decide +kernel) ⟨Nat.le_of_ble_eq_true rfl, Nat.le_of_ble_eq_true rfl⟩) (mPreS hKK hM (Nat.le_trans hlo hS.1)) rfl rfl hl.1 rfl (lv_room (Nat.le_of_ble_eq_true rfl)) dX4_cost_26 ⟨Nat.le_of_ble_eq_true rfl, Nat.le_of_ble_eq_true rfl⟩) hS (fun H locs hM hS => ?_)
      refine lv_if_ne (tgt := 35) hx hb dX4_cost_29 (by decide) (fun c_29 => ?_) (fun c_29 => ?_)
      · skip
        refine lv_aload_n hx hb dX4_cost_35 rfl (lv_at hl 0 rfl) ?_
        refine m_get F (ci := 4) (v := .ref (ad 1006)) (fun w h => tb_O (inX4 w h)) hK hM ctM_o rfl 8 (by decide) (tb_O lkX4_30) rfl dX4_cost_36 ?_
        refine lv_sipush (v := (nI 128)) hx hb dX4_cost_39 (by decide) ?_
        refine lv_iload_n hx hb dX4_cost_42 rfl (lv_at hl 1 rfl) ?_
        refine lv_imul hx hb dX4_cost_43 ?_
        refine m_top (pk_mul 128 pl) ?_
        refine lv_iload_n hx hb dX4_cost_44 rfl (lv_at hl 2 rfl) ?_
        refine lv_iadd hx hb dX4_cost_45 ?_
        refine m_top (nI_add (128 * pl) q) ?_
        refine lv_iload_n hx hb dX4_cost_46 rfl (lv_at hl 3 rfl) ?_
        refine m_iast F hK hM hS 0 rfl (j := (128 * pl + q)) (x := (nI cs)) ctM_aco (by omega) (by decide) dX4_cost_47 (fun H locs hM hS => ?_)
        have hM : mw D vwCl lo ad (ctM aC ad n th sz sg me gr lk P (va_up co (128 * pl + q) (some cs)) tb fd wd sm rc X) H := by rw [upd_cV, ctM_co] at hM; exact hM
        refine lv_aload_n hx hb dX4_cost_48 rfl (lv_at hl 0 rfl) ?_
        refine lv_iload_n hx hb dX4_cost_49 rfl (lv_at hl 1 rfl) ?_
        refine lv_aload_n hx hb dX4_cost_50 rfl (lv_at hl 0 rfl) ?_
        refine m_get F (ci := 4) (v := .int (nI P)) (fun w h => tb_O (inX4 w h)) hK hM ctM_o rfl 7 (by decide) (tb_O lkX4_48) rfl dX4_cost_51 ?_
        refine m_icmp_ge F (a := pl) (b := P) (by omega) (by omega) (tgt := 64) dX4_cost_54 (by decide) (fun c_54 => ?_) (fun c_54 => ?_)
        · skip
          refine lv_iload_n hx hb dX4_cost_64 rfl (lv_at hl 1 rfl) ?_
          refine lv_iconst (v := (nI 1)) hx hb dX4_cost_65 (by decide) ?_
          refine lv_iadd hx hb dX4_cost_66 ?_
          refine m_top (nI_add pl 1) ?_
          refine m_top (y := nI (max P (pl + 1))) (congrArg nI (by omega)) ?_
          refine m_put F (ci := 4) (v := .int (nI (max P (pl + 1)))) (fun w h => tb_O (inX4 w h)) mc_X4 hK hM hS ctM_o 7 (by decide) (tb_O lkX4_48) rfl rfl rfl (Nat.le_of_ble_eq_true rfl) dX4_cost_67 (fun H locs hM hS => ?_)
          have hM : mw D vwCl lo ad (va_up (ctM aC ad n th sz sg me gr lk P (va_up co (128 * pl + q) (some cs)) tb fd wd sm rc X) 1000 (some (.inr (4, [.int (nI n), .ref (ad 1001), .ref (ad 1002), .ref (ad 1003), .ref (ad 1004), .ref (ad 1005), .int lk, .int (nI (max P (pl + 1))), .ref (ad 1006), .ref (ad 1007), .int (nI fd), .ref (ad 1008), .ref (ad 1009), .ref (ad 1010)])))) H := hM
          have hM : mw D vwCl lo ad (ctM aC ad n th sz sg me gr lk (max P (pl + 1)) (va_up co (128 * pl + q) (some cs)) tb fd wd sm rc X) H := by rw [ctM_P] at hM; exact hM
          refine lv_aload_n hx hb dX4_cost_70 rfl (lv_at hl 0 rfl) ?_
          refine m_get F (ci := 4) (v := .int (nI (max P (pl + 1)))) (fun w h => tb_O (inX4 w h)) hK hM ctM_o rfl 7 (by decide) (tb_O lkX4_48) rfl dX4_cost_71 ?_
          exact W.iret hx hb hr (fun t ht hW => ⟨⟨_, _, _, rfl, ⟨rfl, rfl, rfl⟩, by rw [ht]; exact hM⟩, hS.F ht⟩) hS.2.2 dX4_cost_74
        · skip
          refine lv_aload_n hx hb dX4_cost_57 rfl (lv_at hl 0 rfl) ?_
          refine m_get F (ci := 4) (v := .int (nI P)) (fun w h => tb_O (inX4 w h)) hK hM ctM_o rfl 7 (by decide) (tb_O lkX4_48) rfl dX4_cost_58 ?_
          refine lv_goto (tgt := 67) hx hb dX4_cost_61 (by decide) ?_
          refine m_top (y := nI (max P (pl + 1))) (congrArg nI (by omega)) ?_
          refine m_put F (ci := 4) (v := .int (nI (max P (pl + 1)))) (fun w h => tb_O (inX4 w h)) mc_X4 hK hM hS ctM_o 7 (by decide) (tb_O lkX4_48) rfl rfl rfl (Nat.le_of_ble_eq_true rfl) dX4_cost_67 (fun H locs hM hS => ?_)
          have hM : mw D vwCl lo ad (va_up (ctM aC ad n th sz sg me gr lk P (va_up co (128 * pl + q) (some cs)) tb fd wd sm rc X) 1000 (some (.inr (4, [.int (nI n), .ref (ad 1001), .ref (ad 1002), .ref (ad 1003), .ref (ad 1004), .ref (ad 1005), .int lk, .int (nI (max P (pl + 1))), .ref (ad 1006), .ref (ad 1007), .int (nI fd), .ref (ad 1008), .ref (ad 1009), .ref (ad 1010)])))) H := hM
          have hM : mw D vwCl lo ad (ctM aC ad n th sz sg me gr lk (max P (pl + 1)) (va_up co (128 * pl + q) (some cs)) tb fd wd sm rc X) H := by rw [ctM_P] at hM; exact hM
          refine lv_aload_n hx hb dX4_cost_70 rfl (lv_at hl 0 rfl) ?_
          refine m_get F (ci := 4) (v := .int (nI (max P (pl + 1)))) (fun w h => tb_O (inX4 w h)) hK hM ctM_o rfl 7 (by decide) (tb_O lkX4_48) rfl dX4_cost_71 ?_
          exact W.iret hx hb hr (fun t ht hW => ⟨⟨_, _, _, rfl, ⟨rfl, rfl, rfl⟩, by rw [ht]; exact hM⟩, hS.F ht⟩) hS.2.2 dX4_cost_74
      · skip
        exact absurd (by rw [btw_nI (by omega) (by omega) (by omega)]; decide) (fun h : ¬ bI (btw (nI cs) (nI 0) (nI 1000)) = 0 => h c_29)

set_option maxHeartbeats 4000000 in
set_option maxRecDepth 100000 in
theorem c_mForget (l : Launch) {D : va_G} {aC : Nat → ClassId} {lo : Nat} {ad : Nat → Nat} {n : Nat} {th : Nat → Bool} {sz : Nat → Nat} {sg : Nat → Nat} {me : Nat → Nat} {gr : Nat → Int32} {lk : Int32} {P : Nat} {co : Nat → Option Nat} {tb : Nat → Nat} {fd : Nat} {wd : Nat → Nat} {sm : Nat → Nat} {rc : Nat → Nat} {X : Nat → Option va_E}  : Met l yX4_forget (wsO yX4_forget cX4_forget 2 none) ({ frames := 0, cells := 0, slots := 0, locals := 0 } : Room) (mPc D vwCl (tyA aC) lo ad (ctM aC ad n th sz sg me gr lk P co tb fd wd sm rc X) [.ref (ad 1000)]) (mD0 D vwCl lo ad (ctM aC ad n th sz sg me gr lk 0 (clI co 2560) tb fd wd sm rc X)) 0 0 (fun q => lo ≤ q) := by
  refine Met.ofW (cc := cX4_forget) (maxL := 2) (ret := none) (by decide) rfl ?_
  intro pr en s0 mm args below meth cc0 s₁ B hml hv
  obtain ⟨rfl, hlo, hM, hKK⟩ := hv
  have hK := hKK.1
  have hr := B.returns
  have hts := atoms_spec (ws := (wsO yX4_forget cX4_forget 2 none)) B.pre
  have F : CallFix pr mm cc0 cX4_forget 2 s0 (([.ref (ad 1000)] : List Value).toArray) (wsO yX4_forget cX4_forget 2 none) RX4 := ⟨B.exec, B.bytes, hml, findClass_of_methodNamed B.named, hts⟩
  have hx := F.1
  have hb := F.2.1
  have hlocks := B.notSynchronized
  have hS : va_S (fun q => lo ≤ q) s0.heap s0.heap [] := va_S.rf
  have hl := lv_entry ([.ref (ad 1000)]) (n := 2) (Nat.le_of_ble_eq_true rfl)
  rw [lg_entry_eq]
  generalize (lg_sl ([.ref (ad 1000)]) ++ List.replicate (2 - (lg_sl ([.ref (ad 1000)])).length) Slot.unset).toArray = ls at hl ⊢
  have hl : lv_has ls 2 [(0, .ref (ad 1000))] := hl
  have loop_7 : ∀ (fu : Nat) (i : Nat), (i ≤ 2560) → 2561 - i ≤ fu → ∀ (H : Heap) (locs : List Loc) (ls : Array Slot), mw D vwCl lo ad (ctM aC ad n th sz sg me gr lk 0 (clI co i) tb fd wd sm rc X) H → va_S (fun q => lo ≤ q) s0.heap H locs → lv_has ls 2 [(0, .ref (ad 1000)), (1, .int (nI i))] → W pr l en (headSpec (wsO yX4_forget cX4_forget 2 none) ({ frames := 0, cells := 0, slots := 0, locals := 0 } : Room)).room s0 mm (([.ref (ad 1000)] : List Value).toArray) below meth cc0 H locs 0 0 (MQ below (mD0 D vwCl lo ad (ctM aC ad n th sz sg me gr lk 0 (clI co 2560) tb fd wd sm rc X)) (([.ref (ad 1000)] : List Value).toArray) s0 0 0 (fun q => lo ≤ q)) (F0 mm 7 ls []) := by
    intro fu
    induction fu with
    | zero =>
      intro i hi hfu H locs ls hM hS hl
      exact absurd hfu (by omega)
    | succ fu ih_7 =>
      intro i hi hfu H locs ls hM hS hl
      refine lv_iload_n hx hb dX4_forget_7 rfl (lv_at hl 1 rfl) ?_
      refine lv_sipush (v := (nI 2560)) hx hb dX4_forget_8 (by decide) ?_
      refine m_icmp_ge F (a := i) (b := 2560) (by omega) (by omega) (tgt := 27) dX4_forget_11 (by decide) (fun c_11 => ?_) (fun c_11 => ?_)
      · skip
        have hin9 : i = 2560 := by omega
        subst hin9
        exact W.vret hx hb hr (fun t ht hW => ⟨⟨_, _, rfl, ⟨rfl, rfl⟩, by rw [ht]; exact hM⟩, hS.F ht⟩) hS.2.2 dX4_forget_27
      · skip
        refine lv_aload_n hx hb dX4_forget_14 rfl (lv_at hl 0 rfl) ?_
        refine m_get F (ci := 4) (v := .ref (ad 1006)) (fun w h => tb_O (inX4 w h)) hK hM ctM_o rfl 8 (by decide) (tb_O lkX4_30) rfl dX4_forget_15 ?_
        refine lv_iload_n hx hb dX4_forget_18 rfl (lv_at hl 1 rfl) ?_
        refine lv_iconst (v := (-1)) hx hb dX4_forget_19 (by decide) ?_
        refine m_iast F hK hM hS 0 rfl (j := i) (x := (-1)) ctM_aco (by omega) (by decide) dX4_forget_20 (fun H locs hM hS => ?_)
        have hM : mw D vwCl lo ad (ctM aC ad n th sz sg me gr lk 0 (clI co (i + 1)) tb fd wd sm rc X) H := by rw [upd_cN, clI_s, ctM_co] at hM; exact hM
        refine lv_iinc (v := (nI (i + 1))) (lv' := [(1, .int (nI (i + 1))), (0, .ref (ad 1000))]) hx hb dX4_forget_21 hl (k := 1) rfl (nI_1 i) (by decide) rfl (fun ls hl => ?_)
        refine lv_goto (tgt := 7) hx hb dX4_forget_24 (by decide) ?_
        exact ih_7 (i + 1) (by omega) (by omega) _ _ _ hM hS (lv_sub hl [1, 0] rfl)
  refine lv_aload_n hx hb dX4_forget_0 rfl (lv_at hl 0 rfl) ?_
  refine lv_iconst (v := (nI 0)) hx hb dX4_forget_1 (by decide) ?_
  refine m_put F (ci := 4) (v := .int (nI 0)) (fun w h => tb_O (inX4 w h)) mc_X4 hK hM hS ctM_o 7 (by decide) (tb_O lkX4_48) rfl rfl rfl (Nat.le_of_ble_eq_true rfl) dX4_forget_2 (fun H locs hM hS => ?_)
  have hM : mw D vwCl lo ad (va_up (ctM aC ad n th sz sg me gr lk P co tb fd wd sm rc X) 1000 (some (.inr (4, [.int (nI n), .ref (ad 1001), .ref (ad 1002), .ref (ad 1003), .ref (ad 1004), .ref (ad 1005), .int lk, .int (nI 0), .ref (ad 1006), .ref (ad 1007), .int (nI fd), .ref (ad 1008), .ref (ad 1009), .ref (ad 1010)])))) H := hM
  have hM : mw D vwCl lo ad (ctM aC ad n th sz sg me gr lk 0 co tb fd wd sm rc X) H := by rw [ctM_P] at hM; exact hM
  refine lv_iconst (v := (nI 0)) hx hb dX4_forget_5 (by decide) ?_
  refine lv_istore_n (lv' := [(1, .int (nI 0)), (0, .ref (ad 1000))]) hx hb dX4_forget_6 rfl hl (by decide) rfl (fun ls hl => ?_)
  exact loop_7 2561 0 (Nat.zero_le _) (by omega) _ _ _ (by rw [clI_0]; exact hM) hS (lv_sub hl [1, 0] rfl)

set_option maxHeartbeats 4000000 in
set_option maxRecDepth 100000 in
theorem c_mClear (l : Launch) {D : va_G} {aC : Nat → ClassId} {lo : Nat} {ad : Nat → Nat} {n : Nat} {th : Nat → Bool} {sz : Nat → Nat} {sg : Nat → Nat} {me : Nat → Nat} {gr : Nat → Int32} {lk : Int32} {P : Nat} {co : Nat → Option Nat} {tb : Nat → Nat} {fd : Nat} {wd : Nat → Nat} {sm : Nat → Nat} {rc : Nat → Nat} {X : Nat → Option va_E}  : Met l yX4_clear (wsO yX4_clear cX4_clear 2 (some .int)) ({ frames := 1, cells := 0, slots := 0, locals := 21 } : Room) (mPc D vwCl (tyA aC) lo ad (ctM aC ad n th sz sg me gr lk P co tb fd wd sm rc X) [.ref (ad 1000)]) (mD1 D vwCl lo (.int (nI P)) ad (ctM aC ad n th sz sg me gr lk 0 (clI co 2560) tb fd wd sm rc X)) 0 0 (fun q => lo ≤ q) := by
  refine Met.ofW (cc := cX4_clear) (maxL := 2) (ret := (some .int)) (by decide) rfl ?_
  intro pr en s0 mm args below meth cc0 s₁ B hml hv
  obtain ⟨rfl, hlo, hM, hKK⟩ := hv
  have hK := hKK.1
  have hr := B.returns
  have hts := atoms_spec (ws := (wsO yX4_clear cX4_clear 2 (some .int))) B.pre
  have F : CallFix pr mm cc0 cX4_clear 2 s0 (([.ref (ad 1000)] : List Value).toArray) (wsO yX4_clear cX4_clear 2 (some .int)) RX4 := ⟨B.exec, B.bytes, hml, findClass_of_methodNamed B.named, hts⟩
  have hx := F.1
  have hb := F.2.1
  have hlocks := B.notSynchronized
  have hS : va_S (fun q => lo ≤ q) s0.heap s0.heap [] := va_S.rf
  have hl := lv_entry ([.ref (ad 1000)]) (n := 2) (Nat.le_of_ble_eq_true rfl)
  rw [lg_entry_eq]
  generalize (lg_sl ([.ref (ad 1000)]) ++ List.replicate (2 - (lg_sl ([.ref (ad 1000)])).length) Slot.unset).toArray = ls at hl ⊢
  have hl : lv_has ls 2 [(0, .ref (ad 1000))] := hl
  refine lv_aload_n hx hb dX4_clear_0 rfl (lv_at hl 0 rfl) ?_
  refine m_get F (ci := 4) (v := .int (nI P)) (fun w h => tb_O (inX4 w h)) hK hM ctM_o rfl 7 (by decide) (tb_O lkX4_48) rfl dX4_clear_1 ?_
  refine lv_istore_n (lv' := [(1, .int (nI P)), (0, .ref (ad 1000))]) hx hb dX4_clear_4 rfl hl (by decide) rfl (fun ls hl => ?_)
  refine lv_aload_n hx hb dX4_clear_5 rfl (lv_at hl 1 rfl) ?_
  refine m_d0 (ct1 := ctM aC ad n th sz sg me gr lk 0 (clI co 2560) tb fd wd sm rc X) (va_runV (As := []) (rest := []) F (c_mForget l) (cwV 0 F.2.2.2.2 (go_V (fun _ h => tb_O h) mlX4_45 imX4_forget seX4_forget iniX4 cdX4_forget) rfl rfl rfl (by decide +kernel) ⟨Nat.le_of_ble_eq_true rfl, Nat.le_of_ble_eq_true rfl⟩) (mPreV hKK hM (Nat.le_trans hlo hS.1) ctM_o rfl) rfl rfl hl.1 rfl (lv_room (Nat.le_of_ble_eq_true rfl)) dX4_clear_6 ⟨Nat.le_of_ble_eq_true rfl, Nat.le_of_ble_eq_true rfl⟩) hS (fun H locs hM hS => ?_)
  refine lv_iload_n hx hb dX4_clear_9 rfl (lv_at hl 0 rfl) ?_
  exact W.iret hx hb hr (fun t ht hW => ⟨⟨_, _, _, rfl, ⟨rfl, rfl, rfl⟩, by rw [ht]; exact hM⟩, hS.F ht⟩) hS.2.2 dX4_clear_10

set_option maxHeartbeats 4000000 in
set_option maxRecDepth 100000 in
theorem c_mMbf (l : Launch) {D : va_G} {aC : Nat → ClassId} {lo : Nat} {ad : Nat → Nat} {n : Nat} {th : Nat → Bool} {sz : Nat → Nat} {sg : Nat → Nat} {me : Nat → Nat} {gr : Nat → Int32} {lk : Int32} {P : Nat} {co : Nat → Option Nat} {tb : Nat → Nat} {fd : Nat} {wd : Nat → Nat} {sm : Nat → Nat} {rc : Nat → Nat} {X : Nat → Option va_E} (j : Nat) (hj1 : 1 ≤ j) (hj2 : j ≤ n) (h200 : n ≤ 200) (hme : ∀ k, me k ≤ 200) : Met l yX4_mayBeFound (wsO yX4_mayBeFound cX4_mayBeFound 2 (some .boolean)) ({ frames := 0, cells := 0, slots := 0, locals := 0 } : Room) (mPc D vwCl (tyA aC) lo ad (ctM aC ad n th sz sg me gr lk P co tb fd wd sm rc X) [.ref (ad 1000), .int (nI j)]) (mD1 D vwCl lo (.int (bI (mfM th me gr lk j))) ad (ctM aC ad n th sz sg me gr lk P co tb fd wd sm rc X)) 0 0 (fun q => lo ≤ q) := by
  refine Met.ofW (cc := cX4_mayBeFound) (maxL := 2) (ret := (some .boolean)) (by decide) rfl ?_
  intro pr en s0 mm args below meth cc0 s₁ B hml hv
  obtain ⟨rfl, hlo, hM, hKK⟩ := hv
  have hK := hKK.1
  have hr := B.returns
  have hts := atoms_spec (ws := (wsO yX4_mayBeFound cX4_mayBeFound 2 (some .boolean))) B.pre
  have F : CallFix pr mm cc0 cX4_mayBeFound 2 s0 (([.ref (ad 1000), .int (nI j)] : List Value).toArray) (wsO yX4_mayBeFound cX4_mayBeFound 2 (some .boolean)) RX4 := ⟨B.exec, B.bytes, hml, findClass_of_methodNamed B.named, hts⟩
  have hx := F.1
  have hb := F.2.1
  have hlocks := B.notSynchronized
  have hS : va_S (fun q => lo ≤ q) s0.heap s0.heap [] := va_S.rf
  have hl := lv_entry ([.ref (ad 1000), .int (nI j)]) (n := 2) (Nat.le_of_ble_eq_true rfl)
  rw [lg_entry_eq]
  generalize (lg_sl ([.ref (ad 1000), .int (nI j)]) ++ List.replicate (2 - (lg_sl ([.ref (ad 1000), .int (nI j)])).length) Slot.unset).toArray = ls at hl ⊢
  have hl : lv_has ls 2 [(0, .ref (ad 1000)), (1, .int (nI j))] := hl
  refine lv_aload_n hx hb dX4_mayBeFound_0 rfl (lv_at hl 0 rfl) ?_
  refine m_get F (ci := 4) (v := .ref (ad 1001)) (fun w h => tb_O (inX4 w h)) hK hM ctM_o rfl 1 (by decide) (tb_O lkX4_7) rfl dX4_mayBeFound_1 ?_
  refine lv_iload_n hx hb dX4_mayBeFound_4 rfl (lv_at hl 1 rfl) ?_
  refine m_zald F hK hM 2 rfl (j := j) ctM_ath (by omega) (by decide) dX4_mayBeFound_5 ?_
  refine m_top (y := (bI (th j))) rfl ?_
  refine lv_if_eq (tgt := 46) hx hb dX4_mayBeFound_6 (by decide) (fun c_6 => ?_) (fun c_6 => ?_)
  · skip
    refine lv_iconst (v := (nI 0)) hx hb dX4_mayBeFound_46 (by decide) ?_
    exact W.zret hx hb hr rfl (fun t ht hW => ⟨⟨_, _, _, rfl, ⟨by rw [show mfM th me gr lk j = false by first | simp [mfM, bI_ne c_6, hm0, c_22, c_39] | simp [mfM, bI_ne c_6, hm0] | simp [mfM, bI_eq c_6]]; rfl, rfl, rfl⟩, by rw [ht]; exact hM⟩, hS.F ht⟩) hS.2.2 dX4_mayBeFound_47
  · skip
    refine lv_aload_n hx hb dX4_mayBeFound_9 rfl (lv_at hl 0 rfl) ?_
    refine m_get F (ci := 4) (v := .ref (ad 1004)) (fun w h => tb_O (inX4 w h)) hK hM ctM_o rfl 4 (by decide) (tb_O lkX4_20) rfl dX4_mayBeFound_10 ?_
    refine lv_iload_n hx hb dX4_mayBeFound_13 rfl (lv_at hl 1 rfl) ?_
    refine m_iald F hK hM 0 rfl (j := j) ctM_ame (by omega) (by decide) dX4_mayBeFound_14 ?_
    refine m_top (y := (nI (me j))) rfl ?_
    refine lv_if_ne (tgt := 46) hx hb dX4_mayBeFound_15 (by decide) (fun c_15 => ?_) (fun c_15 => ?_)
    · skip
      have hm0 : ¬ me j = 0 := fun q => c_15 (by rw [q]; exact nI_0)
      refine lv_iconst (v := (nI 0)) hx hb dX4_mayBeFound_46 (by decide) ?_
      exact W.zret hx hb hr rfl (fun t ht hW => ⟨⟨_, _, _, rfl, ⟨by rw [show mfM th me gr lk j = false by first | simp [mfM, bI_ne c_6, hm0, c_22, c_39] | simp [mfM, bI_ne c_6, hm0] | simp [mfM, bI_eq c_6]]; rfl, rfl, rfl⟩, by rw [ht]; exact hM⟩, hS.F ht⟩) hS.2.2 dX4_mayBeFound_47
    · skip
      have hm0 : me j = 0 := by have hmj := hme j; exact (nI_eq (by omega) (by omega)).mp (c_15.trans nI_0.symm)
      refine lv_aload_n hx hb dX4_mayBeFound_18 rfl (lv_at hl 0 rfl) ?_
      refine m_get F (ci := 4) (v := .int lk) (fun w h => tb_O (inX4 w h)) hK hM ctM_o rfl 6 (by decide) (tb_O lkX4_26) rfl dX4_mayBeFound_19 ?_
      refine lv_if_lt (tgt := 42) hx hb dX4_mayBeFound_22 (by decide) (fun c_22 => ?_) (fun c_22 => ?_)
      · skip
        refine lv_iconst (v := (nI 1)) hx hb dX4_mayBeFound_42 (by decide) ?_
        refine lv_goto (tgt := 47) hx hb dX4_mayBeFound_43 (by decide) ?_
        exact W.zret hx hb hr rfl (fun t ht hW => ⟨⟨_, _, _, rfl, ⟨by rw [show mfM th me gr lk j = true by first | simp [mfM, bI_ne c_6, hm0, c_22, c_39] | simp [mfM, bI_ne c_6, hm0, c_22]]; rfl, rfl, rfl⟩, by rw [ht]; exact hM⟩, hS.F ht⟩) hS.2.2 dX4_mayBeFound_47
      · skip
        refine lv_aload_n hx hb dX4_mayBeFound_25 rfl (lv_at hl 0 rfl) ?_
        refine m_get F (ci := 4) (v := .ref (ad 1005)) (fun w h => tb_O (inX4 w h)) hK hM ctM_o rfl 5 (by decide) (tb_O lkX4_23) rfl dX4_mayBeFound_26 ?_
        refine lv_iload_n hx hb dX4_mayBeFound_29 rfl (lv_at hl 1 rfl) ?_
        refine m_iald F hK hM 0 rfl (j := j) ctM_agr (by omega) (by decide) dX4_mayBeFound_30 ?_
        refine m_top (y := (gr j)) rfl ?_
        refine lv_aload_n hx hb dX4_mayBeFound_31 rfl (lv_at hl 0 rfl) ?_
        refine m_get F (ci := 4) (v := .int lk) (fun w h => tb_O (inX4 w h)) hK hM ctM_o rfl 6 (by decide) (tb_O lkX4_26) rfl dX4_mayBeFound_32 ?_
        refine lv_ishr hx hb dX4_mayBeFound_35 ?_
        refine lv_iconst (v := (nI 1)) hx hb dX4_mayBeFound_36 (by decide) ?_
        refine lv_iand hx hb dX4_mayBeFound_37 ?_
        refine lv_iconst (v := (nI 1)) hx hb dX4_mayBeFound_38 (by decide) ?_
        refine lv_icmp_ne (tgt := 46) hx hb dX4_mayBeFound_39 (by decide) (fun c_39 => ?_) (fun c_39 => ?_)
        · skip
          refine lv_iconst (v := (nI 0)) hx hb dX4_mayBeFound_46 (by decide) ?_
          exact W.zret hx hb hr rfl (fun t ht hW => ⟨⟨_, _, _, rfl, ⟨by rw [show mfM th me gr lk j = false by first | simp [mfM, bI_ne c_6, hm0, c_22, c_39] | simp [mfM, bI_ne c_6, hm0] | simp [mfM, bI_eq c_6]]; rfl, rfl, rfl⟩, by rw [ht]; exact hM⟩, hS.F ht⟩) hS.2.2 dX4_mayBeFound_47
        · skip
          refine lv_iconst (v := (nI 1)) hx hb dX4_mayBeFound_42 (by decide) ?_
          refine lv_goto (tgt := 47) hx hb dX4_mayBeFound_43 (by decide) ?_
          exact W.zret hx hb hr rfl (fun t ht hW => ⟨⟨_, _, _, rfl, ⟨by rw [show mfM th me gr lk j = true by first | simp [mfM, bI_ne c_6, hm0, c_22, c_39] | simp [mfM, bI_ne c_6, hm0, c_22]]; rfl, rfl, rfl⟩, by rw [ht]; exact hM⟩, hS.F ht⟩) hS.2.2 dX4_mayBeFound_47

set_option maxHeartbeats 4000000 in
set_option maxRecDepth 100000 in
theorem c_mAbs (l : Launch) {D : va_G} {aC : Nat → ClassId} {lo : Nat} {ad : Nat → Nat} {n : Nat} {th : Nat → Bool} {sz : Nat → Nat} {sg : Nat → Nat} {me : Nat → Nat} {gr : Nat → Int32} {lk : Int32} {P : Nat} {co : Nat → Option Nat} {tb : Nat → Nat} {fd : Nat} {wd : Nat → Nat} {sm : Nat → Nat} {rc : Nat → Nat} {X : Nat → Option va_E} (d : Nat) (h200 : n ≤ 200) (hme : ∀ k, me k ≤ 200) (hd2 : d ≤ 200) : Met l yX4_abbreviations (wsO yX4_abbreviations cX4_abbreviations 4 (some .int)) ({ frames := 0, cells := 0, slots := 0, locals := 0 } : Room) (mPc D vwCl (tyA aC) lo ad (ctM aC ad n th sz sg me gr lk P co tb fd wd sm rc X) [.ref (ad 1000), .int (nI d)]) (mD1 D vwCl lo (.int (nI (cnt (abM th me d) n))) ad (ctM aC ad n th sz sg me gr lk P co tb fd wd sm rc X)) 0 0 (fun q => lo ≤ q) := by
  refine Met.ofW (cc := cX4_abbreviations) (maxL := 4) (ret := (some .int)) (by decide) rfl ?_
  intro pr en s0 mm args below meth cc0 s₁ B hml hv
  obtain ⟨rfl, hlo, hM, hKK⟩ := hv
  have hK := hKK.1
  have hr := B.returns
  have hts := atoms_spec (ws := (wsO yX4_abbreviations cX4_abbreviations 4 (some .int))) B.pre
  have F : CallFix pr mm cc0 cX4_abbreviations 4 s0 (([.ref (ad 1000), .int (nI d)] : List Value).toArray) (wsO yX4_abbreviations cX4_abbreviations 4 (some .int)) RX4 := ⟨B.exec, B.bytes, hml, findClass_of_methodNamed B.named, hts⟩
  have hx := F.1
  have hb := F.2.1
  have hlocks := B.notSynchronized
  have hS : va_S (fun q => lo ≤ q) s0.heap s0.heap [] := va_S.rf
  have hl := lv_entry ([.ref (ad 1000), .int (nI d)]) (n := 4) (Nat.le_of_ble_eq_true rfl)
  rw [lg_entry_eq]
  generalize (lg_sl ([.ref (ad 1000), .int (nI d)]) ++ List.replicate (4 - (lg_sl ([.ref (ad 1000), .int (nI d)])).length) Slot.unset).toArray = ls at hl ⊢
  have hl : lv_has ls 4 [(0, .ref (ad 1000)), (1, .int (nI d))] := hl
  have loop_4 : ∀ (fu : Nat) (i : Nat), (i ≤ n) → n + 1 - i ≤ fu → ∀ (H : Heap) (locs : List Loc) (ls : Array Slot), mw D vwCl lo ad (ctM aC ad n th sz sg me gr lk P co tb fd wd sm rc X) H → va_S (fun q => lo ≤ q) s0.heap H locs → lv_has ls 4 [(0, .ref (ad 1000)), (1, .int (nI d)), (2, .int (nI (cnt (abM th me d) i))), (3, .int (nI (i + 1)))] → W pr l en (headSpec (wsO yX4_abbreviations cX4_abbreviations 4 (some .int)) ({ frames := 0, cells := 0, slots := 0, locals := 0 } : Room)).room s0 mm (([.ref (ad 1000), .int (nI d)] : List Value).toArray) below meth cc0 H locs 0 0 (MQ below (mD1 D vwCl lo (.int (nI (cnt (abM th me d) n))) ad (ctM aC ad n th sz sg me gr lk P co tb fd wd sm rc X)) (([.ref (ad 1000), .int (nI d)] : List Value).toArray) s0 0 0 (fun q => lo ≤ q)) (F0 mm 4 ls []) := by
    intro fu
    induction fu with
    | zero =>
      intro i hi hfu H locs ls hM hS hl
      exact absurd hfu (by omega)
    | succ fu ih_4 =>
      intro i hi hfu H locs ls hM hS hl
      have hcl := cnt_le (abM th me d) i
      refine lv_iload_n hx hb dX4_abbreviations_4 rfl (lv_at hl 3 rfl) ?_
      refine lv_aload_n hx hb dX4_abbreviations_5 rfl (lv_at hl 0 rfl) ?_
      refine m_get F (ci := 4) (v := .int (nI n)) (fun w h => tb_O (inX4 w h)) hK hM ctM_o rfl 0 (by decide) (tb_O lkX4_51) rfl dX4_abbreviations_6 ?_
      refine m_icmp_gt F (a := (i + 1)) (b := n) (by omega) (by omega) (tgt := 45) dX4_abbreviations_9 (by decide) (fun c_9 => ?_) (fun c_9 => ?_)
      · skip
        have hin9 : n = i := by omega
        subst hin9
        refine lv_iload_n hx hb dX4_abbreviations_45 rfl (lv_at hl 2 rfl) ?_
        exact W.iret hx hb hr (fun t ht hW => ⟨⟨_, _, _, rfl, ⟨rfl, rfl, rfl⟩, by rw [ht]; exact hM⟩, hS.F ht⟩) hS.2.2 dX4_abbreviations_46
      · skip
        refine lv_aload_n hx hb dX4_abbreviations_12 rfl (lv_at hl 0 rfl) ?_
        refine m_get F (ci := 4) (v := .ref (ad 1001)) (fun w h => tb_O (inX4 w h)) hK hM ctM_o rfl 1 (by decide) (tb_O lkX4_7) rfl dX4_abbreviations_13 ?_
        refine lv_iload_n hx hb dX4_abbreviations_16 rfl (lv_at hl 3 rfl) ?_
        refine m_zald F hK hM 2 rfl (j := (i + 1)) ctM_ath (by omega) (by decide) dX4_abbreviations_17 ?_
        refine m_top (y := (bI (th (i + 1)))) rfl ?_
        refine lv_if_eq (tgt := 37) hx hb dX4_abbreviations_18 (by decide) (fun c_18 => ?_) (fun c_18 => ?_)
        · skip
          refine lv_iload_n hx hb dX4_abbreviations_37 rfl (lv_at hl 2 rfl) ?_
          refine lv_istore_n (lv' := [(2, .int (nI (cnt (abM th me d) i))), (0, .ref (ad 1000)), (1, .int (nI d)), (3, .int (nI (i + 1)))]) hx hb dX4_abbreviations_38 rfl hl (by decide) rfl (fun ls hl => ?_)
          refine lv_iinc (v := (nI (i + 1 + 1))) (lv' := [(3, .int (nI (i + 1 + 1))), (2, .int (nI (cnt (abM th me d) i))), (0, .ref (ad 1000)), (1, .int (nI d))]) hx hb dX4_abbreviations_39 hl (k := 3) rfl (nI_1 (i + 1)) (by decide) rfl (fun ls hl => ?_)
          refine lv_goto (tgt := 4) hx hb dX4_abbreviations_42 (by decide) ?_
          have hcn : cnt (abM th me d) (i + 1) = cnt (abM th me d) i := by show cnt (abM th me d) i + _ = _; rw [if_neg (by first | simp [abM, bI_ne c_18, c_28] | simp [abM, bI_eq c_18])]; rfl
          rw [← hcn] at hl
          exact ih_4 (i + 1) (by omega) (by omega) _ _ _ hM hS (lv_sub hl [2, 3, 1, 0] rfl)
        · skip
          refine lv_aload_n hx hb dX4_abbreviations_21 rfl (lv_at hl 0 rfl) ?_
          refine m_get F (ci := 4) (v := .ref (ad 1004)) (fun w h => tb_O (inX4 w h)) hK hM ctM_o rfl 4 (by decide) (tb_O lkX4_20) rfl dX4_abbreviations_22 ?_
          refine lv_iload_n hx hb dX4_abbreviations_25 rfl (lv_at hl 3 rfl) ?_
          refine m_iald F hK hM 0 rfl (j := (i + 1)) ctM_ame (by omega) (by decide) dX4_abbreviations_26 ?_
          refine m_top (y := (nI (me (i + 1)))) rfl ?_
          refine lv_iload_n hx hb dX4_abbreviations_27 rfl (lv_at hl 1 rfl) ?_
          have hmi := hme (i + 1)
          refine m_icmp_ne F (a := (me (i + 1))) (b := d) (by omega) (by omega) (tgt := 37) dX4_abbreviations_28 (by decide) (fun c_28 => ?_) (fun c_28 => ?_)
          · skip
            refine lv_iload_n hx hb dX4_abbreviations_37 rfl (lv_at hl 2 rfl) ?_
            refine lv_istore_n (lv' := [(2, .int (nI (cnt (abM th me d) i))), (0, .ref (ad 1000)), (1, .int (nI d)), (3, .int (nI (i + 1)))]) hx hb dX4_abbreviations_38 rfl hl (by decide) rfl (fun ls hl => ?_)
            refine lv_iinc (v := (nI (i + 1 + 1))) (lv' := [(3, .int (nI (i + 1 + 1))), (2, .int (nI (cnt (abM th me d) i))), (0, .ref (ad 1000)), (1, .int (nI d))]) hx hb dX4_abbreviations_39 hl (k := 3) rfl (nI_1 (i + 1)) (by decide) rfl (fun ls hl => ?_)
            refine lv_goto (tgt := 4) hx hb dX4_abbreviations_42 (by decide) ?_
            have hcn : cnt (abM th me d) (i + 1) = cnt (abM th me d) i := by show cnt (abM th me d) i + _ = _; rw [if_neg (by first | simp [abM, bI_ne c_18, c_28] | simp [abM, bI_eq c_18])]; rfl
            rw [← hcn] at hl
            exact ih_4 (i + 1) (by omega) (by omega) _ _ _ hM hS (lv_sub hl [2, 3, 1, 0] rfl)
          · skip
            refine lv_iload_n hx hb dX4_abbreviations_31 rfl (lv_at hl 2 rfl) ?_
            refine lv_iconst (v := (nI 1)) hx hb dX4_abbreviations_32 (by decide) ?_
            refine lv_iadd hx hb dX4_abbreviations_33 ?_
            refine m_top (nI_add (cnt (abM th me d) i) 1) ?_
            refine lv_goto (tgt := 38) hx hb dX4_abbreviations_34 (by decide) ?_
            refine lv_istore_n (lv' := [(2, .int (nI (cnt (abM th me d) i + 1))), (0, .ref (ad 1000)), (1, .int (nI d)), (3, .int (nI (i + 1)))]) hx hb dX4_abbreviations_38 rfl hl (by decide) rfl (fun ls hl => ?_)
            refine lv_iinc (v := (nI (i + 1 + 1))) (lv' := [(3, .int (nI (i + 1 + 1))), (2, .int (nI (cnt (abM th me d) i + 1))), (0, .ref (ad 1000)), (1, .int (nI d))]) hx hb dX4_abbreviations_39 hl (k := 3) rfl (nI_1 (i + 1)) (by decide) rfl (fun ls hl => ?_)
            refine lv_goto (tgt := 4) hx hb dX4_abbreviations_42 (by decide) ?_
            have hcn : cnt (abM th me d) (i + 1) = cnt (abM th me d) i + 1 := by show cnt (abM th me d) i + _ = _; rw [if_pos (by simp [abM, bI_ne c_18, c_28])]
            rw [← hcn] at hl
            exact ih_4 (i + 1) (by omega) (by omega) _ _ _ hM hS (lv_sub hl [2, 3, 1, 0] rfl)
  refine lv_iconst (v := (nI 0)) hx hb dX4_abbreviations_0 (by decide) ?_
  refine lv_istore_n (lv' := [(2, .int (nI 0)), (0, .ref (ad 1000)), (1, .int (nI d))]) hx hb dX4_abbreviations_1 rfl hl (by decide) rfl (fun ls hl => ?_)
  refine lv_iconst (v := (nI 1)) hx hb dX4_abbreviations_2 (by decide) ?_
  refine lv_istore_n (lv' := [(3, .int (nI 1)), (2, .int (nI 0)), (0, .ref (ad 1000)), (1, .int (nI d))]) hx hb dX4_abbreviations_3 rfl hl (by decide) rfl (fun ls hl => ?_)
  exact loop_4 (n + 1) 0 (Nat.zero_le _) (by omega) _ _ _ hM hS (lv_sub hl [2, 3, 1, 0] rfl)

set_option maxHeartbeats 4000000 in
set_option maxRecDepth 100000 in
theorem c_mAbU1 (l : Launch) {D : va_G} {aC : Nat → ClassId} {lo : Nat} {ad : Nat → Nat} {n : Nat} {th : Nat → Bool} {sz : Nat → Nat} {sg : Nat → Nat} {me : Nat → Nat} {gr : Nat → Int32} {lk : Int32} {P : Nat} {co : Nat → Option Nat} {tb : Nat → Nat} {fd : Nat} {wd : Nat → Nat} {sm : Nat → Nat} {rc : Nat → Nat} {X : Nat → Option va_E} (x y : Int32) (hn0 : isE n th x = false) (h200 : n ≤ 200) : Met l yX4_abbreviation (wsO yX4_abbreviation cX4_abbreviation 3 (some .int)) ({ frames := 2, cells := 0, slots := 0, locals := 45 } : Room) (mPc D vwCl (tyA aC) lo ad (ctM aC ad n th sz sg me gr lk P co tb fd wd sm rc X) [.ref (ad 1000), .int x, .int y]) (mD1 D vwCl lo (.int (-1)) ad (ctM aC ad n th sz sg me gr lk P co tb fd wd sm rc X)) 0 0 (fun q => lo ≤ q) := by
  refine Met.ofW (cc := cX4_abbreviation) (maxL := 3) (ret := (some .int)) (by decide) rfl ?_
  intro pr en s0 mm args below meth cc0 s₁ B hml hv
  obtain ⟨rfl, hlo, hM, hKK⟩ := hv
  have hK := hKK.1
  have hr := B.returns
  have hts := atoms_spec (ws := (wsO yX4_abbreviation cX4_abbreviation 3 (some .int))) B.pre
  have F : CallFix pr mm cc0 cX4_abbreviation 3 s0 (([.ref (ad 1000), .int x, .int y] : List Value).toArray) (wsO yX4_abbreviation cX4_abbreviation 3 (some .int)) RX4 := ⟨B.exec, B.bytes, hml, findClass_of_methodNamed B.named, hts⟩
  have hx := F.1
  have hb := F.2.1
  have hlocks := B.notSynchronized
  have hS : va_S (fun q => lo ≤ q) s0.heap s0.heap [] := va_S.rf
  have hl := lv_entry ([.ref (ad 1000), .int x, .int y]) (n := 3) (Nat.le_of_ble_eq_true rfl)
  rw [lg_entry_eq]
  generalize (lg_sl ([.ref (ad 1000), .int x, .int y]) ++ List.replicate (3 - (lg_sl ([.ref (ad 1000), .int x, .int y])).length) Slot.unset).toArray = ls at hl ⊢
  have hl : lv_has ls 3 [(0, .ref (ad 1000)), (1, .int x), (2, .int y)] := hl
  refine lv_aload_n hx hb dX4_abbreviation_0 rfl (lv_at hl 0 rfl) ?_
  refine lv_iload_n hx hb dX4_abbreviation_1 rfl (lv_at hl 1 rfl) ?_
  refine m_d1 (v := .int (bI (isE n th x))) (ct1 := ctM aC ad n th sz sg me gr lk P co tb fd wd sm rc X) (va_runV (As := [.int x]) (rest := []) F (c_mIsE l x h200) (cwV 1 F.2.2.2.2 (go_V (fun _ h => tb_O h) mlX4_58 imX4_isEntry seX4_isEntry iniX4 cdX4_isEntry) rfl rfl rfl (by decide +kernel) ⟨Nat.le_of_ble_eq_true rfl, Nat.le_of_ble_eq_true rfl⟩) (mPreV hKK hM (Nat.le_trans hlo hS.1) ctM_o rfl) rfl rfl hl.1 rfl (lv_room (Nat.le_of_ble_eq_true rfl)) dX4_abbreviation_2 ⟨Nat.le_of_ble_eq_true rfl, Nat.le_of_ble_eq_true rfl⟩) hS (fun H locs hM hS => ?_)
  refine lv_if_eq (tgt := 16) hx hb dX4_abbreviation_5 (by decide) (fun c_5 => ?_) (fun c_5 => ?_)
  · skip
    refine lv_iconst (v := (-1)) hx hb dX4_abbreviation_16 (by decide) ?_
    exact W.iret hx hb hr (fun t ht hW => ⟨⟨_, _, _, rfl, ⟨rfl, rfl, rfl⟩, by rw [ht]; exact hM⟩, hS.F ht⟩) hS.2.2 dX4_abbreviation_17
  · skip
    exact absurd (by rw [hn0]; rfl) c_5

set_option maxHeartbeats 4000000 in
set_option maxRecDepth 100000 in
theorem c_mAbU2 (l : Launch) {D : va_G} {aC : Nat → ClassId} {lo : Nat} {ad : Nat → Nat} {n : Nat} {th : Nat → Bool} {sz : Nat → Nat} {sg : Nat → Nat} {me : Nat → Nat} {gr : Nat → Int32} {lk : Int32} {P : Nat} {co : Nat → Option Nat} {tb : Nat → Nat} {fd : Nat} {wd : Nat → Nat} {sm : Nat → Nat} {rc : Nat → Nat} {X : Nat → Option va_E} (x y : Int32) (hn0 : isE n th y = false) (h200 : n ≤ 200) : Met l yX4_abbreviation (wsO yX4_abbreviation cX4_abbreviation 3 (some .int)) ({ frames := 2, cells := 0, slots := 0, locals := 45 } : Room) (mPc D vwCl (tyA aC) lo ad (ctM aC ad n th sz sg me gr lk P co tb fd wd sm rc X) [.ref (ad 1000), .int x, .int y]) (mD1 D vwCl lo (.int (-1)) ad (ctM aC ad n th sz sg me gr lk P co tb fd wd sm rc X)) 0 0 (fun q => lo ≤ q) := by
  refine Met.ofW (cc := cX4_abbreviation) (maxL := 3) (ret := (some .int)) (by decide) rfl ?_
  intro pr en s0 mm args below meth cc0 s₁ B hml hv
  obtain ⟨rfl, hlo, hM, hKK⟩ := hv
  have hK := hKK.1
  have hr := B.returns
  have hts := atoms_spec (ws := (wsO yX4_abbreviation cX4_abbreviation 3 (some .int))) B.pre
  have F : CallFix pr mm cc0 cX4_abbreviation 3 s0 (([.ref (ad 1000), .int x, .int y] : List Value).toArray) (wsO yX4_abbreviation cX4_abbreviation 3 (some .int)) RX4 := ⟨B.exec, B.bytes, hml, findClass_of_methodNamed B.named, hts⟩
  have hx := F.1
  have hb := F.2.1
  have hlocks := B.notSynchronized
  have hS : va_S (fun q => lo ≤ q) s0.heap s0.heap [] := va_S.rf
  have hl := lv_entry ([.ref (ad 1000), .int x, .int y]) (n := 3) (Nat.le_of_ble_eq_true rfl)
  rw [lg_entry_eq]
  generalize (lg_sl ([.ref (ad 1000), .int x, .int y]) ++ List.replicate (3 - (lg_sl ([.ref (ad 1000), .int x, .int y])).length) Slot.unset).toArray = ls at hl ⊢
  have hl : lv_has ls 3 [(0, .ref (ad 1000)), (1, .int x), (2, .int y)] := hl
  refine lv_aload_n hx hb dX4_abbreviation_0 rfl (lv_at hl 0 rfl) ?_
  refine lv_iload_n hx hb dX4_abbreviation_1 rfl (lv_at hl 1 rfl) ?_
  refine m_d1 (v := .int (bI (isE n th x))) (ct1 := ctM aC ad n th sz sg me gr lk P co tb fd wd sm rc X) (va_runV (As := [.int x]) (rest := []) F (c_mIsE l x h200) (cwV 1 F.2.2.2.2 (go_V (fun _ h => tb_O h) mlX4_58 imX4_isEntry seX4_isEntry iniX4 cdX4_isEntry) rfl rfl rfl (by decide +kernel) ⟨Nat.le_of_ble_eq_true rfl, Nat.le_of_ble_eq_true rfl⟩) (mPreV hKK hM (Nat.le_trans hlo hS.1) ctM_o rfl) rfl rfl hl.1 rfl (lv_room (Nat.le_of_ble_eq_true rfl)) dX4_abbreviation_2 ⟨Nat.le_of_ble_eq_true rfl, Nat.le_of_ble_eq_true rfl⟩) hS (fun H locs hM hS => ?_)
  refine lv_if_eq (tgt := 16) hx hb dX4_abbreviation_5 (by decide) (fun c_5 => ?_) (fun c_5 => ?_)
  · skip
    refine lv_iconst (v := (-1)) hx hb dX4_abbreviation_16 (by decide) ?_
    exact W.iret hx hb hr (fun t ht hW => ⟨⟨_, _, _, rfl, ⟨rfl, rfl, rfl⟩, by rw [ht]; exact hM⟩, hS.F ht⟩) hS.2.2 dX4_abbreviation_17
  · skip
    refine lv_aload_n hx hb dX4_abbreviation_8 rfl (lv_at hl 0 rfl) ?_
    refine lv_iload_n hx hb dX4_abbreviation_9 rfl (lv_at hl 2 rfl) ?_
    refine m_d1 (v := .int (bI (isE n th y))) (ct1 := ctM aC ad n th sz sg me gr lk P co tb fd wd sm rc X) (va_runV (As := [.int y]) (rest := []) F (c_mIsE l y h200) (cwV 1 F.2.2.2.2 (go_V (fun _ h => tb_O h) mlX4_58 imX4_isEntry seX4_isEntry iniX4 cdX4_isEntry) rfl rfl rfl (by decide +kernel) ⟨Nat.le_of_ble_eq_true rfl, Nat.le_of_ble_eq_true rfl⟩) (mPreV hKK hM (Nat.le_trans hlo hS.1) ctM_o rfl) rfl rfl hl.1 rfl (lv_room (Nat.le_of_ble_eq_true rfl)) dX4_abbreviation_10 ⟨Nat.le_of_ble_eq_true rfl, Nat.le_of_ble_eq_true rfl⟩) hS (fun H locs hM hS => ?_)
    refine lv_if_ne (tgt := 18) hx hb dX4_abbreviation_13 (by decide) (fun c_13 => ?_) (fun c_13 => ?_)
    · skip
      exact absurd (by rw [hn0]; rfl) c_13
    · skip
      refine lv_iconst (v := (-1)) hx hb dX4_abbreviation_16 (by decide) ?_
      exact W.iret hx hb hr (fun t ht hW => ⟨⟨_, _, _, rfl, ⟨rfl, rfl, rfl⟩, by rw [ht]; exact hM⟩, hS.F ht⟩) hS.2.2 dX4_abbreviation_17

set_option maxHeartbeats 4000000 in
set_option maxRecDepth 100000 in
theorem c_mAbS (l : Launch) {D : va_G} {aC : Nat → ClassId} {lo : Nat} {ad : Nat → Nat} {n : Nat} {th : Nat → Bool} {sz : Nat → Nat} {sg : Nat → Nat} {me : Nat → Nat} {gr : Nat → Int32} {lk : Int32} {P : Nat} {co : Nat → Option Nat} {tb : Nat → Nat} {fd : Nat} {wd : Nat → Nat} {sm : Nat → Nat} {rc : Nat → Nat} {X : Nat → Option va_E} (j k : Nat) (hj1 : 1 ≤ j) (hj2 : j ≤ n) (h200 : n ≤ 200) (ht : th j = true) (hk1 : 1 ≤ k) (hk2 : k ≤ n) (htk : th k = true) (hme : ∀ k, me k ≤ 200) (hst : j = k ∨ me k ≠ 0 ∨ 0 < cnt (abM th me j) n) : Met l yX4_abbreviation (wsO yX4_abbreviation cX4_abbreviation 3 (some .int)) ({ frames := 2, cells := 0, slots := 0, locals := 45 } : Room) (mPc D vwCl (tyA aC) lo ad (ctM aC ad n th sz sg me gr lk P co tb fd wd sm rc X) [.ref (ad 1000), .int (nI j), .int (nI k)]) (mD1 D vwCl lo (.int (-3)) ad (ctM aC ad n th sz sg me gr lk P co tb fd wd sm rc X)) 0 0 (fun q => lo ≤ q) := by
  refine Met.ofW (cc := cX4_abbreviation) (maxL := 3) (ret := (some .int)) (by decide) rfl ?_
  intro pr en s0 mm args below meth cc0 s₁ B hml hv
  obtain ⟨rfl, hlo, hM, hKK⟩ := hv
  have hK := hKK.1
  have hr := B.returns
  have hts := atoms_spec (ws := (wsO yX4_abbreviation cX4_abbreviation 3 (some .int))) B.pre
  have F : CallFix pr mm cc0 cX4_abbreviation 3 s0 (([.ref (ad 1000), .int (nI j), .int (nI k)] : List Value).toArray) (wsO yX4_abbreviation cX4_abbreviation 3 (some .int)) RX4 := ⟨B.exec, B.bytes, hml, findClass_of_methodNamed B.named, hts⟩
  have hx := F.1
  have hb := F.2.1
  have hlocks := B.notSynchronized
  have hS : va_S (fun q => lo ≤ q) s0.heap s0.heap [] := va_S.rf
  have hl := lv_entry ([.ref (ad 1000), .int (nI j), .int (nI k)]) (n := 3) (Nat.le_of_ble_eq_true rfl)
  rw [lg_entry_eq]
  generalize (lg_sl ([.ref (ad 1000), .int (nI j), .int (nI k)]) ++ List.replicate (3 - (lg_sl ([.ref (ad 1000), .int (nI j), .int (nI k)])).length) Slot.unset).toArray = ls at hl ⊢
  have hl : lv_has ls 3 [(0, .ref (ad 1000)), (1, .int (nI j)), (2, .int (nI k))] := hl
  refine lv_aload_n hx hb dX4_abbreviation_0 rfl (lv_at hl 0 rfl) ?_
  refine lv_iload_n hx hb dX4_abbreviation_1 rfl (lv_at hl 1 rfl) ?_
  refine m_d1 (v := .int (bI (isE n th (nI j)))) (ct1 := ctM aC ad n th sz sg me gr lk P co tb fd wd sm rc X) (va_runV (As := [.int (nI j)]) (rest := []) F (c_mIsE l (nI j) h200) (cwV 1 F.2.2.2.2 (go_V (fun _ h => tb_O h) mlX4_58 imX4_isEntry seX4_isEntry iniX4 cdX4_isEntry) rfl rfl rfl (by decide +kernel) ⟨Nat.le_of_ble_eq_true rfl, Nat.le_of_ble_eq_true rfl⟩) (mPreV hKK hM (Nat.le_trans hlo hS.1) ctM_o rfl) rfl rfl hl.1 rfl (lv_room (Nat.le_of_ble_eq_true rfl)) dX4_abbreviation_2 ⟨Nat.le_of_ble_eq_true rfl, Nat.le_of_ble_eq_true rfl⟩) hS (fun H locs hM hS => ?_)
  refine lv_if_eq (tgt := 16) hx hb dX4_abbreviation_5 (by decide) (fun c_5 => ?_) (fun c_5 => ?_)
  · skip
    exact absurd (by rw [isE_nI hj1 hj2 h200, ht]; decide) (fun h : ¬ bI (isE n th (nI j)) = 0 => h c_5)
  · skip
    refine lv_aload_n hx hb dX4_abbreviation_8 rfl (lv_at hl 0 rfl) ?_
    refine lv_iload_n hx hb dX4_abbreviation_9 rfl (lv_at hl 2 rfl) ?_
    refine m_d1 (v := .int (bI (isE n th (nI k)))) (ct1 := ctM aC ad n th sz sg me gr lk P co tb fd wd sm rc X) (va_runV (As := [.int (nI k)]) (rest := []) F (c_mIsE l (nI k) h200) (cwV 1 F.2.2.2.2 (go_V (fun _ h => tb_O h) mlX4_58 imX4_isEntry seX4_isEntry iniX4 cdX4_isEntry) rfl rfl rfl (by decide +kernel) ⟨Nat.le_of_ble_eq_true rfl, Nat.le_of_ble_eq_true rfl⟩) (mPreV hKK hM (Nat.le_trans hlo hS.1) ctM_o rfl) rfl rfl hl.1 rfl (lv_room (Nat.le_of_ble_eq_true rfl)) dX4_abbreviation_10 ⟨Nat.le_of_ble_eq_true rfl, Nat.le_of_ble_eq_true rfl⟩) hS (fun H locs hM hS => ?_)
    refine lv_if_ne (tgt := 18) hx hb dX4_abbreviation_13 (by decide) (fun c_13 => ?_) (fun c_13 => ?_)
    · skip
      refine lv_iload_n hx hb dX4_abbreviation_18 rfl (lv_at hl 1 rfl) ?_
      refine lv_iload_n hx hb dX4_abbreviation_19 rfl (lv_at hl 2 rfl) ?_
      refine m_icmp_eq F (a := j) (b := k) (by omega) (by omega) (tgt := 40) dX4_abbreviation_20 (by decide) (fun c_20 => ?_) (fun c_20 => ?_)
      · skip
        refine lv_bipush (v := (-3)) hx hb dX4_abbreviation_40 (by decide) ?_
        exact W.iret hx hb hr (fun t ht hW => ⟨⟨_, _, _, rfl, ⟨rfl, rfl, rfl⟩, by rw [ht]; exact hM⟩, hS.F ht⟩) hS.2.2 dX4_abbreviation_42
      · skip
        refine lv_aload_n hx hb dX4_abbreviation_23 rfl (lv_at hl 0 rfl) ?_
        refine m_get F (ci := 4) (v := .ref (ad 1004)) (fun w h => tb_O (inX4 w h)) hK hM ctM_o rfl 4 (by decide) (tb_O lkX4_20) rfl dX4_abbreviation_24 ?_
        refine lv_iload_n hx hb dX4_abbreviation_27 rfl (lv_at hl 2 rfl) ?_
        refine m_iald F hK hM 0 rfl (j := k) ctM_ame (by omega) (by decide) dX4_abbreviation_28 ?_
        refine m_top (y := (nI (me k))) rfl ?_
        refine lv_if_gt (tgt := 40) hx hb dX4_abbreviation_29 (by decide) (fun c_29 => ?_) (fun c_29 => ?_)
        · skip
          refine lv_bipush (v := (-3)) hx hb dX4_abbreviation_40 (by decide) ?_
          exact W.iret hx hb hr (fun t ht hW => ⟨⟨_, _, _, rfl, ⟨rfl, rfl, rfl⟩, by rw [ht]; exact hM⟩, hS.F ht⟩) hS.2.2 dX4_abbreviation_42
        · skip
          have hmk : me k = 0 := by have hq := hme k; rcases Nat.eq_zero_or_pos (me k) with q | q; exact q; exact absurd (nI_lt q (by omega)) (by rw [nI_0]; exact c_29)
          refine lv_aload_n hx hb dX4_abbreviation_32 rfl (lv_at hl 0 rfl) ?_
          refine lv_iload_n hx hb dX4_abbreviation_33 rfl (lv_at hl 1 rfl) ?_
          refine m_d1 (v := .int (nI (cnt (abM th me j) n))) (ct1 := ctM aC ad n th sz sg me gr lk P co tb fd wd sm rc X) (va_runV (As := [.int (nI j)]) (rest := []) F (c_mAbs l j h200 hme (by omega)) (cwV 1 F.2.2.2.2 (go_V (fun _ h => tb_O h) mlX4_82 imX4_abbreviations seX4_abbreviations iniX4 cdX4_abbreviations) rfl rfl rfl (by decide +kernel) ⟨Nat.le_of_ble_eq_true rfl, Nat.le_of_ble_eq_true rfl⟩) (mPreV hKK hM (Nat.le_trans hlo hS.1) ctM_o rfl) rfl rfl hl.1 rfl (lv_room (Nat.le_of_ble_eq_true rfl)) dX4_abbreviation_34 ⟨Nat.le_of_ble_eq_true rfl, Nat.le_of_ble_eq_true rfl⟩) hS (fun H locs hM hS => ?_)
          refine lv_if_le (tgt := 43) hx hb dX4_abbreviation_37 (by decide) (fun c_37 => ?_) (fun c_37 => ?_)
          · skip
            have hcz : ¬ 0 < cnt (abM th me j) n := fun q => nI_nle q (by have := cnt_le (abM th me j) n; omega) c_37
            exact absurd hst (fun q => q.elim c_20 (fun q => q.elim (fun q => q hmk) hcz))
          · skip
            refine lv_bipush (v := (-3)) hx hb dX4_abbreviation_40 (by decide) ?_
            exact W.iret hx hb hr (fun t ht hW => ⟨⟨_, _, _, rfl, ⟨rfl, rfl, rfl⟩, by rw [ht]; exact hM⟩, hS.F ht⟩) hS.2.2 dX4_abbreviation_42
    · skip
      exact absurd (by rw [isE_nI hk1 hk2 h200, htk]; decide) (fun h : ¬ bI (isE n th (nI k)) = 0 => h c_13)

set_option maxHeartbeats 4000000 in
set_option maxRecDepth 100000 in
theorem c_mAb (l : Launch) {D : va_G} {aC : Nat → ClassId} {lo : Nat} {ad : Nat → Nat} {n : Nat} {th : Nat → Bool} {sz : Nat → Nat} {sg : Nat → Nat} {me : Nat → Nat} {gr : Nat → Int32} {lk : Int32} {P : Nat} {co : Nat → Option Nat} {tb : Nat → Nat} {fd : Nat} {wd : Nat → Nat} {sm : Nat → Nat} {rc : Nat → Nat} {X : Nat → Option va_E} (j k : Nat) (hj1 : 1 ≤ j) (hj2 : j ≤ n) (h200 : n ≤ 200) (ht : th j = true) (hk1 : 1 ≤ k) (hk2 : k ≤ n) (htk : th k = true) (hme : ∀ k, me k ≤ 200) (hjk : ¬ j = k) (hsk : me k = 0) (hcz : cnt (abM th me j) n = 0) : Met l yX4_abbreviation (wsO yX4_abbreviation cX4_abbreviation 3 (some .int)) ({ frames := 2, cells := 0, slots := 0, locals := 45 } : Room) (mPc D vwCl (tyA aC) lo ad (ctM aC ad n th sz sg me gr lk P co tb fd wd sm rc X) [.ref (ad 1000), .int (nI j), .int (nI k)]) (mD1 D vwCl lo (.int (nI (cnt (abM th (un me j k) k) n))) ad (ctM aC ad n th sz sg (un me j k) gr lk P co tb fd wd sm rc X)) 0 0 (fun q => lo ≤ q) := by
  refine Met.ofW (cc := cX4_abbreviation) (maxL := 3) (ret := (some .int)) (by decide) rfl ?_
  intro pr en s0 mm args below meth cc0 s₁ B hml hv
  obtain ⟨rfl, hlo, hM, hKK⟩ := hv
  have hK := hKK.1
  have hr := B.returns
  have hts := atoms_spec (ws := (wsO yX4_abbreviation cX4_abbreviation 3 (some .int))) B.pre
  have F : CallFix pr mm cc0 cX4_abbreviation 3 s0 (([.ref (ad 1000), .int (nI j), .int (nI k)] : List Value).toArray) (wsO yX4_abbreviation cX4_abbreviation 3 (some .int)) RX4 := ⟨B.exec, B.bytes, hml, findClass_of_methodNamed B.named, hts⟩
  have hx := F.1
  have hb := F.2.1
  have hlocks := B.notSynchronized
  have hS : va_S (fun q => lo ≤ q) s0.heap s0.heap [] := va_S.rf
  have hl := lv_entry ([.ref (ad 1000), .int (nI j), .int (nI k)]) (n := 3) (Nat.le_of_ble_eq_true rfl)
  rw [lg_entry_eq]
  generalize (lg_sl ([.ref (ad 1000), .int (nI j), .int (nI k)]) ++ List.replicate (3 - (lg_sl ([.ref (ad 1000), .int (nI j), .int (nI k)])).length) Slot.unset).toArray = ls at hl ⊢
  have hl : lv_has ls 3 [(0, .ref (ad 1000)), (1, .int (nI j)), (2, .int (nI k))] := hl
  refine lv_aload_n hx hb dX4_abbreviation_0 rfl (lv_at hl 0 rfl) ?_
  refine lv_iload_n hx hb dX4_abbreviation_1 rfl (lv_at hl 1 rfl) ?_
  refine m_d1 (v := .int (bI (isE n th (nI j)))) (ct1 := ctM aC ad n th sz sg me gr lk P co tb fd wd sm rc X) (va_runV (As := [.int (nI j)]) (rest := []) F (c_mIsE l (nI j) h200) (cwV 1 F.2.2.2.2 (go_V (fun _ h => tb_O h) mlX4_58 imX4_isEntry seX4_isEntry iniX4 cdX4_isEntry) rfl rfl rfl (by decide +kernel) ⟨Nat.le_of_ble_eq_true rfl, Nat.le_of_ble_eq_true rfl⟩) (mPreV hKK hM (Nat.le_trans hlo hS.1) ctM_o rfl) rfl rfl hl.1 rfl (lv_room (Nat.le_of_ble_eq_true rfl)) dX4_abbreviation_2 ⟨Nat.le_of_ble_eq_true rfl, Nat.le_of_ble_eq_true rfl⟩) hS (fun H locs hM hS => ?_)
  refine lv_if_eq (tgt := 16) hx hb dX4_abbreviation_5 (by decide) (fun c_5 => ?_) (fun c_5 => ?_)
  · skip
    exact absurd (by rw [isE_nI hj1 hj2 h200, ht]; decide) (fun h : ¬ bI (isE n th (nI j)) = 0 => h c_5)
  · skip
    refine lv_aload_n hx hb dX4_abbreviation_8 rfl (lv_at hl 0 rfl) ?_
    refine lv_iload_n hx hb dX4_abbreviation_9 rfl (lv_at hl 2 rfl) ?_
    refine m_d1 (v := .int (bI (isE n th (nI k)))) (ct1 := ctM aC ad n th sz sg me gr lk P co tb fd wd sm rc X) (va_runV (As := [.int (nI k)]) (rest := []) F (c_mIsE l (nI k) h200) (cwV 1 F.2.2.2.2 (go_V (fun _ h => tb_O h) mlX4_58 imX4_isEntry seX4_isEntry iniX4 cdX4_isEntry) rfl rfl rfl (by decide +kernel) ⟨Nat.le_of_ble_eq_true rfl, Nat.le_of_ble_eq_true rfl⟩) (mPreV hKK hM (Nat.le_trans hlo hS.1) ctM_o rfl) rfl rfl hl.1 rfl (lv_room (Nat.le_of_ble_eq_true rfl)) dX4_abbreviation_10 ⟨Nat.le_of_ble_eq_true rfl, Nat.le_of_ble_eq_true rfl⟩) hS (fun H locs hM hS => ?_)
    refine lv_if_ne (tgt := 18) hx hb dX4_abbreviation_13 (by decide) (fun c_13 => ?_) (fun c_13 => ?_)
    · skip
      refine lv_iload_n hx hb dX4_abbreviation_18 rfl (lv_at hl 1 rfl) ?_
      refine lv_iload_n hx hb dX4_abbreviation_19 rfl (lv_at hl 2 rfl) ?_
      refine m_icmp_eq F (a := j) (b := k) (by omega) (by omega) (tgt := 40) dX4_abbreviation_20 (by decide) (fun c_20 => ?_) (fun c_20 => ?_)
      · skip
        exact absurd c_20 hjk
      · skip
        refine lv_aload_n hx hb dX4_abbreviation_23 rfl (lv_at hl 0 rfl) ?_
        refine m_get F (ci := 4) (v := .ref (ad 1004)) (fun w h => tb_O (inX4 w h)) hK hM ctM_o rfl 4 (by decide) (tb_O lkX4_20) rfl dX4_abbreviation_24 ?_
        refine lv_iload_n hx hb dX4_abbreviation_27 rfl (lv_at hl 2 rfl) ?_
        refine m_iald F hK hM 0 rfl (j := k) ctM_ame (by omega) (by decide) dX4_abbreviation_28 ?_
        refine m_top (y := (nI (me k))) rfl ?_
        refine lv_if_gt (tgt := 40) hx hb dX4_abbreviation_29 (by decide) (fun c_29 => ?_) (fun c_29 => ?_)
        · skip
          exact absurd c_29 (by rw [hsk]; decide)
        · skip
          refine lv_aload_n hx hb dX4_abbreviation_32 rfl (lv_at hl 0 rfl) ?_
          refine lv_iload_n hx hb dX4_abbreviation_33 rfl (lv_at hl 1 rfl) ?_
          refine m_d1 (v := .int (nI (cnt (abM th me j) n))) (ct1 := ctM aC ad n th sz sg me gr lk P co tb fd wd sm rc X) (va_runV (As := [.int (nI j)]) (rest := []) F (c_mAbs l j h200 hme (by omega)) (cwV 1 F.2.2.2.2 (go_V (fun _ h => tb_O h) mlX4_82 imX4_abbreviations seX4_abbreviations iniX4 cdX4_abbreviations) rfl rfl rfl (by decide +kernel) ⟨Nat.le_of_ble_eq_true rfl, Nat.le_of_ble_eq_true rfl⟩) (mPreV hKK hM (Nat.le_trans hlo hS.1) ctM_o rfl) rfl rfl hl.1 rfl (lv_room (Nat.le_of_ble_eq_true rfl)) dX4_abbreviation_34 ⟨Nat.le_of_ble_eq_true rfl, Nat.le_of_ble_eq_true rfl⟩) hS (fun H locs hM hS => ?_)
          refine lv_if_le (tgt := 43) hx hb dX4_abbreviation_37 (by decide) (fun c_37 => ?_) (fun c_37 => ?_)
          · skip
            refine lv_aload_n hx hb dX4_abbreviation_43 rfl (lv_at hl 0 rfl) ?_
            refine m_get F (ci := 4) (v := .ref (ad 1004)) (fun w h => tb_O (inX4 w h)) hK hM ctM_o rfl 4 (by decide) (tb_O lkX4_20) rfl dX4_abbreviation_44 ?_
            refine lv_iload_n hx hb dX4_abbreviation_47 rfl (lv_at hl 1 rfl) ?_
            refine lv_iload_n hx hb dX4_abbreviation_48 rfl (lv_at hl 2 rfl) ?_
            refine m_iast F hK hM hS 0 rfl (j := j) (x := (nI k)) ctM_ame (by omega) (by decide) dX4_abbreviation_49 (fun H locs hM hS => ?_)
            have hM : mw D vwCl lo ad (ctM aC ad n th sz sg (un me j k) gr lk P co tb fd wd sm rc X) H := by rw [upd_nI, ctM_me] at hM; exact hM
            refine lv_aload_n hx hb dX4_abbreviation_50 rfl (lv_at hl 0 rfl) ?_
            refine lv_iload_n hx hb dX4_abbreviation_51 rfl (lv_at hl 2 rfl) ?_
            refine m_d1 (v := .int (nI (cnt (abM th (un me j k) k) n))) (ct1 := ctM aC ad n th sz sg (un me j k) gr lk P co tb fd wd sm rc X) (va_runV (As := [.int (nI k)]) (rest := []) F (c_mAbs l k h200 (fun z => by unfold un va_up; split; omega; exact hme z) (by omega)) (cwV 1 F.2.2.2.2 (go_V (fun _ h => tb_O h) mlX4_82 imX4_abbreviations seX4_abbreviations iniX4 cdX4_abbreviations) rfl rfl rfl (by decide +kernel) ⟨Nat.le_of_ble_eq_true rfl, Nat.le_of_ble_eq_true rfl⟩) (mPreV hKK hM (Nat.le_trans hlo hS.1) ctM_o rfl) rfl rfl hl.1 rfl (lv_room (Nat.le_of_ble_eq_true rfl)) dX4_abbreviation_52 ⟨Nat.le_of_ble_eq_true rfl, Nat.le_of_ble_eq_true rfl⟩) hS (fun H locs hM hS => ?_)
            exact W.iret hx hb hr (fun t ht hW => ⟨⟨_, _, _, rfl, ⟨rfl, rfl, rfl⟩, by rw [ht]; exact hM⟩, hS.F ht⟩) hS.2.2 dX4_abbreviation_55
          · skip
            exact absurd (by rw [hcz]; decide) c_37
    · skip
      exact absurd (by rw [isE_nI hk1 hk2 h200, htk]; decide) (fun h : ¬ bI (isE n th (nI k)) = 0 => h c_13)

set_option maxHeartbeats 4000000 in
set_option maxRecDepth 100000 in
theorem c_mWordU (l : Launch) {D : va_G} {aC : Nat → ClassId} {lo : Nat} {ad : Nat → Nat} {n : Nat} {th : Nat → Bool} {sz : Nat → Nat} {sg : Nat → Nat} {me : Nat → Nat} {gr : Nat → Int32} {lk : Int32} {P : Nat} {co : Nat → Option Nat} {tb : Nat → Nat} {fd : Nat} {wd : Nat → Nat} {sm : Nat → Nat} {rc : Nat → Nat} {X : Nat → Option va_E} (x : Int32) (hk : hasM fd x = false) : Met l yX4_word (wsO yX4_word cX4_word 2 (some .int)) ({ frames := 1, cells := 0, slots := 0, locals := 22 } : Room) (mPc D vwCl (tyA aC) lo ad (ctM aC ad n th sz sg me gr lk P co tb fd wd sm rc X) [.ref (ad 1000), .int x]) (mD1 D vwCl lo (.int (-1)) ad (ctM aC ad n th sz sg me gr lk P co tb fd wd sm rc X)) 0 0 (fun q => lo ≤ q) := by
  refine Met.ofW (cc := cX4_word) (maxL := 2) (ret := (some .int)) (by decide) rfl ?_
  intro pr en s0 mm args below meth cc0 s₁ B hml hv
  obtain ⟨rfl, hlo, hM, hKK⟩ := hv
  have hK := hKK.1
  have hr := B.returns
  have hts := atoms_spec (ws := (wsO yX4_word cX4_word 2 (some .int))) B.pre
  have F : CallFix pr mm cc0 cX4_word 2 s0 (([.ref (ad 1000), .int x] : List Value).toArray) (wsO yX4_word cX4_word 2 (some .int)) RX4 := ⟨B.exec, B.bytes, hml, findClass_of_methodNamed B.named, hts⟩
  have hx := F.1
  have hb := F.2.1
  have hlocks := B.notSynchronized
  have hS : va_S (fun q => lo ≤ q) s0.heap s0.heap [] := va_S.rf
  have hl := lv_entry ([.ref (ad 1000), .int x]) (n := 2) (Nat.le_of_ble_eq_true rfl)
  rw [lg_entry_eq]
  generalize (lg_sl ([.ref (ad 1000), .int x]) ++ List.replicate (2 - (lg_sl ([.ref (ad 1000), .int x])).length) Slot.unset).toArray = ls at hl ⊢
  have hl : lv_has ls 2 [(0, .ref (ad 1000)), (1, .int x)] := hl
  refine lv_iload_n hx hb dX4_word_0 rfl (lv_at hl 1 rfl) ?_
  refine lv_iconst (v := (nI 0)) hx hb dX4_word_1 (by decide) ?_
  refine lv_aload_n hx hb dX4_word_2 rfl (lv_at hl 0 rfl) ?_
  refine m_get F (ci := 4) (v := .int (nI fd)) (fun w h => tb_O (inX4 w h)) hK hM ctM_o rfl 10 (by decide) (tb_O lkX4_71) rfl dX4_word_3 ?_
  refine lv_iconst (v := (nI 1)) hx hb dX4_word_6 (by decide) ?_
  refine lv_isub hx hb dX4_word_7 ?_
  refine m_d1 (v := .int (bI (btw x (nI 0) (nI fd - nI 1)))) (ct1 := ctM aC ad n th sz sg me gr lk P co tb fd wd sm rc X) (va_runS (As := [.int x, .int (nI 0), .int ((nI fd) - (nI 1))]) (rest := []) F (c_between l x (nI 0) (nI fd - nI 1)) (va_cwS 3 F.2.2.2.2 (go_S (fun _ h => tb_O h) mlX4_54 stX4_between iniX4 cdX4_between) rfl rfl rfl (by decide +kernel) ⟨Nat.le_of_ble_eq_true rfl, Nat.le_of_ble_eq_true rfl⟩) (mPreS hKK hM (Nat.le_trans hlo hS.1)) rfl rfl hl.1 rfl (lv_room (Nat.le_of_ble_eq_true rfl)) dX4_word_8 ⟨Nat.le_of_ble_eq_true rfl, Nat.le_of_ble_eq_true rfl⟩) hS (fun H locs hM hS => ?_)
  refine lv_if_eq (tgt := 23) hx hb dX4_word_11 (by decide) (fun c_11 => ?_) (fun c_11 => ?_)
  · skip
    refine lv_iconst (v := (-1)) hx hb dX4_word_23 (by decide) ?_
    exact W.iret hx hb hr (fun t ht hW => ⟨⟨_, _, _, rfl, ⟨rfl, rfl, rfl⟩, by rw [ht]; exact hM⟩, hS.F ht⟩) hS.2.2 dX4_word_24
  · skip
    exact absurd (by rw [show btw x (nI 0) (nI fd - nI 1) = hasM fd x from rfl, hk]; rfl) c_11

set_option maxHeartbeats 4000000 in
set_option maxRecDepth 100000 in
theorem c_mWord (l : Launch) {D : va_G} {aC : Nat → ClassId} {lo : Nat} {ad : Nat → Nat} {n : Nat} {th : Nat → Bool} {sz : Nat → Nat} {sg : Nat → Nat} {me : Nat → Nat} {gr : Nat → Int32} {lk : Int32} {P : Nat} {co : Nat → Option Nat} {tb : Nat → Nat} {fd : Nat} {wd : Nat → Nat} {sm : Nat → Nat} {rc : Nat → Nat} {X : Nat → Option va_E} (j : Nat) (hh : fd ≤ 200) (hj : j < fd) : Met l yX4_word (wsO yX4_word cX4_word 2 (some .int)) ({ frames := 1, cells := 0, slots := 0, locals := 22 } : Room) (mPc D vwCl (tyA aC) lo ad (ctM aC ad n th sz sg me gr lk P co tb fd wd sm rc X) [.ref (ad 1000), .int (nI j)]) (mD1 D vwCl lo (.int (nI (wd j))) ad (ctM aC ad n th sz sg me gr lk P co tb fd wd sm rc X)) 0 0 (fun q => lo ≤ q) := by
  refine Met.ofW (cc := cX4_word) (maxL := 2) (ret := (some .int)) (by decide) rfl ?_
  intro pr en s0 mm args below meth cc0 s₁ B hml hv
  obtain ⟨rfl, hlo, hM, hKK⟩ := hv
  have hK := hKK.1
  have hr := B.returns
  have hts := atoms_spec (ws := (wsO yX4_word cX4_word 2 (some .int))) B.pre
  have F : CallFix pr mm cc0 cX4_word 2 s0 (([.ref (ad 1000), .int (nI j)] : List Value).toArray) (wsO yX4_word cX4_word 2 (some .int)) RX4 := ⟨B.exec, B.bytes, hml, findClass_of_methodNamed B.named, hts⟩
  have hx := F.1
  have hb := F.2.1
  have hlocks := B.notSynchronized
  have hS : va_S (fun q => lo ≤ q) s0.heap s0.heap [] := va_S.rf
  have hl := lv_entry ([.ref (ad 1000), .int (nI j)]) (n := 2) (Nat.le_of_ble_eq_true rfl)
  rw [lg_entry_eq]
  generalize (lg_sl ([.ref (ad 1000), .int (nI j)]) ++ List.replicate (2 - (lg_sl ([.ref (ad 1000), .int (nI j)])).length) Slot.unset).toArray = ls at hl ⊢
  have hl : lv_has ls 2 [(0, .ref (ad 1000)), (1, .int (nI j))] := hl
  refine lv_iload_n hx hb dX4_word_0 rfl (lv_at hl 1 rfl) ?_
  refine lv_iconst (v := (nI 0)) hx hb dX4_word_1 (by decide) ?_
  refine lv_aload_n hx hb dX4_word_2 rfl (lv_at hl 0 rfl) ?_
  refine m_get F (ci := 4) (v := .int (nI fd)) (fun w h => tb_O (inX4 w h)) hK hM ctM_o rfl 10 (by decide) (tb_O lkX4_71) rfl dX4_word_3 ?_
  refine lv_iconst (v := (nI 1)) hx hb dX4_word_6 (by decide) ?_
  refine lv_isub hx hb dX4_word_7 ?_
  refine m_top (y := (nI (fd - 1))) (pk_sub (by omega)) ?_
  refine m_d1 (v := .int (bI (btw (nI j) (nI 0) (nI (fd - 1))))) (ct1 := ctM aC ad n th sz sg me gr lk P co tb fd wd sm rc X) (va_runS (As := [.int (nI j), .int (nI 0), .int (nI (fd - 1))]) (rest := []) F (c_between l (nI j) (nI 0) (nI (fd - 1))) (va_cwS 3 F.2.2.2.2 (go_S (fun _ h => tb_O h) mlX4_54 stX4_between iniX4 cdX4_between) rfl rfl rfl (by decide +kernel) ⟨Nat.le_of_ble_eq_true rfl, Nat.le_of_ble_eq_true rfl⟩) (mPreS hKK hM (Nat.le_trans hlo hS.1)) rfl rfl hl.1 rfl (lv_room (Nat.le_of_ble_eq_true rfl)) dX4_word_8 ⟨Nat.le_of_ble_eq_true rfl, Nat.le_of_ble_eq_true rfl⟩) hS (fun H locs hM hS => ?_)
  refine lv_if_eq (tgt := 23) hx hb dX4_word_11 (by decide) (fun c_11 => ?_) (fun c_11 => ?_)
  · skip
    exact absurd (by rw [btw_nI (by omega) (by omega) (by omega)]; decide) (fun h : ¬ bI (btw (nI j) (nI 0) (nI (fd - 1))) = 0 => h c_11)
  · skip
    refine lv_aload_n hx hb dX4_word_14 rfl (lv_at hl 0 rfl) ?_
    refine m_get F (ci := 4) (v := .ref (ad 1008)) (fun w h => tb_O (inX4 w h)) hK hM ctM_o rfl 11 (by decide) (tb_O lkX4_36) rfl dX4_word_15 ?_
    refine lv_iload_n hx hb dX4_word_18 rfl (lv_at hl 1 rfl) ?_
    refine m_iald F hK hM 0 rfl (j := j) ctM_awd (by omega) (by decide) dX4_word_19 ?_
    refine m_top (y := (nI (wd j))) rfl ?_
    refine lv_goto (tgt := 24) hx hb dX4_word_20 (by decide) ?_
    exact W.iret hx hb hr (fun t ht hW => ⟨⟨_, _, _, rfl, ⟨rfl, rfl, rfl⟩, by rw [ht]; exact hM⟩, hS.F ht⟩) hS.2.2 dX4_word_24

set_option maxHeartbeats 4000000 in
set_option maxRecDepth 100000 in
theorem c_mSumU (l : Launch) {D : va_G} {aC : Nat → ClassId} {lo : Nat} {ad : Nat → Nat} {n : Nat} {th : Nat → Bool} {sz : Nat → Nat} {sg : Nat → Nat} {me : Nat → Nat} {gr : Nat → Int32} {lk : Int32} {P : Nat} {co : Nat → Option Nat} {tb : Nat → Nat} {fd : Nat} {wd : Nat → Nat} {sm : Nat → Nat} {rc : Nat → Nat} {X : Nat → Option va_E} (x : Int32) (hk : hasM fd x = false) : Met l yX4_sum (wsO yX4_sum cX4_sum 2 (some .long)) ({ frames := 1, cells := 0, slots := 0, locals := 22 } : Room) (mPc D vwCl (tyA aC) lo ad (ctM aC ad n th sz sg me gr lk P co tb fd wd sm rc X) [.ref (ad 1000), .int x]) (mD1 D vwCl lo (.long (-1)) ad (ctM aC ad n th sz sg me gr lk P co tb fd wd sm rc X)) 0 0 (fun q => lo ≤ q) := by
  refine Met.ofW (cc := cX4_sum) (maxL := 2) (ret := (some .long)) (by decide) rfl ?_
  intro pr en s0 mm args below meth cc0 s₁ B hml hv
  obtain ⟨rfl, hlo, hM, hKK⟩ := hv
  have hK := hKK.1
  have hr := B.returns
  have hts := atoms_spec (ws := (wsO yX4_sum cX4_sum 2 (some .long))) B.pre
  have F : CallFix pr mm cc0 cX4_sum 2 s0 (([.ref (ad 1000), .int x] : List Value).toArray) (wsO yX4_sum cX4_sum 2 (some .long)) RX4 := ⟨B.exec, B.bytes, hml, findClass_of_methodNamed B.named, hts⟩
  have hx := F.1
  have hb := F.2.1
  have hlocks := B.notSynchronized
  have hS : va_S (fun q => lo ≤ q) s0.heap s0.heap [] := va_S.rf
  have hl := lv_entry ([.ref (ad 1000), .int x]) (n := 2) (Nat.le_of_ble_eq_true rfl)
  rw [lg_entry_eq]
  generalize (lg_sl ([.ref (ad 1000), .int x]) ++ List.replicate (2 - (lg_sl ([.ref (ad 1000), .int x])).length) Slot.unset).toArray = ls at hl ⊢
  have hl : lv_has ls 2 [(0, .ref (ad 1000)), (1, .int x)] := hl
  refine lv_iload_n hx hb dX4_sum_0 rfl (lv_at hl 1 rfl) ?_
  refine lv_iconst (v := (nI 0)) hx hb dX4_sum_1 (by decide) ?_
  refine lv_aload_n hx hb dX4_sum_2 rfl (lv_at hl 0 rfl) ?_
  refine m_get F (ci := 4) (v := .int (nI fd)) (fun w h => tb_O (inX4 w h)) hK hM ctM_o rfl 10 (by decide) (tb_O lkX4_71) rfl dX4_sum_3 ?_
  refine lv_iconst (v := (nI 1)) hx hb dX4_sum_6 (by decide) ?_
  refine lv_isub hx hb dX4_sum_7 ?_
  refine m_d1 (v := .int (bI (btw x (nI 0) (nI fd - nI 1)))) (ct1 := ctM aC ad n th sz sg me gr lk P co tb fd wd sm rc X) (va_runS (As := [.int x, .int (nI 0), .int ((nI fd) - (nI 1))]) (rest := []) F (c_between l x (nI 0) (nI fd - nI 1)) (va_cwS 3 F.2.2.2.2 (go_S (fun _ h => tb_O h) mlX4_54 stX4_between iniX4 cdX4_between) rfl rfl rfl (by decide +kernel) ⟨Nat.le_of_ble_eq_true rfl, Nat.le_of_ble_eq_true rfl⟩) (mPreS hKK hM (Nat.le_trans hlo hS.1)) rfl rfl hl.1 rfl (lv_room (Nat.le_of_ble_eq_true rfl)) dX4_sum_8 ⟨Nat.le_of_ble_eq_true rfl, Nat.le_of_ble_eq_true rfl⟩) hS (fun H locs hM hS => ?_)
  refine lv_if_eq (tgt := 24) hx hb dX4_sum_11 (by decide) (fun c_11 => ?_) (fun c_11 => ?_)
  · skip
    refine lv_ldc2 (v := (-1)) hx hb F.2.2.2.1 (F.2.2.2.2 _ (tb_O klX4_80)) dX4_sum_24 ?_
    exact W.lret hx hb hr (fun t ht hW => ⟨⟨_, _, _, rfl, ⟨rfl, rfl, rfl⟩, by rw [ht]; exact hM⟩, hS.F ht⟩) hS.2.2 dX4_sum_27
  · skip
    exact absurd (by rw [show btw x (nI 0) (nI fd - nI 1) = hasM fd x from rfl, hk]; rfl) c_11

set_option maxHeartbeats 4000000 in
set_option maxRecDepth 100000 in
theorem c_mSum (l : Launch) {D : va_G} {aC : Nat → ClassId} {lo : Nat} {ad : Nat → Nat} {n : Nat} {th : Nat → Bool} {sz : Nat → Nat} {sg : Nat → Nat} {me : Nat → Nat} {gr : Nat → Int32} {lk : Int32} {P : Nat} {co : Nat → Option Nat} {tb : Nat → Nat} {fd : Nat} {wd : Nat → Nat} {sm : Nat → Nat} {rc : Nat → Nat} {X : Nat → Option va_E} (j : Nat) (hh : fd ≤ 200) (hj : j < fd) : Met l yX4_sum (wsO yX4_sum cX4_sum 2 (some .long)) ({ frames := 1, cells := 0, slots := 0, locals := 22 } : Room) (mPc D vwCl (tyA aC) lo ad (ctM aC ad n th sz sg me gr lk P co tb fd wd sm rc X) [.ref (ad 1000), .int (nI j)]) (mD1 D vwCl lo (.long ((nI (sm j)).toInt64)) ad (ctM aC ad n th sz sg me gr lk P co tb fd wd sm rc X)) 0 0 (fun q => lo ≤ q) := by
  refine Met.ofW (cc := cX4_sum) (maxL := 2) (ret := (some .long)) (by decide) rfl ?_
  intro pr en s0 mm args below meth cc0 s₁ B hml hv
  obtain ⟨rfl, hlo, hM, hKK⟩ := hv
  have hK := hKK.1
  have hr := B.returns
  have hts := atoms_spec (ws := (wsO yX4_sum cX4_sum 2 (some .long))) B.pre
  have F : CallFix pr mm cc0 cX4_sum 2 s0 (([.ref (ad 1000), .int (nI j)] : List Value).toArray) (wsO yX4_sum cX4_sum 2 (some .long)) RX4 := ⟨B.exec, B.bytes, hml, findClass_of_methodNamed B.named, hts⟩
  have hx := F.1
  have hb := F.2.1
  have hlocks := B.notSynchronized
  have hS : va_S (fun q => lo ≤ q) s0.heap s0.heap [] := va_S.rf
  have hl := lv_entry ([.ref (ad 1000), .int (nI j)]) (n := 2) (Nat.le_of_ble_eq_true rfl)
  rw [lg_entry_eq]
  generalize (lg_sl ([.ref (ad 1000), .int (nI j)]) ++ List.replicate (2 - (lg_sl ([.ref (ad 1000), .int (nI j)])).length) Slot.unset).toArray = ls at hl ⊢
  have hl : lv_has ls 2 [(0, .ref (ad 1000)), (1, .int (nI j))] := hl
  refine lv_iload_n hx hb dX4_sum_0 rfl (lv_at hl 1 rfl) ?_
  refine lv_iconst (v := (nI 0)) hx hb dX4_sum_1 (by decide) ?_
  refine lv_aload_n hx hb dX4_sum_2 rfl (lv_at hl 0 rfl) ?_
  refine m_get F (ci := 4) (v := .int (nI fd)) (fun w h => tb_O (inX4 w h)) hK hM ctM_o rfl 10 (by decide) (tb_O lkX4_71) rfl dX4_sum_3 ?_
  refine lv_iconst (v := (nI 1)) hx hb dX4_sum_6 (by decide) ?_
  refine lv_isub hx hb dX4_sum_7 ?_
  refine m_top (y := (nI (fd - 1))) (pk_sub (by omega)) ?_
  refine m_d1 (v := .int (bI (btw (nI j) (nI 0) (nI (fd - 1))))) (ct1 := ctM aC ad n th sz sg me gr lk P co tb fd wd sm rc X) (va_runS (As := [.int (nI j), .int (nI 0), .int (nI (fd - 1))]) (rest := []) F (c_between l (nI j) (nI 0) (nI (fd - 1))) (va_cwS 3 F.2.2.2.2 (go_S (fun _ h => tb_O h) mlX4_54 stX4_between iniX4 cdX4_between) rfl rfl rfl (by decide +kernel) ⟨Nat.le_of_ble_eq_true rfl, Nat.le_of_ble_eq_true rfl⟩) (mPreS hKK hM (Nat.le_trans hlo hS.1)) rfl rfl hl.1 rfl (lv_room (Nat.le_of_ble_eq_true rfl)) dX4_sum_8 ⟨Nat.le_of_ble_eq_true rfl, Nat.le_of_ble_eq_true rfl⟩) hS (fun H locs hM hS => ?_)
  refine lv_if_eq (tgt := 24) hx hb dX4_sum_11 (by decide) (fun c_11 => ?_) (fun c_11 => ?_)
  · skip
    exact absurd (by rw [btw_nI (by omega) (by omega) (by omega)]; decide) (fun h : ¬ bI (btw (nI j) (nI 0) (nI (fd - 1))) = 0 => h c_11)
  · skip
    refine lv_aload_n hx hb dX4_sum_14 rfl (lv_at hl 0 rfl) ?_
    refine m_get F (ci := 4) (v := .ref (ad 1009)) (fun w h => tb_O (inX4 w h)) hK hM ctM_o rfl 12 (by decide) (tb_O lkX4_39) rfl dX4_sum_15 ?_
    refine lv_iload_n hx hb dX4_sum_18 rfl (lv_at hl 1 rfl) ?_
    refine m_iald F hK hM 0 rfl (j := j) ctM_asm (by omega) (by decide) dX4_sum_19 ?_
    refine m_top (y := (nI (sm j))) rfl ?_
    refine lv_i2l (v := ((nI (sm j)).toInt64)) hx hb dX4_sum_20 rfl ?_
    refine lv_goto (tgt := 27) hx hb dX4_sum_21 (by decide) ?_
    exact W.lret hx hb hr (fun t ht hW => ⟨⟨_, _, _, rfl, ⟨rfl, rfl, rfl⟩, by rw [ht]; exact hM⟩, hS.F ht⟩) hS.2.2 dX4_sum_27
end
section
set_option maxHeartbeats 4000000 in
set_option maxRecDepth 100000 in
theorem c_mWithinLO (l : Launch) {D : va_G} {aC : Nat → ClassId} {lo : Nat} {ad : Nat → Nat} {n : Nat} {th : Nat → Bool} {sz : Nat → Nat} {sg : Nat → Nat} {me : Nat → Nat} {gr : Nat → Int32} {lk : Int32} {P : Nat} {co : Nat → Option Nat} {tb : Nat → Nat} {fd : Nat} {wd : Nat → Nat} {sm : Nat → Nat} {rc : Nat → Nat} {X : Nat → Option va_E} (x : Int32) (hxg : btw x (-1) (nI 7) = false) : Met l yX4_within (wsO yX4_within cX4_within 5 (some .int)) ({ frames := 2, cells := 0, slots := 0, locals := 43 } : Room) (mPc D vwCl (tyA aC) lo ad (ctM aC ad n th sz sg me gr lk P co tb fd wd sm rc X) [.ref (ad 1000), .int x, .int (nI 0)]) (mD1 D vwCl lo (.int (-2)) ad (ctM aC ad n th sz sg me gr lk P co tb fd wd sm rc X)) 0 0 (fun q => lo ≤ q) := by
  refine Met.ofW (cc := cX4_within) (maxL := 5) (ret := (some .int)) (by decide) rfl ?_
  intro pr en s0 mm args below meth cc0 s₁ B hml hv
  obtain ⟨rfl, hlo, hM, hKK⟩ := hv
  have hK := hKK.1
  have hr := B.returns
  have hts := atoms_spec (ws := (wsO yX4_within cX4_within 5 (some .int))) B.pre
  have F : CallFix pr mm cc0 cX4_within 5 s0 (([.ref (ad 1000), .int x, .int (nI 0)] : List Value).toArray) (wsO yX4_within cX4_within 5 (some .int)) RX4 := ⟨B.exec, B.bytes, hml, findClass_of_methodNamed B.named, hts⟩
  have hx := F.1
  have hb := F.2.1
  have hlocks := B.notSynchronized
  have hS : va_S (fun q => lo ≤ q) s0.heap s0.heap [] := va_S.rf
  have hl := lv_entry ([.ref (ad 1000), .int x, .int (nI 0)]) (n := 5) (Nat.le_of_ble_eq_true rfl)
  rw [lg_entry_eq]
  generalize (lg_sl ([.ref (ad 1000), .int x, .int (nI 0)]) ++ List.replicate (5 - (lg_sl ([.ref (ad 1000), .int x, .int (nI 0)])).length) Slot.unset).toArray = ls at hl ⊢
  have hl : lv_has ls 5 [(0, .ref (ad 1000)), (1, .int x), (2, .int (nI 0))] := hl
  refine lv_iload_n hx hb dX4_within_0 rfl (lv_at hl 2 rfl) ?_
  refine lv_if_eq (tgt := 14) hx hb dX4_within_1 (by decide) (fun c_1 => ?_) (fun c_1 => ?_)
  · skip
    refine lv_iload_n hx hb dX4_within_14 rfl (lv_at hl 1 rfl) ?_
    refine lv_iload_n hx hb dX4_within_15 rfl (lv_at hl 2 rfl) ?_
    refine lv_if_ne (tgt := 23) hx hb dX4_within_16 (by decide) (fun c_16 => ?_) (fun c_16 => ?_)
    · skip
      exact absurd nI_0 c_16
    · skip
      refine lv_iconst (v := (-1)) hx hb dX4_within_19 (by decide) ?_
      refine lv_goto (tgt := 24) hx hb dX4_within_20 (by decide) ?_
      refine lv_bipush (v := (nI 7)) hx hb dX4_within_24 (by decide) ?_
      refine m_d1 (v := .int (bI (btw x (-1) (nI 7)))) (ct1 := ctM aC ad n th sz sg me gr lk P co tb fd wd sm rc X) (va_runS (As := [.int x, .int (-1), .int (nI 7)]) (rest := []) F (c_between l x (-1) (nI 7)) (va_cwS 3 F.2.2.2.2 (go_S (fun _ h => tb_O h) mlX4_54 stX4_between iniX4 cdX4_between) rfl rfl rfl (by decide +kernel) ⟨Nat.le_of_ble_eq_true rfl, Nat.le_of_ble_eq_true rfl⟩) (mPreS hKK hM (Nat.le_trans hlo hS.1)) rfl rfl hl.1 rfl (lv_room (Nat.le_of_ble_eq_true rfl)) dX4_within_26 ⟨Nat.le_of_ble_eq_true rfl, Nat.le_of_ble_eq_true rfl⟩) hS (fun H locs hM hS => ?_)
      refine lv_if_ne (tgt := 35) hx hb dX4_within_29 (by decide) (fun c_29 => ?_) (fun c_29 => ?_)
      · skip
        exact absurd (by rw [hxg]; rfl) c_29
      · skip
        refine lv_bipush (v := (-2)) hx hb dX4_within_32 (by decide) ?_
        exact W.iret hx hb hr (fun t ht hW => ⟨⟨_, _, _, rfl, ⟨rfl, rfl, rfl⟩, by rw [ht]; exact hM⟩, hS.F ht⟩) hS.2.2 dX4_within_34
  · skip
    exact absurd nI_0 c_1

set_option maxHeartbeats 4000000 in
set_option maxRecDepth 100000 in
theorem c_mWithinL (l : Launch) {D : va_G} {aC : Nat → ClassId} {lo : Nat} {ad : Nat → Nat} {n : Nat} {th : Nat → Bool} {sz : Nat → Nat} {sg : Nat → Nat} {me : Nat → Nat} {gr : Nat → Int32} {lk : Int32} {P : Nat} {co : Nat → Option Nat} {tb : Nat → Nat} {fd : Nat} {wd : Nat → Nat} {sm : Nat → Nat} {rc : Nat → Nat} {X : Nat → Option va_E} (x : Int32) (hxg : btw x (-1) (nI 7) = true) (h200 : n ≤ 200) : Met l yX4_within (wsO yX4_within cX4_within 5 (some .int)) ({ frames := 2, cells := 0, slots := 0, locals := 43 } : Room) (mPc D vwCl (tyA aC) lo ad (ctM aC ad n th sz sg me gr lk P co tb fd wd sm rc X) [.ref (ad 1000), .int x, .int (nI 0)]) (mD1 D vwCl lo (.int (nI (cnt (inM th gr x) n))) ad (ctM aC ad n th sz sg me gr x P co tb fd wd sm rc X)) 0 0 (fun q => lo ≤ q) := by
  refine Met.ofW (cc := cX4_within) (maxL := 5) (ret := (some .int)) (by decide) rfl ?_
  intro pr en s0 mm args below meth cc0 s₁ B hml hv
  obtain ⟨rfl, hlo, hM, hKK⟩ := hv
  have hK := hKK.1
  have hr := B.returns
  have hts := atoms_spec (ws := (wsO yX4_within cX4_within 5 (some .int))) B.pre
  have F : CallFix pr mm cc0 cX4_within 5 s0 (([.ref (ad 1000), .int x, .int (nI 0)] : List Value).toArray) (wsO yX4_within cX4_within 5 (some .int)) RX4 := ⟨B.exec, B.bytes, hml, findClass_of_methodNamed B.named, hts⟩
  have hx := F.1
  have hb := F.2.1
  have hlocks := B.notSynchronized
  have hS : va_S (fun q => lo ≤ q) s0.heap s0.heap [] := va_S.rf
  have hl := lv_entry ([.ref (ad 1000), .int x, .int (nI 0)]) (n := 5) (Nat.le_of_ble_eq_true rfl)
  rw [lg_entry_eq]
  generalize (lg_sl ([.ref (ad 1000), .int x, .int (nI 0)]) ++ List.replicate (5 - (lg_sl ([.ref (ad 1000), .int x, .int (nI 0)])).length) Slot.unset).toArray = ls at hl ⊢
  have hl : lv_has ls 5 [(0, .ref (ad 1000)), (1, .int x), (2, .int (nI 0))] := hl
  have loop_68 : ∀ (fu : Nat) (i : Nat), (i ≤ n) → n + 1 - i ≤ fu → ∀ (H : Heap) (locs : List Loc) (ls : Array Slot), mw D vwCl lo ad (ctM aC ad n th sz sg me gr x P co tb fd wd sm rc X) H → va_S (fun q => lo ≤ q) s0.heap H locs → lv_has ls 5 [(0, .ref (ad 1000)), (1, .int x), (2, .int (nI 0)), (3, .int (nI (cnt (inM th gr x) i))), (4, .int (nI (i + 1)))] → W pr l en (headSpec (wsO yX4_within cX4_within 5 (some .int)) ({ frames := 2, cells := 0, slots := 0, locals := 43 } : Room)).room s0 mm (([.ref (ad 1000), .int x, .int (nI 0)] : List Value).toArray) below meth cc0 H locs 0 0 (MQ below (mD1 D vwCl lo (.int (nI (cnt (inM th gr x) n))) ad (ctM aC ad n th sz sg me gr x P co tb fd wd sm rc X)) (([.ref (ad 1000), .int x, .int (nI 0)] : List Value).toArray) s0 0 0 (fun q => lo ≤ q)) (F0 mm 68 ls []) := by
    intro fu
    induction fu with
    | zero =>
      intro i hi hfu H locs ls hM hS hl
      exact absurd hfu (by omega)
    | succ fu ih_68 =>
      intro i hi hfu H locs ls hM hS hl
      have hcl := cnt_le (inM th gr x) i
      refine lv_iload hx hb dX4_within_68 (lv_at hl 4 rfl) ?_
      refine lv_aload_n hx hb dX4_within_70 rfl (lv_at hl 0 rfl) ?_
      refine m_get F (ci := 4) (v := .int (nI n)) (fun w h => tb_O (inX4 w h)) hK hM ctM_o rfl 0 (by decide) (tb_O lkX4_51) rfl dX4_within_71 ?_
      refine m_icmp_gt F (a := (i + 1)) (b := n) (by omega) (by omega) (tgt := 120) dX4_within_74 (by decide) (fun c_74 => ?_) (fun c_74 => ?_)
      · skip
        have hin9 : n = i := by omega
        subst hin9
        refine lv_iload_n hx hb dX4_within_120 rfl (lv_at hl 3 rfl) ?_
        exact W.iret hx hb hr (fun t ht hW => ⟨⟨_, _, _, rfl, ⟨rfl, rfl, rfl⟩, by rw [ht]; exact hM⟩, hS.F ht⟩) hS.2.2 dX4_within_121
      · skip
        refine lv_aload_n hx hb dX4_within_77 rfl (lv_at hl 0 rfl) ?_
        refine m_get F (ci := 4) (v := .ref (ad 1001)) (fun w h => tb_O (inX4 w h)) hK hM ctM_o rfl 1 (by decide) (tb_O lkX4_7) rfl dX4_within_78 ?_
        refine lv_iload hx hb dX4_within_81 (lv_at hl 4 rfl) ?_
        refine m_zald F hK hM 2 rfl (j := (i + 1)) ctM_ath (by omega) (by decide) dX4_within_83 ?_
        refine m_top (y := (bI (th (i + 1)))) rfl ?_
        refine lv_if_eq (tgt := 112) hx hb dX4_within_84 (by decide) (fun c_84 => ?_) (fun c_84 => ?_)
        · skip
          refine lv_iload_n hx hb dX4_within_112 rfl (lv_at hl 3 rfl) ?_
          refine lv_istore_n (lv' := [(3, .int (nI (cnt (inM th gr x) i))), (0, .ref (ad 1000)), (1, .int x), (2, .int (nI 0)), (4, .int (nI (i + 1)))]) hx hb dX4_within_113 rfl hl (by decide) rfl (fun ls hl => ?_)
          refine lv_iinc (v := (nI (i + 1 + 1))) (lv' := [(4, .int (nI (i + 1 + 1))), (3, .int (nI (cnt (inM th gr x) i))), (0, .ref (ad 1000)), (1, .int x), (2, .int (nI 0))]) hx hb dX4_within_114 hl (k := 4) rfl (nI_1 (i + 1)) (by decide) rfl (fun ls hl => ?_)
          refine lv_goto (tgt := 68) hx hb dX4_within_117 (by decide) ?_
          have hcn : cnt (inM th gr x) (i + 1) = cnt (inM th gr x) i := by show cnt (inM th gr x) i + _ = _; rw [if_neg (by first | simp [inM, bI_ne c_84, c_88, c_103] | simp [inM, bI_eq c_84])]; rfl
          rw [← hcn] at hl
          exact ih_68 (i + 1) (by omega) (by omega) _ _ _ hM hS (lv_sub hl [2, 3, 4, 1, 0] rfl)
        · skip
          refine lv_iload_n hx hb dX4_within_87 rfl (lv_at hl 1 rfl) ?_
          refine lv_if_lt (tgt := 106) hx hb dX4_within_88 (by decide) (fun c_88 => ?_) (fun c_88 => ?_)
          · skip
            refine lv_iload_n hx hb dX4_within_106 rfl (lv_at hl 3 rfl) ?_
            refine lv_iconst (v := (nI 1)) hx hb dX4_within_107 (by decide) ?_
            refine lv_iadd hx hb dX4_within_108 ?_
            refine m_top (nI_add (cnt (inM th gr x) i) 1) ?_
            refine lv_goto (tgt := 113) hx hb dX4_within_109 (by decide) ?_
            refine lv_istore_n (lv' := [(3, .int (nI (cnt (inM th gr x) i + 1))), (0, .ref (ad 1000)), (1, .int x), (2, .int (nI 0)), (4, .int (nI (i + 1)))]) hx hb dX4_within_113 rfl hl (by decide) rfl (fun ls hl => ?_)
            refine lv_iinc (v := (nI (i + 1 + 1))) (lv' := [(4, .int (nI (i + 1 + 1))), (3, .int (nI (cnt (inM th gr x) i + 1))), (0, .ref (ad 1000)), (1, .int x), (2, .int (nI 0))]) hx hb dX4_within_114 hl (k := 4) rfl (nI_1 (i + 1)) (by decide) rfl (fun ls hl => ?_)
            refine lv_goto (tgt := 68) hx hb dX4_within_117 (by decide) ?_
            have hcn : cnt (inM th gr x) (i + 1) = cnt (inM th gr x) i + 1 := by show cnt (inM th gr x) i + _ = _; rw [if_pos (by first | simp [inM, bI_ne c_84, c_88, c_103] | simp [inM, bI_ne c_84, c_88])]
            rw [← hcn] at hl
            exact ih_68 (i + 1) (by omega) (by omega) _ _ _ hM hS (lv_sub hl [2, 3, 4, 1, 0] rfl)
          · skip
            refine lv_aload_n hx hb dX4_within_91 rfl (lv_at hl 0 rfl) ?_
            refine m_get F (ci := 4) (v := .ref (ad 1005)) (fun w h => tb_O (inX4 w h)) hK hM ctM_o rfl 5 (by decide) (tb_O lkX4_23) rfl dX4_within_92 ?_
            refine lv_iload hx hb dX4_within_95 (lv_at hl 4 rfl) ?_
            refine m_iald F hK hM 0 rfl (j := (i + 1)) ctM_agr (by omega) (by decide) dX4_within_97 ?_
            refine m_top (y := (gr (i + 1))) rfl ?_
            refine lv_iload_n hx hb dX4_within_98 rfl (lv_at hl 1 rfl) ?_
            refine lv_ishr hx hb dX4_within_99 ?_
            refine lv_iconst (v := (nI 1)) hx hb dX4_within_100 (by decide) ?_
            refine lv_iand hx hb dX4_within_101 ?_
            refine lv_iconst (v := (nI 1)) hx hb dX4_within_102 (by decide) ?_
            refine lv_icmp_ne (tgt := 112) hx hb dX4_within_103 (by decide) (fun c_103 => ?_) (fun c_103 => ?_)
            · skip
              refine lv_iload_n hx hb dX4_within_112 rfl (lv_at hl 3 rfl) ?_
              refine lv_istore_n (lv' := [(3, .int (nI (cnt (inM th gr x) i))), (0, .ref (ad 1000)), (1, .int x), (2, .int (nI 0)), (4, .int (nI (i + 1)))]) hx hb dX4_within_113 rfl hl (by decide) rfl (fun ls hl => ?_)
              refine lv_iinc (v := (nI (i + 1 + 1))) (lv' := [(4, .int (nI (i + 1 + 1))), (3, .int (nI (cnt (inM th gr x) i))), (0, .ref (ad 1000)), (1, .int x), (2, .int (nI 0))]) hx hb dX4_within_114 hl (k := 4) rfl (nI_1 (i + 1)) (by decide) rfl (fun ls hl => ?_)
              refine lv_goto (tgt := 68) hx hb dX4_within_117 (by decide) ?_
              have hcn : cnt (inM th gr x) (i + 1) = cnt (inM th gr x) i := by show cnt (inM th gr x) i + _ = _; rw [if_neg (by first | simp [inM, bI_ne c_84, c_88, c_103] | simp [inM, bI_eq c_84])]; rfl
              rw [← hcn] at hl
              exact ih_68 (i + 1) (by omega) (by omega) _ _ _ hM hS (lv_sub hl [2, 3, 4, 1, 0] rfl)
            · skip
              refine lv_iload_n hx hb dX4_within_106 rfl (lv_at hl 3 rfl) ?_
              refine lv_iconst (v := (nI 1)) hx hb dX4_within_107 (by decide) ?_
              refine lv_iadd hx hb dX4_within_108 ?_
              refine m_top (nI_add (cnt (inM th gr x) i) 1) ?_
              refine lv_goto (tgt := 113) hx hb dX4_within_109 (by decide) ?_
              refine lv_istore_n (lv' := [(3, .int (nI (cnt (inM th gr x) i + 1))), (0, .ref (ad 1000)), (1, .int x), (2, .int (nI 0)), (4, .int (nI (i + 1)))]) hx hb dX4_within_113 rfl hl (by decide) rfl (fun ls hl => ?_)
              refine lv_iinc (v := (nI (i + 1 + 1))) (lv' := [(4, .int (nI (i + 1 + 1))), (3, .int (nI (cnt (inM th gr x) i + 1))), (0, .ref (ad 1000)), (1, .int x), (2, .int (nI 0))]) hx hb dX4_within_114 hl (k := 4) rfl (nI_1 (i + 1)) (by decide) rfl (fun ls hl => ?_)
              refine lv_goto (tgt := 68) hx hb dX4_within_117 (by decide) ?_
              have hcn : cnt (inM th gr x) (i + 1) = cnt (inM th gr x) i + 1 := by show cnt (inM th gr x) i + _ = _; rw [if_pos (by first | simp [inM, bI_ne c_84, c_88, c_103] | simp [inM, bI_ne c_84, c_88])]
              rw [← hcn] at hl
              exact ih_68 (i + 1) (by omega) (by omega) _ _ _ hM hS (lv_sub hl [2, 3, 4, 1, 0] rfl)
  refine lv_iload_n hx hb dX4_within_0 rfl (lv_at hl 2 rfl) ?_
  refine lv_if_eq (tgt := 14) hx hb dX4_within_1 (by decide) (fun c_1 => ?_) (fun c_1 => ?_)
  · skip
    refine lv_iload_n hx hb dX4_within_14 rfl (lv_at hl 1 rfl) ?_
    refine lv_iload_n hx hb dX4_within_15 rfl (lv_at hl 2 rfl) ?_
    refine lv_if_ne (tgt := 23) hx hb dX4_within_16 (by decide) (fun c_16 => ?_) (fun c_16 => ?_)
    · skip
      exact absurd nI_0 c_16
    · skip
      refine lv_iconst (v := (-1)) hx hb dX4_within_19 (by decide) ?_
      refine lv_goto (tgt := 24) hx hb dX4_within_20 (by decide) ?_
      refine lv_bipush (v := (nI 7)) hx hb dX4_within_24 (by decide) ?_
      refine m_d1 (v := .int (bI (btw x (-1) (nI 7)))) (ct1 := ctM aC ad n th sz sg me gr lk P co tb fd wd sm rc X) (va_runS (As := [.int x, .int (-1), .int (nI 7)]) (rest := []) F (c_between l x (-1) (nI 7)) (va_cwS 3 F.2.2.2.2 (go_S (fun _ h => tb_O h) mlX4_54 stX4_between iniX4 cdX4_between) rfl rfl rfl (by decide +kernel) ⟨Nat.le_of_ble_eq_true rfl, Nat.le_of_ble_eq_true rfl⟩) (mPreS hKK hM (Nat.le_trans hlo hS.1)) rfl rfl hl.1 rfl (lv_room (Nat.le_of_ble_eq_true rfl)) dX4_within_26 ⟨Nat.le_of_ble_eq_true rfl, Nat.le_of_ble_eq_true rfl⟩) hS (fun H locs hM hS => ?_)
      refine lv_if_ne (tgt := 35) hx hb dX4_within_29 (by decide) (fun c_29 => ?_) (fun c_29 => ?_)
      · skip
        refine lv_iload_n hx hb dX4_within_35 rfl (lv_at hl 2 rfl) ?_
        refine lv_if_ne (tgt := 47) hx hb dX4_within_36 (by decide) (fun c_36 => ?_) (fun c_36 => ?_)
        · skip
          exact absurd nI_0 c_36
        · skip
          refine lv_aload_n hx hb dX4_within_39 rfl (lv_at hl 0 rfl) ?_
          refine lv_iload_n hx hb dX4_within_40 rfl (lv_at hl 1 rfl) ?_
          refine m_put F (ci := 4) (v := .int x) (fun w h => tb_O (inX4 w h)) mc_X4 hK hM hS ctM_o 6 (by decide) (tb_O lkX4_26) rfl rfl rfl (Nat.le_of_ble_eq_true rfl) dX4_within_41 (fun H locs hM hS => ?_)
          have hM : mw D vwCl lo ad (va_up (ctM aC ad n th sz sg me gr lk P co tb fd wd sm rc X) 1000 (some (.inr (4, [.int (nI n), .ref (ad 1001), .ref (ad 1002), .ref (ad 1003), .ref (ad 1004), .ref (ad 1005), .int x, .int (nI P), .ref (ad 1006), .ref (ad 1007), .int (nI fd), .ref (ad 1008), .ref (ad 1009), .ref (ad 1010)])))) H := hM
          have hM : mw D vwCl lo ad (ctM aC ad n th sz sg me gr x P co tb fd wd sm rc X) H := by rw [ctM_lk] at hM; exact hM
          refine lv_goto (tgt := 63) hx hb dX4_within_44 (by decide) ?_
          refine lv_iconst (v := (nI 0)) hx hb dX4_within_63 (by decide) ?_
          refine lv_istore_n (lv' := [(3, .int (nI 0)), (0, .ref (ad 1000)), (1, .int x), (2, .int (nI 0))]) hx hb dX4_within_64 rfl hl (by decide) rfl (fun ls hl => ?_)
          refine lv_iconst (v := (nI 1)) hx hb dX4_within_65 (by decide) ?_
          refine lv_istore (lv' := [(4, .int (nI 1)), (3, .int (nI 0)), (0, .ref (ad 1000)), (1, .int x), (2, .int (nI 0))]) hx hb dX4_within_66 hl (by decide) rfl (fun ls hl => ?_)
          exact loop_68 (n + 1) 0 (Nat.zero_le _) (by omega) _ _ _ hM hS (lv_sub hl [2, 3, 4, 1, 0] rfl)
      · skip
        exact absurd (by rw [hxg]; decide) (fun h : ¬ bI (btw x (-1) (nI 7)) = 0 => h c_29)
  · skip
    exact absurd nI_0 c_1

set_option maxHeartbeats 4000000 in
set_option maxRecDepth 100000 in
theorem c_mWithinU (l : Launch) {D : va_G} {aC : Nat → ClassId} {lo : Nat} {ad : Nat → Nat} {n : Nat} {th : Nat → Bool} {sz : Nat → Nat} {sg : Nat → Nat} {me : Nat → Nat} {gr : Nat → Int32} {lk : Int32} {P : Nat} {co : Nat → Option Nat} {tb : Nat → Nat} {fd : Nat} {wd : Nat → Nat} {sm : Nat → Nat} {rc : Nat → Nat} {X : Nat → Option va_E} (x y : Int32) (hy0 : ¬ y = 0) (hn0 : isE n th y = false) (h200 : n ≤ 200) : Met l yX4_within (wsO yX4_within cX4_within 5 (some .int)) ({ frames := 2, cells := 0, slots := 0, locals := 43 } : Room) (mPc D vwCl (tyA aC) lo ad (ctM aC ad n th sz sg me gr lk P co tb fd wd sm rc X) [.ref (ad 1000), .int x, .int y]) (mD1 D vwCl lo (.int (-1)) ad (ctM aC ad n th sz sg me gr lk P co tb fd wd sm rc X)) 0 0 (fun q => lo ≤ q) := by
  refine Met.ofW (cc := cX4_within) (maxL := 5) (ret := (some .int)) (by decide) rfl ?_
  intro pr en s0 mm args below meth cc0 s₁ B hml hv
  obtain ⟨rfl, hlo, hM, hKK⟩ := hv
  have hK := hKK.1
  have hr := B.returns
  have hts := atoms_spec (ws := (wsO yX4_within cX4_within 5 (some .int))) B.pre
  have F : CallFix pr mm cc0 cX4_within 5 s0 (([.ref (ad 1000), .int x, .int y] : List Value).toArray) (wsO yX4_within cX4_within 5 (some .int)) RX4 := ⟨B.exec, B.bytes, hml, findClass_of_methodNamed B.named, hts⟩
  have hx := F.1
  have hb := F.2.1
  have hlocks := B.notSynchronized
  have hS : va_S (fun q => lo ≤ q) s0.heap s0.heap [] := va_S.rf
  have hl := lv_entry ([.ref (ad 1000), .int x, .int y]) (n := 5) (Nat.le_of_ble_eq_true rfl)
  rw [lg_entry_eq]
  generalize (lg_sl ([.ref (ad 1000), .int x, .int y]) ++ List.replicate (5 - (lg_sl ([.ref (ad 1000), .int x, .int y])).length) Slot.unset).toArray = ls at hl ⊢
  have hl : lv_has ls 5 [(0, .ref (ad 1000)), (1, .int x), (2, .int y)] := hl
  refine lv_iload_n hx hb dX4_within_0 rfl (lv_at hl 2 rfl) ?_
  refine lv_if_eq (tgt := 14) hx hb dX4_within_1 (by decide) (fun c_1 => ?_) (fun c_1 => ?_)
  · skip
    exact absurd c_1 hy0
  · skip
    refine lv_aload_n hx hb dX4_within_4 rfl (lv_at hl 0 rfl) ?_
    refine lv_iload_n hx hb dX4_within_5 rfl (lv_at hl 2 rfl) ?_
    refine m_d1 (v := .int (bI (isE n th y))) (ct1 := ctM aC ad n th sz sg me gr lk P co tb fd wd sm rc X) (va_runV (As := [.int y]) (rest := []) F (c_mIsE l y h200) (cwV 1 F.2.2.2.2 (go_V (fun _ h => tb_O h) mlX4_58 imX4_isEntry seX4_isEntry iniX4 cdX4_isEntry) rfl rfl rfl (by decide +kernel) ⟨Nat.le_of_ble_eq_true rfl, Nat.le_of_ble_eq_true rfl⟩) (mPreV hKK hM (Nat.le_trans hlo hS.1) ctM_o rfl) rfl rfl hl.1 rfl (lv_room (Nat.le_of_ble_eq_true rfl)) dX4_within_6 ⟨Nat.le_of_ble_eq_true rfl, Nat.le_of_ble_eq_true rfl⟩) hS (fun H locs hM hS => ?_)
    refine lv_if_ne (tgt := 14) hx hb dX4_within_9 (by decide) (fun c_9 => ?_) (fun c_9 => ?_)
    · skip
      exact absurd (by rw [hn0]; rfl) c_9
    · skip
      refine lv_iconst (v := (-1)) hx hb dX4_within_12 (by decide) ?_
      exact W.iret hx hb hr (fun t ht hW => ⟨⟨_, _, _, rfl, ⟨rfl, rfl, rfl⟩, by rw [ht]; exact hM⟩, hS.F ht⟩) hS.2.2 dX4_within_13

set_option maxHeartbeats 4000000 in
set_option maxRecDepth 100000 in
theorem c_mWithinO (l : Launch) {D : va_G} {aC : Nat → ClassId} {lo : Nat} {ad : Nat → Nat} {n : Nat} {th : Nat → Bool} {sz : Nat → Nat} {sg : Nat → Nat} {me : Nat → Nat} {gr : Nat → Int32} {lk : Int32} {P : Nat} {co : Nat → Option Nat} {tb : Nat → Nat} {fd : Nat} {wd : Nat → Nat} {sm : Nat → Nat} {rc : Nat → Nat} {X : Nat → Option va_E} (x : Int32) (j : Nat) (hj1 : 1 ≤ j) (hj2 : j ≤ n) (h200 : n ≤ 200) (ht : th j = true) (hxg : btw x (nI 0) (nI 7) = false) : Met l yX4_within (wsO yX4_within cX4_within 5 (some .int)) ({ frames := 2, cells := 0, slots := 0, locals := 43 } : Room) (mPc D vwCl (tyA aC) lo ad (ctM aC ad n th sz sg me gr lk P co tb fd wd sm rc X) [.ref (ad 1000), .int x, .int (nI j)]) (mD1 D vwCl lo (.int (-2)) ad (ctM aC ad n th sz sg me gr lk P co tb fd wd sm rc X)) 0 0 (fun q => lo ≤ q) := by
  refine Met.ofW (cc := cX4_within) (maxL := 5) (ret := (some .int)) (by decide) rfl ?_
  intro pr en s0 mm args below meth cc0 s₁ B hml hv
  obtain ⟨rfl, hlo, hM, hKK⟩ := hv
  have hK := hKK.1
  have hr := B.returns
  have hts := atoms_spec (ws := (wsO yX4_within cX4_within 5 (some .int))) B.pre
  have F : CallFix pr mm cc0 cX4_within 5 s0 (([.ref (ad 1000), .int x, .int (nI j)] : List Value).toArray) (wsO yX4_within cX4_within 5 (some .int)) RX4 := ⟨B.exec, B.bytes, hml, findClass_of_methodNamed B.named, hts⟩
  have hx := F.1
  have hb := F.2.1
  have hlocks := B.notSynchronized
  have hS : va_S (fun q => lo ≤ q) s0.heap s0.heap [] := va_S.rf
  have hl := lv_entry ([.ref (ad 1000), .int x, .int (nI j)]) (n := 5) (Nat.le_of_ble_eq_true rfl)
  rw [lg_entry_eq]
  generalize (lg_sl ([.ref (ad 1000), .int x, .int (nI j)]) ++ List.replicate (5 - (lg_sl ([.ref (ad 1000), .int x, .int (nI j)])).length) Slot.unset).toArray = ls at hl ⊢
  have hl : lv_has ls 5 [(0, .ref (ad 1000)), (1, .int x), (2, .int (nI j))] := hl
  refine lv_iload_n hx hb dX4_within_0 rfl (lv_at hl 2 rfl) ?_
  refine lv_if_eq (tgt := 14) hx hb dX4_within_1 (by decide) (fun c_1 => ?_) (fun c_1 => ?_)
  · skip
    exact absurd c_1 (nI_ne0 hj1 (by omega))
  · skip
    refine lv_aload_n hx hb dX4_within_4 rfl (lv_at hl 0 rfl) ?_
    refine lv_iload_n hx hb dX4_within_5 rfl (lv_at hl 2 rfl) ?_
    refine m_d1 (v := .int (bI (isE n th (nI j)))) (ct1 := ctM aC ad n th sz sg me gr lk P co tb fd wd sm rc X) (va_runV (As := [.int (nI j)]) (rest := []) F (c_mIsE l (nI j) h200) (cwV 1 F.2.2.2.2 (go_V (fun _ h => tb_O h) mlX4_58 imX4_isEntry seX4_isEntry iniX4 cdX4_isEntry) rfl rfl rfl (by decide +kernel) ⟨Nat.le_of_ble_eq_true rfl, Nat.le_of_ble_eq_true rfl⟩) (mPreV hKK hM (Nat.le_trans hlo hS.1) ctM_o rfl) rfl rfl hl.1 rfl (lv_room (Nat.le_of_ble_eq_true rfl)) dX4_within_6 ⟨Nat.le_of_ble_eq_true rfl, Nat.le_of_ble_eq_true rfl⟩) hS (fun H locs hM hS => ?_)
    refine lv_if_ne (tgt := 14) hx hb dX4_within_9 (by decide) (fun c_9 => ?_) (fun c_9 => ?_)
    · skip
      refine lv_iload_n hx hb dX4_within_14 rfl (lv_at hl 1 rfl) ?_
      refine lv_iload_n hx hb dX4_within_15 rfl (lv_at hl 2 rfl) ?_
      refine lv_if_ne (tgt := 23) hx hb dX4_within_16 (by decide) (fun c_16 => ?_) (fun c_16 => ?_)
      · skip
        refine lv_iconst (v := (nI 0)) hx hb dX4_within_23 (by decide) ?_
        refine lv_bipush (v := (nI 7)) hx hb dX4_within_24 (by decide) ?_
        refine m_d1 (v := .int (bI (btw x (nI 0) (nI 7)))) (ct1 := ctM aC ad n th sz sg me gr lk P co tb fd wd sm rc X) (va_runS (As := [.int x, .int (nI 0), .int (nI 7)]) (rest := []) F (c_between l x (nI 0) (nI 7)) (va_cwS 3 F.2.2.2.2 (go_S (fun _ h => tb_O h) mlX4_54 stX4_between iniX4 cdX4_between) rfl rfl rfl (by decide +kernel) ⟨Nat.le_of_ble_eq_true rfl, Nat.le_of_ble_eq_true rfl⟩) (mPreS hKK hM (Nat.le_trans hlo hS.1)) rfl rfl hl.1 rfl (lv_room (Nat.le_of_ble_eq_true rfl)) dX4_within_26 ⟨Nat.le_of_ble_eq_true rfl, Nat.le_of_ble_eq_true rfl⟩) hS (fun H locs hM hS => ?_)
        refine lv_if_ne (tgt := 35) hx hb dX4_within_29 (by decide) (fun c_29 => ?_) (fun c_29 => ?_)
        · skip
          exact absurd (by rw [hxg]; rfl) c_29
        · skip
          refine lv_bipush (v := (-2)) hx hb dX4_within_32 (by decide) ?_
          exact W.iret hx hb hr (fun t ht hW => ⟨⟨_, _, _, rfl, ⟨rfl, rfl, rfl⟩, by rw [ht]; exact hM⟩, hS.F ht⟩) hS.2.2 dX4_within_34
      · skip
        exact absurd c_16 (nI_ne0 hj1 (by omega))
    · skip
      exact absurd (by rw [isE_nI hj1 hj2 h200, ht]; decide) (fun h : ¬ bI (isE n th (nI j)) = 0 => h c_9)

set_option maxHeartbeats 4000000 in
set_option maxRecDepth 100000 in
theorem c_mWithin (l : Launch) {D : va_G} {aC : Nat → ClassId} {lo : Nat} {ad : Nat → Nat} {n : Nat} {th : Nat → Bool} {sz : Nat → Nat} {sg : Nat → Nat} {me : Nat → Nat} {gr : Nat → Int32} {lk : Int32} {P : Nat} {co : Nat → Option Nat} {tb : Nat → Nat} {fd : Nat} {wd : Nat → Nat} {sm : Nat → Nat} {rc : Nat → Nat} {X : Nat → Option va_E} (x : Int32) (j : Nat) (hj1 : 1 ≤ j) (hj2 : j ≤ n) (h200 : n ≤ 200) (ht : th j = true) (hxg : btw x (nI 0) (nI 7) = true) : Met l yX4_within (wsO yX4_within cX4_within 5 (some .int)) ({ frames := 2, cells := 0, slots := 0, locals := 43 } : Room) (mPc D vwCl (tyA aC) lo ad (ctM aC ad n th sz sg me gr lk P co tb fd wd sm rc X) [.ref (ad 1000), .int x, .int (nI j)]) (mD1 D vwCl lo (.int (nI (cnt (inM th (upd gr j (gr j ||| (nI 1) <<< (x &&& 31))) x) n))) ad (ctM aC ad n th sz sg me (upd gr j (gr j ||| (nI 1) <<< (x &&& 31))) lk P co tb fd wd sm rc X)) 0 0 (fun q => lo ≤ q) := by
  refine Met.ofW (cc := cX4_within) (maxL := 5) (ret := (some .int)) (by decide) rfl ?_
  intro pr en s0 mm args below meth cc0 s₁ B hml hv
  obtain ⟨rfl, hlo, hM, hKK⟩ := hv
  have hK := hKK.1
  have hr := B.returns
  have hts := atoms_spec (ws := (wsO yX4_within cX4_within 5 (some .int))) B.pre
  have F : CallFix pr mm cc0 cX4_within 5 s0 (([.ref (ad 1000), .int x, .int (nI j)] : List Value).toArray) (wsO yX4_within cX4_within 5 (some .int)) RX4 := ⟨B.exec, B.bytes, hml, findClass_of_methodNamed B.named, hts⟩
  have hx := F.1
  have hb := F.2.1
  have hlocks := B.notSynchronized
  have hS : va_S (fun q => lo ≤ q) s0.heap s0.heap [] := va_S.rf
  have hl := lv_entry ([.ref (ad 1000), .int x, .int (nI j)]) (n := 5) (Nat.le_of_ble_eq_true rfl)
  rw [lg_entry_eq]
  generalize (lg_sl ([.ref (ad 1000), .int x, .int (nI j)]) ++ List.replicate (5 - (lg_sl ([.ref (ad 1000), .int x, .int (nI j)])).length) Slot.unset).toArray = ls at hl ⊢
  have hl : lv_has ls 5 [(0, .ref (ad 1000)), (1, .int x), (2, .int (nI j))] := hl
  have loop_68 : ∀ (fu : Nat) (i : Nat), (i ≤ n) → n + 1 - i ≤ fu → ∀ (H : Heap) (locs : List Loc) (ls : Array Slot), mw D vwCl lo ad (ctM aC ad n th sz sg me (upd gr j (gr j ||| (nI 1) <<< (x &&& 31))) lk P co tb fd wd sm rc X) H → va_S (fun q => lo ≤ q) s0.heap H locs → lv_has ls 5 [(0, .ref (ad 1000)), (1, .int x), (2, .int (nI j)), (3, .int (nI (cnt (inM th (upd gr j (gr j ||| (nI 1) <<< (x &&& 31))) x) i))), (4, .int (nI (i + 1)))] → W pr l en (headSpec (wsO yX4_within cX4_within 5 (some .int)) ({ frames := 2, cells := 0, slots := 0, locals := 43 } : Room)).room s0 mm (([.ref (ad 1000), .int x, .int (nI j)] : List Value).toArray) below meth cc0 H locs 0 0 (MQ below (mD1 D vwCl lo (.int (nI (cnt (inM th (upd gr j (gr j ||| (nI 1) <<< (x &&& 31))) x) n))) ad (ctM aC ad n th sz sg me (upd gr j (gr j ||| (nI 1) <<< (x &&& 31))) lk P co tb fd wd sm rc X)) (([.ref (ad 1000), .int x, .int (nI j)] : List Value).toArray) s0 0 0 (fun q => lo ≤ q)) (F0 mm 68 ls []) := by
    intro fu
    induction fu with
    | zero =>
      intro i hi hfu H locs ls hM hS hl
      exact absurd hfu (by omega)
    | succ fu ih_68 =>
      intro i hi hfu H locs ls hM hS hl
      have hcl := cnt_le (inM th (upd gr j (gr j ||| (nI 1) <<< (x &&& 31))) x) i
      refine lv_iload hx hb dX4_within_68 (lv_at hl 4 rfl) ?_
      refine lv_aload_n hx hb dX4_within_70 rfl (lv_at hl 0 rfl) ?_
      refine m_get F (ci := 4) (v := .int (nI n)) (fun w h => tb_O (inX4 w h)) hK hM ctM_o rfl 0 (by decide) (tb_O lkX4_51) rfl dX4_within_71 ?_
      refine m_icmp_gt F (a := (i + 1)) (b := n) (by omega) (by omega) (tgt := 120) dX4_within_74 (by decide) (fun c_74 => ?_) (fun c_74 => ?_)
      · skip
        have hin9 : n = i := by omega
        subst hin9
        refine lv_iload_n hx hb dX4_within_120 rfl (lv_at hl 3 rfl) ?_
        exact W.iret hx hb hr (fun t ht hW => ⟨⟨_, _, _, rfl, ⟨rfl, rfl, rfl⟩, by rw [ht]; exact hM⟩, hS.F ht⟩) hS.2.2 dX4_within_121
      · skip
        refine lv_aload_n hx hb dX4_within_77 rfl (lv_at hl 0 rfl) ?_
        refine m_get F (ci := 4) (v := .ref (ad 1001)) (fun w h => tb_O (inX4 w h)) hK hM ctM_o rfl 1 (by decide) (tb_O lkX4_7) rfl dX4_within_78 ?_
        refine lv_iload hx hb dX4_within_81 (lv_at hl 4 rfl) ?_
        refine m_zald F hK hM 2 rfl (j := (i + 1)) ctM_ath (by omega) (by decide) dX4_within_83 ?_
        refine m_top (y := (bI (th (i + 1)))) rfl ?_
        refine lv_if_eq (tgt := 112) hx hb dX4_within_84 (by decide) (fun c_84 => ?_) (fun c_84 => ?_)
        · skip
          refine lv_iload_n hx hb dX4_within_112 rfl (lv_at hl 3 rfl) ?_
          refine lv_istore_n (lv' := [(3, .int (nI (cnt (inM th (upd gr j (gr j ||| (nI 1) <<< (x &&& 31))) x) i))), (0, .ref (ad 1000)), (1, .int x), (2, .int (nI j)), (4, .int (nI (i + 1)))]) hx hb dX4_within_113 rfl hl (by decide) rfl (fun ls hl => ?_)
          refine lv_iinc (v := (nI (i + 1 + 1))) (lv' := [(4, .int (nI (i + 1 + 1))), (3, .int (nI (cnt (inM th (upd gr j (gr j ||| (nI 1) <<< (x &&& 31))) x) i))), (0, .ref (ad 1000)), (1, .int x), (2, .int (nI j))]) hx hb dX4_within_114 hl (k := 4) rfl (nI_1 (i + 1)) (by decide) rfl (fun ls hl => ?_)
          refine lv_goto (tgt := 68) hx hb dX4_within_117 (by decide) ?_
          have hcn : cnt (inM th (upd gr j (gr j ||| (nI 1) <<< (x &&& 31))) x) (i + 1) = cnt (inM th (upd gr j (gr j ||| (nI 1) <<< (x &&& 31))) x) i := by show cnt (inM th (upd gr j (gr j ||| (nI 1) <<< (x &&& 31))) x) i + _ = _; rw [if_neg (by first | simp [inM, bI_ne c_84, c_88, c_103] | simp [inM, bI_eq c_84])]; rfl
          rw [← hcn] at hl
          exact ih_68 (i + 1) (by omega) (by omega) _ _ _ hM hS (lv_sub hl [2, 3, 4, 1, 0] rfl)
        · skip
          refine lv_iload_n hx hb dX4_within_87 rfl (lv_at hl 1 rfl) ?_
          refine lv_if_lt (tgt := 106) hx hb dX4_within_88 (by decide) (fun c_88 => ?_) (fun c_88 => ?_)
          · skip
            refine lv_iload_n hx hb dX4_within_106 rfl (lv_at hl 3 rfl) ?_
            refine lv_iconst (v := (nI 1)) hx hb dX4_within_107 (by decide) ?_
            refine lv_iadd hx hb dX4_within_108 ?_
            refine m_top (nI_add (cnt (inM th (upd gr j (gr j ||| (nI 1) <<< (x &&& 31))) x) i) 1) ?_
            refine lv_goto (tgt := 113) hx hb dX4_within_109 (by decide) ?_
            refine lv_istore_n (lv' := [(3, .int (nI (cnt (inM th (upd gr j (gr j ||| (nI 1) <<< (x &&& 31))) x) i + 1))), (0, .ref (ad 1000)), (1, .int x), (2, .int (nI j)), (4, .int (nI (i + 1)))]) hx hb dX4_within_113 rfl hl (by decide) rfl (fun ls hl => ?_)
            refine lv_iinc (v := (nI (i + 1 + 1))) (lv' := [(4, .int (nI (i + 1 + 1))), (3, .int (nI (cnt (inM th (upd gr j (gr j ||| (nI 1) <<< (x &&& 31))) x) i + 1))), (0, .ref (ad 1000)), (1, .int x), (2, .int (nI j))]) hx hb dX4_within_114 hl (k := 4) rfl (nI_1 (i + 1)) (by decide) rfl (fun ls hl => ?_)
            refine lv_goto (tgt := 68) hx hb dX4_within_117 (by decide) ?_
            have hcn : cnt (inM th (upd gr j (gr j ||| (nI 1) <<< (x &&& 31))) x) (i + 1) = cnt (inM th (upd gr j (gr j ||| (nI 1) <<< (x &&& 31))) x) i + 1 := by show cnt (inM th (upd gr j (gr j ||| (nI 1) <<< (x &&& 31))) x) i + _ = _; rw [if_pos (by first | simp [inM, bI_ne c_84, c_88, c_103] | simp [inM, bI_ne c_84, c_88])]
            rw [← hcn] at hl
            exact ih_68 (i + 1) (by omega) (by omega) _ _ _ hM hS (lv_sub hl [2, 3, 4, 1, 0] rfl)
          · skip
            refine lv_aload_n hx hb dX4_within_91 rfl (lv_at hl 0 rfl) ?_
            refine m_get F (ci := 4) (v := .ref (ad 1005)) (fun w h => tb_O (inX4 w h)) hK hM ctM_o rfl 5 (by decide) (tb_O lkX4_23) rfl dX4_within_92 ?_
            refine lv_iload hx hb dX4_within_95 (lv_at hl 4 rfl) ?_
            refine m_iald F hK hM 0 rfl (j := (i + 1)) ctM_agr (by omega) (by decide) dX4_within_97 ?_
            refine m_top (y := ((upd gr j (gr j ||| (nI 1) <<< (x &&& 31))) (i + 1))) rfl ?_
            refine lv_iload_n hx hb dX4_within_98 rfl (lv_at hl 1 rfl) ?_
            refine lv_ishr hx hb dX4_within_99 ?_
            refine lv_iconst (v := (nI 1)) hx hb dX4_within_100 (by decide) ?_
            refine lv_iand hx hb dX4_within_101 ?_
            refine lv_iconst (v := (nI 1)) hx hb dX4_within_102 (by decide) ?_
            refine lv_icmp_ne (tgt := 112) hx hb dX4_within_103 (by decide) (fun c_103 => ?_) (fun c_103 => ?_)
            · skip
              refine lv_iload_n hx hb dX4_within_112 rfl (lv_at hl 3 rfl) ?_
              refine lv_istore_n (lv' := [(3, .int (nI (cnt (inM th (upd gr j (gr j ||| (nI 1) <<< (x &&& 31))) x) i))), (0, .ref (ad 1000)), (1, .int x), (2, .int (nI j)), (4, .int (nI (i + 1)))]) hx hb dX4_within_113 rfl hl (by decide) rfl (fun ls hl => ?_)
              refine lv_iinc (v := (nI (i + 1 + 1))) (lv' := [(4, .int (nI (i + 1 + 1))), (3, .int (nI (cnt (inM th (upd gr j (gr j ||| (nI 1) <<< (x &&& 31))) x) i))), (0, .ref (ad 1000)), (1, .int x), (2, .int (nI j))]) hx hb dX4_within_114 hl (k := 4) rfl (nI_1 (i + 1)) (by decide) rfl (fun ls hl => ?_)
              refine lv_goto (tgt := 68) hx hb dX4_within_117 (by decide) ?_
              have hcn : cnt (inM th (upd gr j (gr j ||| (nI 1) <<< (x &&& 31))) x) (i + 1) = cnt (inM th (upd gr j (gr j ||| (nI 1) <<< (x &&& 31))) x) i := by show cnt (inM th (upd gr j (gr j ||| (nI 1) <<< (x &&& 31))) x) i + _ = _; rw [if_neg (by first | simp [inM, bI_ne c_84, c_88, c_103] | simp [inM, bI_eq c_84])]; rfl
              rw [← hcn] at hl
              exact ih_68 (i + 1) (by omega) (by omega) _ _ _ hM hS (lv_sub hl [2, 3, 4, 1, 0] rfl)
            · skip
              refine lv_iload_n hx hb dX4_within_106 rfl (lv_at hl 3 rfl) ?_
              refine lv_iconst (v := (nI 1)) hx hb dX4_within_107 (by decide) ?_
              refine lv_iadd hx hb dX4_within_108 ?_
              refine m_top (nI_add (cnt (inM th (upd gr j (gr j ||| (nI 1) <<< (x &&& 31))) x) i) 1) ?_
              refine lv_goto (tgt := 113) hx hb dX4_within_109 (by decide) ?_
              refine lv_istore_n (lv' := [(3, .int (nI (cnt (inM th (upd gr j (gr j ||| (nI 1) <<< (x &&& 31))) x) i + 1))), (0, .ref (ad 1000)), (1, .int x), (2, .int (nI j)), (4, .int (nI (i + 1)))]) hx hb dX4_within_113 rfl hl (by decide) rfl (fun ls hl => ?_)
              refine lv_iinc (v := (nI (i + 1 + 1))) (lv' := [(4, .int (nI (i + 1 + 1))), (3, .int (nI (cnt (inM th (upd gr j (gr j ||| (nI 1) <<< (x &&& 31))) x) i + 1))), (0, .ref (ad 1000)), (1, .int x), (2, .int (nI j))]) hx hb dX4_within_114 hl (k := 4) rfl (nI_1 (i + 1)) (by decide) rfl (fun ls hl => ?_)
              refine lv_goto (tgt := 68) hx hb dX4_within_117 (by decide) ?_
              have hcn : cnt (inM th (upd gr j (gr j ||| (nI 1) <<< (x &&& 31))) x) (i + 1) = cnt (inM th (upd gr j (gr j ||| (nI 1) <<< (x &&& 31))) x) i + 1 := by show cnt (inM th (upd gr j (gr j ||| (nI 1) <<< (x &&& 31))) x) i + _ = _; rw [if_pos (by first | simp [inM, bI_ne c_84, c_88, c_103] | simp [inM, bI_ne c_84, c_88])]
              rw [← hcn] at hl
              exact ih_68 (i + 1) (by omega) (by omega) _ _ _ hM hS (lv_sub hl [2, 3, 4, 1, 0] rfl)
  refine lv_iload_n hx hb dX4_within_0 rfl (lv_at hl 2 rfl) ?_
  refine lv_if_eq (tgt := 14) hx hb dX4_within_1 (by decide) (fun c_1 => ?_) (fun c_1 => ?_)
  · skip
    exact absurd c_1 (nI_ne0 hj1 (by omega))
  · skip
    refine lv_aload_n hx hb dX4_within_4 rfl (lv_at hl 0 rfl) ?_
    refine lv_iload_n hx hb dX4_within_5 rfl (lv_at hl 2 rfl) ?_
    refine m_d1 (v := .int (bI (isE n th (nI j)))) (ct1 := ctM aC ad n th sz sg me gr lk P co tb fd wd sm rc X) (va_runV (As := [.int (nI j)]) (rest := []) F (c_mIsE l (nI j) h200) (cwV 1 F.2.2.2.2 (go_V (fun _ h => tb_O h) mlX4_58 imX4_isEntry seX4_isEntry iniX4 cdX4_isEntry) rfl rfl rfl (by decide +kernel) ⟨Nat.le_of_ble_eq_true rfl, Nat.le_of_ble_eq_true rfl⟩) (mPreV hKK hM (Nat.le_trans hlo hS.1) ctM_o rfl) rfl rfl hl.1 rfl (lv_room (Nat.le_of_ble_eq_true rfl)) dX4_within_6 ⟨Nat.le_of_ble_eq_true rfl, Nat.le_of_ble_eq_true rfl⟩) hS (fun H locs hM hS => ?_)
    refine lv_if_ne (tgt := 14) hx hb dX4_within_9 (by decide) (fun c_9 => ?_) (fun c_9 => ?_)
    · skip
      refine lv_iload_n hx hb dX4_within_14 rfl (lv_at hl 1 rfl) ?_
      refine lv_iload_n hx hb dX4_within_15 rfl (lv_at hl 2 rfl) ?_
      refine lv_if_ne (tgt := 23) hx hb dX4_within_16 (by decide) (fun c_16 => ?_) (fun c_16 => ?_)
      · skip
        refine lv_iconst (v := (nI 0)) hx hb dX4_within_23 (by decide) ?_
        refine lv_bipush (v := (nI 7)) hx hb dX4_within_24 (by decide) ?_
        refine m_d1 (v := .int (bI (btw x (nI 0) (nI 7)))) (ct1 := ctM aC ad n th sz sg me gr lk P co tb fd wd sm rc X) (va_runS (As := [.int x, .int (nI 0), .int (nI 7)]) (rest := []) F (c_between l x (nI 0) (nI 7)) (va_cwS 3 F.2.2.2.2 (go_S (fun _ h => tb_O h) mlX4_54 stX4_between iniX4 cdX4_between) rfl rfl rfl (by decide +kernel) ⟨Nat.le_of_ble_eq_true rfl, Nat.le_of_ble_eq_true rfl⟩) (mPreS hKK hM (Nat.le_trans hlo hS.1)) rfl rfl hl.1 rfl (lv_room (Nat.le_of_ble_eq_true rfl)) dX4_within_26 ⟨Nat.le_of_ble_eq_true rfl, Nat.le_of_ble_eq_true rfl⟩) hS (fun H locs hM hS => ?_)
        refine lv_if_ne (tgt := 35) hx hb dX4_within_29 (by decide) (fun c_29 => ?_) (fun c_29 => ?_)
        · skip
          refine lv_iload_n hx hb dX4_within_35 rfl (lv_at hl 2 rfl) ?_
          refine lv_if_ne (tgt := 47) hx hb dX4_within_36 (by decide) (fun c_36 => ?_) (fun c_36 => ?_)
          · skip
            refine lv_aload_n hx hb dX4_within_47 rfl (lv_at hl 0 rfl) ?_
            refine m_get F (ci := 4) (v := .ref (ad 1005)) (fun w h => tb_O (inX4 w h)) hK hM ctM_o rfl 5 (by decide) (tb_O lkX4_23) rfl dX4_within_48 ?_
            refine lv_iload_n hx hb dX4_within_51 rfl (lv_at hl 2 rfl) ?_
            refine lv_aload_n hx hb dX4_within_52 rfl (lv_at hl 0 rfl) ?_
            refine m_get F (ci := 4) (v := .ref (ad 1005)) (fun w h => tb_O (inX4 w h)) hK hM ctM_o rfl 5 (by decide) (tb_O lkX4_23) rfl dX4_within_53 ?_
            refine lv_iload_n hx hb dX4_within_56 rfl (lv_at hl 2 rfl) ?_
            refine m_iald F hK hM 0 rfl (j := j) ctM_agr (by omega) (by decide) dX4_within_57 ?_
            refine m_top (y := (gr j)) rfl ?_
            refine lv_iconst (v := (nI 1)) hx hb dX4_within_58 (by decide) ?_
            refine lv_iload_n hx hb dX4_within_59 rfl (lv_at hl 1 rfl) ?_
            refine lv_ishl hx hb dX4_within_60 ?_
            refine lv_ior hx hb dX4_within_61 ?_
            refine m_iast F hK hM hS 0 rfl (j := j) (x := ((gr j) ||| ((nI 1) <<< (x &&& 31)))) ctM_agr (by omega) (by decide) dX4_within_62 (fun H locs hM hS => ?_)
            have hM : mw D vwCl lo ad (ctM aC ad n th sz sg me (upd gr j ((gr j) ||| ((nI 1) <<< (x &&& 31)))) lk P co tb fd wd sm rc X) H := by rw [ctM_gr] at hM; exact hM
            refine lv_iconst (v := (nI 0)) hx hb dX4_within_63 (by decide) ?_
            refine lv_istore_n (lv' := [(3, .int (nI 0)), (0, .ref (ad 1000)), (1, .int x), (2, .int (nI j))]) hx hb dX4_within_64 rfl hl (by decide) rfl (fun ls hl => ?_)
            refine lv_iconst (v := (nI 1)) hx hb dX4_within_65 (by decide) ?_
            refine lv_istore (lv' := [(4, .int (nI 1)), (3, .int (nI 0)), (0, .ref (ad 1000)), (1, .int x), (2, .int (nI j))]) hx hb dX4_within_66 hl (by decide) rfl (fun ls hl => ?_)
            exact loop_68 (n + 1) 0 (Nat.zero_le _) (by omega) _ _ _ hM hS (lv_sub hl [2, 3, 4, 1, 0] rfl)
          · skip
            exact absurd c_36 (nI_ne0 hj1 (by omega))
        · skip
          exact absurd (by rw [hxg]; decide) (fun h : ¬ bI (btw x (nI 0) (nI 7)) = 0 => h c_29)
      · skip
        exact absurd c_16 (nI_ne0 hj1 (by omega))
    · skip
      exact absurd (by rw [isE_nI hj1 hj2 h200, ht]; decide) (fun h : ¬ bI (isE n th (nI j)) = 0 => h c_9)

set_option maxHeartbeats 4000000 in
set_option maxRecDepth 100000 in
theorem c_mOwn (l : Launch) {D : va_G} {aC : Nat → ClassId} {lo : Nat} {ad : Nat → Nat} {n : Nat} {th : Nat → Bool} {sz : Nat → Nat} {sg : Nat → Nat} {me : Nat → Nat} {gr : Nat → Int32} {lk : Int32} {P : Nat} {co : Nat → Option Nat} {tb : Nat → Nat} {fd : Nat} {wd : Nat → Nat} {sm : Nat → Nat} {rc : Nat → Nat} {X : Nat → Option va_E} (e : Nat) (he2 : e ≤ 200) (hP : P ≤ 20) (hsz : ∀ k, sz k ≤ 20) (hco : ∀ k c, co k = some c → c ≤ 1000) (hsg : ∀ a k, k < sz a → sg (20 * a + k) ≤ 127) : Met l yX4_ownSum (wsO yX4_ownSum cX4_ownSum 7 (some .int)) ({ frames := 0, cells := 0, slots := 0, locals := 0 } : Room) (mPc D vwCl (tyA aC) lo ad (ctM aC ad n th sz sg me gr lk P co tb fd wd sm rc X) [.ref (ad 1000), .int (nI e)]) (mQ1 D vwCl lo (fun v ad1 ct1 => v = .int (nI (owM P co sz sg e)) ∧ ad1 = ad ∧ ∃ tb1, ct1 = ctM aC ad n th sz sg me gr lk P co tb1 fd wd sm rc X)) 0 0 (fun q => lo ≤ q) := by
  refine Met.ofW (cc := cX4_ownSum) (maxL := 7) (ret := (some .int)) (by decide) rfl ?_
  intro pr en s0 mm args below meth cc0 s₁ B hml hv
  obtain ⟨rfl, hlo, hM, hKK⟩ := hv
  have hK := hKK.1
  have hr := B.returns
  have hts := atoms_spec (ws := (wsO yX4_ownSum cX4_ownSum 7 (some .int))) B.pre
  have F : CallFix pr mm cc0 cX4_ownSum 7 s0 (([.ref (ad 1000), .int (nI e)] : List Value).toArray) (wsO yX4_ownSum cX4_ownSum 7 (some .int)) RX4 := ⟨B.exec, B.bytes, hml, findClass_of_methodNamed B.named, hts⟩
  have hx := F.1
  have hb := F.2.1
  have hlocks := B.notSynchronized
  have hS : va_S (fun q => lo ≤ q) s0.heap s0.heap [] := va_S.rf
  have hl := lv_entry ([.ref (ad 1000), .int (nI e)]) (n := 7) (Nat.le_of_ble_eq_true rfl)
  rw [lg_entry_eq]
  generalize (lg_sl ([.ref (ad 1000), .int (nI e)]) ++ List.replicate (7 - (lg_sl ([.ref (ad 1000), .int (nI e)])).length) Slot.unset).toArray = ls at hl ⊢
  have hl : lv_has ls 7 [(0, .ref (ad 1000)), (1, .int (nI e))] := hl
  have loop_2 : ∀ (fu : Nat) (p : Nat) (tb : Nat → Nat), (p ≤ P + 1) → (∀ p' s', p' < p → s' ≤ sz e → tb (21 * p' + s') = tB (wM co sg e) p' s') → P + 2 - p ≤ fu → ∀ (H : Heap) (locs : List Loc) (ls : Array Slot), mw D vwCl lo ad (ctM aC ad n th sz sg me gr lk P co tb fd wd sm rc X) H → va_S (fun q => lo ≤ q) s0.heap H locs → lv_has ls 7 [(0, .ref (ad 1000)), (1, .int (nI e)), (2, .int (nI p))] → W pr l en (headSpec (wsO yX4_ownSum cX4_ownSum 7 (some .int)) ({ frames := 0, cells := 0, slots := 0, locals := 0 } : Room)).room s0 mm (([.ref (ad 1000), .int (nI e)] : List Value).toArray) below meth cc0 H locs 0 0 (MQ below (mQ1 D vwCl lo (fun v ad1 ct1 => v = .int (nI (owM P co sz sg e)) ∧ ad1 = ad ∧ ∃ tb1, ct1 = ctM aC ad n th sz sg me gr lk P co tb1 fd wd sm rc X)) (([.ref (ad 1000), .int (nI e)] : List Value).toArray) s0 0 0 (fun q => lo ≤ q)) (F0 mm 2 ls []) := by
    intro fu
    induction fu with
    | zero =>
      intro p tb hi htb hfu H locs ls hM hS hl
      exact absurd hfu (by omega)
    | succ fu ih_2 =>
      intro p tb hi htb hfu H locs ls hM hS hl
      have hze := hsz e
      have loop_12 : ∀ (fu : Nat) (s : Nat) (tb : Nat → Nat), (p ≤ P) → (s ≤ sz e + 1) → (∀ p' s', p' < p → s' ≤ sz e → tb (21 * p' + s') = tB (wM co sg e) p' s') → (∀ s', s' < s → tb (21 * p + s') = tB (wM co sg e) p s') → sz e + 2 - s ≤ fu → ∀ (H : Heap) (locs : List Loc) (ls : Array Slot), mw D vwCl lo ad (ctM aC ad n th sz sg me gr lk P co tb fd wd sm rc X) H → va_S (fun q => lo ≤ q) s0.heap H locs → lv_has ls 7 [(0, .ref (ad 1000)), (1, .int (nI e)), (2, .int (nI p)), (3, .int (nI s))] → W pr l en (headSpec (wsO yX4_ownSum cX4_ownSum 7 (some .int)) ({ frames := 0, cells := 0, slots := 0, locals := 0 } : Room)).room s0 mm (([.ref (ad 1000), .int (nI e)] : List Value).toArray) below meth cc0 H locs 0 0 (MQ below (mQ1 D vwCl lo (fun v ad1 ct1 => v = .int (nI (owM P co sz sg e)) ∧ ad1 = ad ∧ ∃ tb1, ct1 = ctM aC ad n th sz sg me gr lk P co tb1 fd wd sm rc X)) (([.ref (ad 1000), .int (nI e)] : List Value).toArray) s0 0 0 (fun q => lo ≤ q)) (F0 mm 12 ls []) := by
        intro fu
        induction fu with
        | zero =>
          intro s tb hpP hs htb htc hfu H locs ls hM hS hl
          exact absurd hfu (by omega)
        | succ fu ih_12 =>
          intro s tb hpP hs htb htc hfu H locs ls hM hS hl
          refine lv_iload_n hx hb dX4_ownSum_12 rfl (lv_at hl 3 rfl) ?_
          refine lv_aload_n hx hb dX4_ownSum_13 rfl (lv_at hl 0 rfl) ?_
          refine m_get F (ci := 4) (v := .ref (ad 1002)) (fun w h => tb_O (inX4 w h)) hK hM ctM_o rfl 2 (by decide) (tb_O lkX4_13) rfl dX4_ownSum_14 ?_
          refine lv_iload_n hx hb dX4_ownSum_17 rfl (lv_at hl 1 rfl) ?_
          refine m_iald F hK hM 0 rfl (j := e) ctM_asz (by omega) (by decide) dX4_ownSum_18 ?_
          refine m_top (y := (nI (sz e))) rfl ?_
          refine m_icmp_gt F (a := s) (b := (sz e)) (by omega) (by omega) (tgt := 228) dX4_ownSum_19 (by decide) (fun c_19 => ?_) (fun c_19 => ?_)
          · skip
            have hin8 : s = sz e + 1 := by omega
            subst hin8
            refine lv_iinc (v := (nI (p + 1))) (lv' := [(2, .int (nI (p + 1))), (0, .ref (ad 1000)), (1, .int (nI e)), (3, .int (nI (sz e + 1)))]) hx hb dX4_ownSum_228 hl (k := 2) rfl (nI_1 p) (by decide) rfl (fun ls hl => ?_)
            refine lv_goto (tgt := 2) hx hb dX4_ownSum_231 (by decide) ?_
            exact ih_2 (p + 1) tb (by omega) (fun p' s' hp hs' => (Nat.lt_or_ge p' p).elim (fun q => htb p' s' q hs') (fun q => by rw [show p' = p by omega]; exact htc s' (by omega))) (by omega) _ _ _ hM hS (lv_sub hl [1, 2, 0] rfl)
          · skip
            rcases p with _ | r <;> rcases s with _ | k
            · skip
              refine lv_iload_n hx hb dX4_ownSum_22 rfl (lv_at hl 2 rfl) ?_
              refine lv_if_ne (tgt := 34) hx hb dX4_ownSum_23 (by decide) (fun c_23 => ?_) (fun c_23 => ?_)
              · skip
                exact absurd nI_0 c_23
              · skip
                refine lv_iload_n hx hb dX4_ownSum_26 rfl (lv_at hl 3 rfl) ?_
                refine lv_if_ne (tgt := 34) hx hb dX4_ownSum_27 (by decide) (fun c_27 => ?_) (fun c_27 => ?_)
                · skip
                  exact absurd nI_0 c_27
                · skip
                  refine lv_iconst (v := (nI 0)) hx hb dX4_ownSum_30 (by decide) ?_
                  refine lv_goto (tgt := 36) hx hb dX4_ownSum_31 (by decide) ?_
                  refine lv_istore (lv' := [(4, .int (nI 0)), (0, .ref (ad 1000)), (1, .int (nI e)), (2, .int (nI 0)), (3, .int (nI 0))]) hx hb dX4_ownSum_36 hl (by decide) rfl (fun ls hl => ?_)
                  refine lv_iload_n hx hb dX4_ownSum_38 rfl (lv_at hl 4 rfl) ?_
                  refine lv_if_le (tgt := 81) hx hb dX4_ownSum_39 (by decide) (fun c_39 => ?_) (fun c_39 => ?_)
                  · skip
                    refine lv_iload_n hx hb dX4_ownSum_81 rfl (lv_at hl 3 rfl) ?_
                    refine lv_if_le (tgt := 126) hx hb dX4_ownSum_82 (by decide) (fun c_82 => ?_) (fun c_82 => ?_)
                    · skip
                      refine lv_iload_n hx hb dX4_ownSum_126 rfl (lv_at hl 3 rfl) ?_
                      refine lv_if_le (tgt := 209) hx hb dX4_ownSum_127 (by decide) (fun c_127 => ?_) (fun c_127 => ?_)
                      · skip
                        refine lv_aload_n hx hb dX4_ownSum_209 rfl (lv_at hl 1 rfl) ?_
                        refine m_get F (ci := 4) (v := .ref (ad 1007)) (fun w h => tb_O (inX4 w h)) hK hM ctM_o rfl 9 (by decide) (tb_O lkX4_33) rfl dX4_ownSum_210 ?_
                        refine lv_bipush (v := (nI 21)) hx hb dX4_ownSum_213 (by decide) ?_
                        refine lv_iload_n hx hb dX4_ownSum_215 rfl (lv_at hl 3 rfl) ?_
                        refine lv_imul hx hb dX4_ownSum_216 ?_
                        refine m_top (pk_mul 21 0) ?_
                        refine lv_iload_n hx hb dX4_ownSum_217 rfl (lv_at hl 4 rfl) ?_
                        refine lv_iadd hx hb dX4_ownSum_218 ?_
                        refine m_top (nI_add (21 * 0) 0) ?_
                        refine lv_iload hx hb dX4_ownSum_219 (lv_at hl 0 rfl) ?_
                        refine m_top (y := nI (tB (wM co sg e) 0 0)) (congrArg nI (show 0 = tB (wM co sg e) 0 0 from (by simp only [tB]))) ?_
                        refine m_iast F hK hM hS 0 rfl (j := (21 * 0 + 0)) (x := (nI (tB (wM co sg e) 0 0))) ctM_atb (by omega) (by decide) dX4_ownSum_221 (fun H locs hM hS => ?_)
                        have hM : mw D vwCl lo ad (ctM aC ad n th sz sg me gr lk P co (un tb (21 * 0 + 0) (tB (wM co sg e) 0 0)) fd wd sm rc X) H := by rw [upd_nI, ctM_tb] at hM; exact hM
                        refine lv_iinc (v := (nI (0 + 1))) (lv' := [(3, .int (nI (0 + 1))), (4, .int (nI 0)), (0, .ref (ad 1000)), (1, .int (nI e)), (2, .int (nI 0))]) hx hb dX4_ownSum_222 hl (k := 4) rfl (nI_1 0) (by decide) rfl (fun ls hl => ?_)
                        refine lv_goto (tgt := 12) hx hb dX4_ownSum_225 (by decide) ?_
                        exact ih_12 (0 + 1) (un tb (21 * 0 + 0) (tB (wM co sg e) 0 0)) (by omega) (by omega) (fun p' s' hp hs' => by rw [show un tb (21 * 0 + 0) (tB (wM co sg e) 0 0) (21 * p' + s') = tb (21 * p' + s') from va_up_ne _ _ (by omega)]; exact htb p' s' hp hs') (fun s' hs' => (Nat.lt_or_ge s' (0)).elim (fun q => by rw [show un tb (21 * 0 + 0) (tB (wM co sg e) 0 0) (21 * 0 + s') = tb (21 * 0 + s') from va_up_ne _ _ (by omega)]; exact htc s' q) (fun q => by rw [show s' = 0 by omega]; exact va_up_self _ _ _)) (by omega) _ _ _ hM hS (lv_sub hl [2, 3, 4, 0] rfl)
                      · skip
                        exact absurd (by rw [nI_0]; decide) c_127
                    · skip
                      exact absurd (by rw [nI_0]; decide) c_82
                  · skip
                    exact absurd (by rw [nI_0]; decide) c_39
            · skip
              refine lv_iload_n hx hb dX4_ownSum_22 rfl (lv_at hl 2 rfl) ?_
              refine lv_if_ne (tgt := 34) hx hb dX4_ownSum_23 (by decide) (fun c_23 => ?_) (fun c_23 => ?_)
              · skip
                exact absurd nI_0 c_23
              · skip
                refine lv_iload_n hx hb dX4_ownSum_26 rfl (lv_at hl 3 rfl) ?_
                refine lv_if_ne (tgt := 34) hx hb dX4_ownSum_27 (by decide) (fun c_27 => ?_) (fun c_27 => ?_)
                · skip
                  refine lv_ldc (v := nI 1000000) hx hb F.2.2.2.1 (F.2.2.2.2 _ (tb_O kcX4_66)) dX4_ownSum_34 ?_
                  refine lv_istore (lv' := [(4, .int (nI 1000000)), (0, .ref (ad 1000)), (1, .int (nI e)), (2, .int (nI 0)), (3, .int (nI (k + 1)))]) hx hb dX4_ownSum_36 hl (by decide) rfl (fun ls hl => ?_)
                  refine lv_iload_n hx hb dX4_ownSum_38 rfl (lv_at hl 4 rfl) ?_
                  refine lv_if_le (tgt := 81) hx hb dX4_ownSum_39 (by decide) (fun c_39 => ?_) (fun c_39 => ?_)
                  · skip
                    exact absurd c_39 (nI_nle (by omega) (by omega))
                  · skip
                    refine lv_aload_n hx hb dX4_ownSum_42 rfl (lv_at hl 1 rfl) ?_
                    refine m_get F (ci := 4) (v := .ref (ad 1007)) (fun w h => tb_O (inX4 w h)) hK hM ctM_o rfl 9 (by decide) (tb_O lkX4_33) rfl dX4_ownSum_43 ?_
                    refine lv_bipush (v := (nI 21)) hx hb dX4_ownSum_46 (by decide) ?_
                    refine lv_iload_n hx hb dX4_ownSum_48 rfl (lv_at hl 3 rfl) ?_
                    refine lv_imul hx hb dX4_ownSum_49 ?_
                    refine m_top (pk_mul 21 0) ?_
                    refine lv_iload_n hx hb dX4_ownSum_50 rfl (lv_at hl 4 rfl) ?_
                    refine lv_iadd hx hb dX4_ownSum_51 ?_
                    refine m_top (nI_add (21 * 0) (k + 1)) ?_
                    refine lv_iconst (v := (nI 1)) hx hb dX4_ownSum_52 (by decide) ?_
                    refine lv_isub hx hb dX4_ownSum_53 ?_
                    refine m_top (y := (nI (21 * 0 + k))) ((pk_sub (by omega)).trans (congrArg nI (by omega))) ?_
                    refine m_iald F hK hM 0 rfl (j := (21 * 0 + k)) ctM_atb (by omega) (by decide) dX4_ownSum_54 ?_
                    refine m_top (y := (nI (tB (wM co sg e) 0 k))) (congrArg nI (htc k (by omega))) ?_
                    refine lv_bipush (v := (nI 30)) hx hb dX4_ownSum_55 (by decide) ?_
                    refine lv_iadd hx hb dX4_ownSum_57 ?_
                    refine m_top (nI_add (tB (wM co sg e) 0 k) 30) ?_
                    refine lv_iload hx hb dX4_ownSum_58 (lv_at hl 0 rfl) ?_
                    have hb1 := tB_le (w := (wM co sg e)) 0 k
                    refine m_icmp_ge F (a := (tB (wM co sg e) 0 k + 30)) (b := 1000000) (by omega) (by omega) (tgt := 81) dX4_ownSum_60 (by decide) (fun c_60 => ?_) (fun c_60 => ?_)
                    · skip
                      exact absurd c_60 (by omega)
                    · skip
                      refine lv_aload_n hx hb dX4_ownSum_63 rfl (lv_at hl 1 rfl) ?_
                      refine m_get F (ci := 4) (v := .ref (ad 1007)) (fun w h => tb_O (inX4 w h)) hK hM ctM_o rfl 9 (by decide) (tb_O lkX4_33) rfl dX4_ownSum_64 ?_
                      refine lv_bipush (v := (nI 21)) hx hb dX4_ownSum_67 (by decide) ?_
                      refine lv_iload_n hx hb dX4_ownSum_69 rfl (lv_at hl 3 rfl) ?_
                      refine lv_imul hx hb dX4_ownSum_70 ?_
                      refine m_top (pk_mul 21 0) ?_
                      refine lv_iload_n hx hb dX4_ownSum_71 rfl (lv_at hl 4 rfl) ?_
                      refine lv_iadd hx hb dX4_ownSum_72 ?_
                      refine m_top (nI_add (21 * 0) (k + 1)) ?_
                      refine lv_iconst (v := (nI 1)) hx hb dX4_ownSum_73 (by decide) ?_
                      refine lv_isub hx hb dX4_ownSum_74 ?_
                      refine m_top (y := (nI (21 * 0 + k))) ((pk_sub (by omega)).trans (congrArg nI (by omega))) ?_
                      refine m_iald F hK hM 0 rfl (j := (21 * 0 + k)) ctM_atb (by omega) (by decide) dX4_ownSum_75 ?_
                      refine m_top (y := (nI (tB (wM co sg e) 0 k))) (congrArg nI (htc k (by omega))) ?_
                      refine lv_bipush (v := (nI 30)) hx hb dX4_ownSum_76 (by decide) ?_
                      refine lv_iadd hx hb dX4_ownSum_78 ?_
                      refine m_top (nI_add (tB (wM co sg e) 0 k) 30) ?_
                      refine lv_istore (lv' := [(4, .int (nI (tB (wM co sg e) 0 k + 30))), (0, .ref (ad 1000)), (1, .int (nI e)), (2, .int (nI 0)), (3, .int (nI (k + 1)))]) hx hb dX4_ownSum_79 hl (by decide) rfl (fun ls hl => ?_)
                      refine lv_iload_n hx hb dX4_ownSum_81 rfl (lv_at hl 3 rfl) ?_
                      refine lv_if_le (tgt := 126) hx hb dX4_ownSum_82 (by decide) (fun c_82 => ?_) (fun c_82 => ?_)
                      · skip
                        refine lv_iload_n hx hb dX4_ownSum_126 rfl (lv_at hl 3 rfl) ?_
                        refine lv_if_le (tgt := 209) hx hb dX4_ownSum_127 (by decide) (fun c_127 => ?_) (fun c_127 => ?_)
                        · skip
                          refine lv_aload_n hx hb dX4_ownSum_209 rfl (lv_at hl 1 rfl) ?_
                          refine m_get F (ci := 4) (v := .ref (ad 1007)) (fun w h => tb_O (inX4 w h)) hK hM ctM_o rfl 9 (by decide) (tb_O lkX4_33) rfl dX4_ownSum_210 ?_
                          refine lv_bipush (v := (nI 21)) hx hb dX4_ownSum_213 (by decide) ?_
                          refine lv_iload_n hx hb dX4_ownSum_215 rfl (lv_at hl 3 rfl) ?_
                          refine lv_imul hx hb dX4_ownSum_216 ?_
                          refine m_top (pk_mul 21 0) ?_
                          refine lv_iload_n hx hb dX4_ownSum_217 rfl (lv_at hl 4 rfl) ?_
                          refine lv_iadd hx hb dX4_ownSum_218 ?_
                          refine m_top (nI_add (21 * 0) (k + 1)) ?_
                          refine lv_iload hx hb dX4_ownSum_219 (lv_at hl 0 rfl) ?_
                          refine m_top (y := nI (tB (wM co sg e) 0 (k + 1))) (congrArg nI (show tB (wM co sg e) 0 k + 30 = tB (wM co sg e) 0 (k + 1) from (by simp only [tB]))) ?_
                          refine m_iast F hK hM hS 0 rfl (j := (21 * 0 + (k + 1))) (x := (nI (tB (wM co sg e) 0 (k + 1)))) ctM_atb (by omega) (by decide) dX4_ownSum_221 (fun H locs hM hS => ?_)
                          have hM : mw D vwCl lo ad (ctM aC ad n th sz sg me gr lk P co (un tb (21 * 0 + (k + 1)) (tB (wM co sg e) 0 (k + 1))) fd wd sm rc X) H := by rw [upd_nI, ctM_tb] at hM; exact hM
                          refine lv_iinc (v := (nI (k + 1 + 1))) (lv' := [(3, .int (nI (k + 1 + 1))), (4, .int (nI (tB (wM co sg e) 0 k + 30))), (0, .ref (ad 1000)), (1, .int (nI e)), (2, .int (nI 0))]) hx hb dX4_ownSum_222 hl (k := 4) rfl (nI_1 (k + 1)) (by decide) rfl (fun ls hl => ?_)
                          refine lv_goto (tgt := 12) hx hb dX4_ownSum_225 (by decide) ?_
                          exact ih_12 (k + 1 + 1) (un tb (21 * 0 + (k + 1)) (tB (wM co sg e) 0 (k + 1))) (by omega) (by omega) (fun p' s' hp hs' => by rw [show un tb (21 * 0 + (k + 1)) (tB (wM co sg e) 0 (k + 1)) (21 * p' + s') = tb (21 * p' + s') from va_up_ne _ _ (by omega)]; exact htb p' s' hp hs') (fun s' hs' => (Nat.lt_or_ge s' (k + 1)).elim (fun q => by rw [show un tb (21 * 0 + (k + 1)) (tB (wM co sg e) 0 (k + 1)) (21 * 0 + s') = tb (21 * 0 + s') from va_up_ne _ _ (by omega)]; exact htc s' q) (fun q => by rw [show s' = k + 1 by omega]; exact va_up_self _ _ _)) (by omega) _ _ _ hM hS (lv_sub hl [2, 3, 4, 0] rfl)
                        · skip
                          exact absurd (by rw [nI_0]; decide) c_127
                      · skip
                        exact absurd (by rw [nI_0]; decide) c_82
                · skip
                  exact absurd c_27 (nI_ne0 (by omega) (by omega))
            · skip
              refine lv_iload_n hx hb dX4_ownSum_22 rfl (lv_at hl 2 rfl) ?_
              refine lv_if_ne (tgt := 34) hx hb dX4_ownSum_23 (by decide) (fun c_23 => ?_) (fun c_23 => ?_)
              · skip
                refine lv_ldc (v := nI 1000000) hx hb F.2.2.2.1 (F.2.2.2.2 _ (tb_O kcX4_66)) dX4_ownSum_34 ?_
                refine lv_istore (lv' := [(4, .int (nI 1000000)), (0, .ref (ad 1000)), (1, .int (nI e)), (2, .int (nI (r + 1))), (3, .int (nI 0))]) hx hb dX4_ownSum_36 hl (by decide) rfl (fun ls hl => ?_)
                refine lv_iload_n hx hb dX4_ownSum_38 rfl (lv_at hl 4 rfl) ?_
                refine lv_if_le (tgt := 81) hx hb dX4_ownSum_39 (by decide) (fun c_39 => ?_) (fun c_39 => ?_)
                · skip
                  refine lv_iload_n hx hb dX4_ownSum_81 rfl (lv_at hl 3 rfl) ?_
                  refine lv_if_le (tgt := 126) hx hb dX4_ownSum_82 (by decide) (fun c_82 => ?_) (fun c_82 => ?_)
                  · skip
                    exact absurd c_82 (nI_nle (by omega) (by omega))
                  · skip
                    refine lv_aload_n hx hb dX4_ownSum_85 rfl (lv_at hl 1 rfl) ?_
                    refine m_get F (ci := 4) (v := .ref (ad 1007)) (fun w h => tb_O (inX4 w h)) hK hM ctM_o rfl 9 (by decide) (tb_O lkX4_33) rfl dX4_ownSum_86 ?_
                    refine lv_bipush (v := (nI 21)) hx hb dX4_ownSum_89 (by decide) ?_
                    refine lv_iload_n hx hb dX4_ownSum_91 rfl (lv_at hl 3 rfl) ?_
                    refine lv_imul hx hb dX4_ownSum_92 ?_
                    refine m_top (pk_mul 21 (r + 1)) ?_
                    refine lv_bipush (v := (nI 21)) hx hb dX4_ownSum_93 (by decide) ?_
                    refine lv_isub hx hb dX4_ownSum_95 ?_
                    refine m_top (y := (nI (21 * r))) ((pk_sub (by omega)).trans (congrArg nI (by omega))) ?_
                    refine lv_iload_n hx hb dX4_ownSum_96 rfl (lv_at hl 4 rfl) ?_
                    refine lv_iadd hx hb dX4_ownSum_97 ?_
                    refine m_top (nI_add (21 * r) 0) ?_
                    refine m_iald F hK hM 0 rfl (j := (21 * r + 0)) ctM_atb (by omega) (by decide) dX4_ownSum_98 ?_
                    refine m_top (y := (nI (tB (wM co sg e) r 0))) (congrArg nI (htb r 0 (by omega) (by omega))) ?_
                    refine lv_bipush (v := (nI 25)) hx hb dX4_ownSum_99 (by decide) ?_
                    refine lv_iadd hx hb dX4_ownSum_101 ?_
                    refine m_top (nI_add (tB (wM co sg e) r 0) 25) ?_
                    refine lv_iload hx hb dX4_ownSum_102 (lv_at hl 0 rfl) ?_
                    have hb2 := tB_le (w := (wM co sg e)) r 0
                    refine m_icmp_ge F (a := (tB (wM co sg e) r 0 + 25)) (b := 1000000) (by omega) (by omega) (tgt := 126) dX4_ownSum_104 (by decide) (fun c_104 => ?_) (fun c_104 => ?_)
                    · skip
                      exact absurd c_104 (by omega)
                    · skip
                      refine lv_aload_n hx hb dX4_ownSum_107 rfl (lv_at hl 1 rfl) ?_
                      refine m_get F (ci := 4) (v := .ref (ad 1007)) (fun w h => tb_O (inX4 w h)) hK hM ctM_o rfl 9 (by decide) (tb_O lkX4_33) rfl dX4_ownSum_108 ?_
                      refine lv_bipush (v := (nI 21)) hx hb dX4_ownSum_111 (by decide) ?_
                      refine lv_iload_n hx hb dX4_ownSum_113 rfl (lv_at hl 3 rfl) ?_
                      refine lv_imul hx hb dX4_ownSum_114 ?_
                      refine m_top (pk_mul 21 (r + 1)) ?_
                      refine lv_bipush (v := (nI 21)) hx hb dX4_ownSum_115 (by decide) ?_
                      refine lv_isub hx hb dX4_ownSum_117 ?_
                      refine m_top (y := (nI (21 * r))) ((pk_sub (by omega)).trans (congrArg nI (by omega))) ?_
                      refine lv_iload_n hx hb dX4_ownSum_118 rfl (lv_at hl 4 rfl) ?_
                      refine lv_iadd hx hb dX4_ownSum_119 ?_
                      refine m_top (nI_add (21 * r) 0) ?_
                      refine m_iald F hK hM 0 rfl (j := (21 * r + 0)) ctM_atb (by omega) (by decide) dX4_ownSum_120 ?_
                      refine m_top (y := (nI (tB (wM co sg e) r 0))) (congrArg nI (htb r 0 (by omega) (by omega))) ?_
                      refine lv_bipush (v := (nI 25)) hx hb dX4_ownSum_121 (by decide) ?_
                      refine lv_iadd hx hb dX4_ownSum_123 ?_
                      refine m_top (nI_add (tB (wM co sg e) r 0) 25) ?_
                      refine lv_istore (lv' := [(4, .int (nI (tB (wM co sg e) r 0 + 25))), (0, .ref (ad 1000)), (1, .int (nI e)), (2, .int (nI (r + 1))), (3, .int (nI 0))]) hx hb dX4_ownSum_124 hl (by decide) rfl (fun ls hl => ?_)
                      refine lv_iload_n hx hb dX4_ownSum_126 rfl (lv_at hl 3 rfl) ?_
                      refine lv_if_le (tgt := 209) hx hb dX4_ownSum_127 (by decide) (fun c_127 => ?_) (fun c_127 => ?_)
                      · skip
                        exact absurd c_127 (nI_nle (by omega) (by omega))
                      · skip
                        refine lv_iload_n hx hb dX4_ownSum_130 rfl (lv_at hl 4 rfl) ?_
                        refine lv_if_le (tgt := 209) hx hb dX4_ownSum_131 (by decide) (fun c_131 => ?_) (fun c_131 => ?_)
                        · skip
                          refine lv_aload_n hx hb dX4_ownSum_209 rfl (lv_at hl 1 rfl) ?_
                          refine m_get F (ci := 4) (v := .ref (ad 1007)) (fun w h => tb_O (inX4 w h)) hK hM ctM_o rfl 9 (by decide) (tb_O lkX4_33) rfl dX4_ownSum_210 ?_
                          refine lv_bipush (v := (nI 21)) hx hb dX4_ownSum_213 (by decide) ?_
                          refine lv_iload_n hx hb dX4_ownSum_215 rfl (lv_at hl 3 rfl) ?_
                          refine lv_imul hx hb dX4_ownSum_216 ?_
                          refine m_top (pk_mul 21 (r + 1)) ?_
                          refine lv_iload_n hx hb dX4_ownSum_217 rfl (lv_at hl 4 rfl) ?_
                          refine lv_iadd hx hb dX4_ownSum_218 ?_
                          refine m_top (nI_add (21 * (r + 1)) 0) ?_
                          refine lv_iload hx hb dX4_ownSum_219 (lv_at hl 0 rfl) ?_
                          refine m_top (y := nI (tB (wM co sg e) (r + 1) 0)) (congrArg nI (show tB (wM co sg e) r 0 + 25 = tB (wM co sg e) (r + 1) 0 from (by simp only [tB]))) ?_
                          refine m_iast F hK hM hS 0 rfl (j := (21 * (r + 1) + 0)) (x := (nI (tB (wM co sg e) (r + 1) 0))) ctM_atb (by omega) (by decide) dX4_ownSum_221 (fun H locs hM hS => ?_)
                          have hM : mw D vwCl lo ad (ctM aC ad n th sz sg me gr lk P co (un tb (21 * (r + 1) + 0) (tB (wM co sg e) (r + 1) 0)) fd wd sm rc X) H := by rw [upd_nI, ctM_tb] at hM; exact hM
                          refine lv_iinc (v := (nI (0 + 1))) (lv' := [(3, .int (nI (0 + 1))), (4, .int (nI (tB (wM co sg e) r 0 + 25))), (0, .ref (ad 1000)), (1, .int (nI e)), (2, .int (nI (r + 1)))]) hx hb dX4_ownSum_222 hl (k := 4) rfl (nI_1 0) (by decide) rfl (fun ls hl => ?_)
                          refine lv_goto (tgt := 12) hx hb dX4_ownSum_225 (by decide) ?_
                          exact ih_12 (0 + 1) (un tb (21 * (r + 1) + 0) (tB (wM co sg e) (r + 1) 0)) (by omega) (by omega) (fun p' s' hp hs' => by rw [show un tb (21 * (r + 1) + 0) (tB (wM co sg e) (r + 1) 0) (21 * p' + s') = tb (21 * p' + s') from va_up_ne _ _ (by omega)]; exact htb p' s' hp hs') (fun s' hs' => (Nat.lt_or_ge s' (0)).elim (fun q => by rw [show un tb (21 * (r + 1) + 0) (tB (wM co sg e) (r + 1) 0) (21 * (r + 1) + s') = tb (21 * (r + 1) + s') from va_up_ne _ _ (by omega)]; exact htc s' q) (fun q => by rw [show s' = 0 by omega]; exact va_up_self _ _ _)) (by omega) _ _ _ hM hS (lv_sub hl [2, 3, 4, 0] rfl)
                        · skip
                          exact absurd (by rw [nI_0]; decide) c_131
                · skip
                  exact absurd (by rw [nI_0]; decide) c_39
              · skip
                exact absurd c_23 (nI_ne0 (by omega) (by omega))
            · skip
              refine lv_iload_n hx hb dX4_ownSum_22 rfl (lv_at hl 2 rfl) ?_
              refine lv_if_ne (tgt := 34) hx hb dX4_ownSum_23 (by decide) (fun c_23 => ?_) (fun c_23 => ?_)
              · skip
                refine lv_ldc (v := nI 1000000) hx hb F.2.2.2.1 (F.2.2.2.2 _ (tb_O kcX4_66)) dX4_ownSum_34 ?_
                refine lv_istore (lv' := [(4, .int (nI 1000000)), (0, .ref (ad 1000)), (1, .int (nI e)), (2, .int (nI (r + 1))), (3, .int (nI (k + 1)))]) hx hb dX4_ownSum_36 hl (by decide) rfl (fun ls hl => ?_)
                refine lv_iload_n hx hb dX4_ownSum_38 rfl (lv_at hl 4 rfl) ?_
                refine lv_if_le (tgt := 81) hx hb dX4_ownSum_39 (by decide) (fun c_39 => ?_) (fun c_39 => ?_)
                · skip
                  exact absurd c_39 (nI_nle (by omega) (by omega))
                · skip
                  refine lv_aload_n hx hb dX4_ownSum_42 rfl (lv_at hl 1 rfl) ?_
                  refine m_get F (ci := 4) (v := .ref (ad 1007)) (fun w h => tb_O (inX4 w h)) hK hM ctM_o rfl 9 (by decide) (tb_O lkX4_33) rfl dX4_ownSum_43 ?_
                  refine lv_bipush (v := (nI 21)) hx hb dX4_ownSum_46 (by decide) ?_
                  refine lv_iload_n hx hb dX4_ownSum_48 rfl (lv_at hl 3 rfl) ?_
                  refine lv_imul hx hb dX4_ownSum_49 ?_
                  refine m_top (pk_mul 21 (r + 1)) ?_
                  refine lv_iload_n hx hb dX4_ownSum_50 rfl (lv_at hl 4 rfl) ?_
                  refine lv_iadd hx hb dX4_ownSum_51 ?_
                  refine m_top (nI_add (21 * (r + 1)) (k + 1)) ?_
                  refine lv_iconst (v := (nI 1)) hx hb dX4_ownSum_52 (by decide) ?_
                  refine lv_isub hx hb dX4_ownSum_53 ?_
                  refine m_top (y := (nI (21 * (r + 1) + k))) ((pk_sub (by omega)).trans (congrArg nI (by omega))) ?_
                  refine m_iald F hK hM 0 rfl (j := (21 * (r + 1) + k)) ctM_atb (by omega) (by decide) dX4_ownSum_54 ?_
                  refine m_top (y := (nI (tB (wM co sg e) (r + 1) k))) (congrArg nI (htc k (by omega))) ?_
                  refine lv_bipush (v := (nI 30)) hx hb dX4_ownSum_55 (by decide) ?_
                  refine lv_iadd hx hb dX4_ownSum_57 ?_
                  refine m_top (nI_add (tB (wM co sg e) (r + 1) k) 30) ?_
                  refine lv_iload hx hb dX4_ownSum_58 (lv_at hl 0 rfl) ?_
                  have hb1 := tB_le (w := (wM co sg e)) (r + 1) k
                  refine m_icmp_ge F (a := (tB (wM co sg e) (r + 1) k + 30)) (b := 1000000) (by omega) (by omega) (tgt := 81) dX4_ownSum_60 (by decide) (fun c_60 => ?_) (fun c_60 => ?_)
                  · skip
                    exact absurd c_60 (by omega)
                  · skip
                    refine lv_aload_n hx hb dX4_ownSum_63 rfl (lv_at hl 1 rfl) ?_
                    refine m_get F (ci := 4) (v := .ref (ad 1007)) (fun w h => tb_O (inX4 w h)) hK hM ctM_o rfl 9 (by decide) (tb_O lkX4_33) rfl dX4_ownSum_64 ?_
                    refine lv_bipush (v := (nI 21)) hx hb dX4_ownSum_67 (by decide) ?_
                    refine lv_iload_n hx hb dX4_ownSum_69 rfl (lv_at hl 3 rfl) ?_
                    refine lv_imul hx hb dX4_ownSum_70 ?_
                    refine m_top (pk_mul 21 (r + 1)) ?_
                    refine lv_iload_n hx hb dX4_ownSum_71 rfl (lv_at hl 4 rfl) ?_
                    refine lv_iadd hx hb dX4_ownSum_72 ?_
                    refine m_top (nI_add (21 * (r + 1)) (k + 1)) ?_
                    refine lv_iconst (v := (nI 1)) hx hb dX4_ownSum_73 (by decide) ?_
                    refine lv_isub hx hb dX4_ownSum_74 ?_
                    refine m_top (y := (nI (21 * (r + 1) + k))) ((pk_sub (by omega)).trans (congrArg nI (by omega))) ?_
                    refine m_iald F hK hM 0 rfl (j := (21 * (r + 1) + k)) ctM_atb (by omega) (by decide) dX4_ownSum_75 ?_
                    refine m_top (y := (nI (tB (wM co sg e) (r + 1) k))) (congrArg nI (htc k (by omega))) ?_
                    refine lv_bipush (v := (nI 30)) hx hb dX4_ownSum_76 (by decide) ?_
                    refine lv_iadd hx hb dX4_ownSum_78 ?_
                    refine m_top (nI_add (tB (wM co sg e) (r + 1) k) 30) ?_
                    refine lv_istore (lv' := [(4, .int (nI (tB (wM co sg e) (r + 1) k + 30))), (0, .ref (ad 1000)), (1, .int (nI e)), (2, .int (nI (r + 1))), (3, .int (nI (k + 1)))]) hx hb dX4_ownSum_79 hl (by decide) rfl (fun ls hl => ?_)
                    refine lv_iload_n hx hb dX4_ownSum_81 rfl (lv_at hl 3 rfl) ?_
                    refine lv_if_le (tgt := 126) hx hb dX4_ownSum_82 (by decide) (fun c_82 => ?_) (fun c_82 => ?_)
                    · skip
                      exact absurd c_82 (nI_nle (by omega) (by omega))
                    · skip
                      refine lv_aload_n hx hb dX4_ownSum_85 rfl (lv_at hl 1 rfl) ?_
                      refine m_get F (ci := 4) (v := .ref (ad 1007)) (fun w h => tb_O (inX4 w h)) hK hM ctM_o rfl 9 (by decide) (tb_O lkX4_33) rfl dX4_ownSum_86 ?_
                      refine lv_bipush (v := (nI 21)) hx hb dX4_ownSum_89 (by decide) ?_
                      refine lv_iload_n hx hb dX4_ownSum_91 rfl (lv_at hl 3 rfl) ?_
                      refine lv_imul hx hb dX4_ownSum_92 ?_
                      refine m_top (pk_mul 21 (r + 1)) ?_
                      refine lv_bipush (v := (nI 21)) hx hb dX4_ownSum_93 (by decide) ?_
                      refine lv_isub hx hb dX4_ownSum_95 ?_
                      refine m_top (y := (nI (21 * r))) ((pk_sub (by omega)).trans (congrArg nI (by omega))) ?_
                      refine lv_iload_n hx hb dX4_ownSum_96 rfl (lv_at hl 4 rfl) ?_
                      refine lv_iadd hx hb dX4_ownSum_97 ?_
                      refine m_top (nI_add (21 * r) (k + 1)) ?_
                      refine m_iald F hK hM 0 rfl (j := (21 * r + (k + 1))) ctM_atb (by omega) (by decide) dX4_ownSum_98 ?_
                      refine m_top (y := (nI (tB (wM co sg e) r (k + 1)))) (congrArg nI (htb r (k + 1) (by omega) (by omega))) ?_
                      refine lv_bipush (v := (nI 25)) hx hb dX4_ownSum_99 (by decide) ?_
                      refine lv_iadd hx hb dX4_ownSum_101 ?_
                      refine m_top (nI_add (tB (wM co sg e) r (k + 1)) 25) ?_
                      refine lv_iload hx hb dX4_ownSum_102 (lv_at hl 0 rfl) ?_
                      have hb2 := tB_le (w := (wM co sg e)) r (k + 1)
                      refine m_icmp_ge F (a := (tB (wM co sg e) r (k + 1) + 25)) (b := (tB (wM co sg e) (r + 1) k + 30)) (by omega) (by omega) (tgt := 126) dX4_ownSum_104 (by decide) (fun c_104 => ?_) (fun c_104 => ?_)
                      · skip
                        refine lv_iload_n hx hb dX4_ownSum_126 rfl (lv_at hl 3 rfl) ?_
                        refine lv_if_le (tgt := 209) hx hb dX4_ownSum_127 (by decide) (fun c_127 => ?_) (fun c_127 => ?_)
                        · skip
                          exact absurd c_127 (nI_nle (by omega) (by omega))
                        · skip
                          refine lv_iload_n hx hb dX4_ownSum_130 rfl (lv_at hl 4 rfl) ?_
                          refine lv_if_le (tgt := 209) hx hb dX4_ownSum_131 (by decide) (fun c_131 => ?_) (fun c_131 => ?_)
                          · skip
                            exact absurd c_131 (nI_nle (by omega) (by omega))
                          · skip
                            refine lv_aload_n hx hb dX4_ownSum_134 rfl (lv_at hl 1 rfl) ?_
                            refine m_get F (ci := 4) (v := .ref (ad 1006)) (fun w h => tb_O (inX4 w h)) hK hM ctM_o rfl 8 (by decide) (tb_O lkX4_30) rfl dX4_ownSum_135 ?_
                            refine lv_sipush (v := (nI 128)) hx hb dX4_ownSum_138 (by decide) ?_
                            refine lv_iload_n hx hb dX4_ownSum_141 rfl (lv_at hl 3 rfl) ?_
                            refine lv_iconst (v := (nI 1)) hx hb dX4_ownSum_142 (by decide) ?_
                            refine lv_isub hx hb dX4_ownSum_143 ?_
                            refine m_top (y := (nI r)) (nI_pred r) ?_
                            refine lv_imul hx hb dX4_ownSum_144 ?_
                            refine m_top (pk_mul 128 r) ?_
                            refine lv_aload_n hx hb dX4_ownSum_145 rfl (lv_at hl 1 rfl) ?_
                            refine m_get F (ci := 4) (v := .ref (ad 1003)) (fun w h => tb_O (inX4 w h)) hK hM ctM_o rfl 3 (by decide) (tb_O lkX4_17) rfl dX4_ownSum_146 ?_
                            refine lv_bipush (v := (nI 20)) hx hb dX4_ownSum_149 (by decide) ?_
                            refine lv_iload_n hx hb dX4_ownSum_151 rfl (lv_at hl 2 rfl) ?_
                            refine lv_imul hx hb dX4_ownSum_152 ?_
                            refine m_top (pk_mul 20 e) ?_
                            refine lv_iload_n hx hb dX4_ownSum_153 rfl (lv_at hl 4 rfl) ?_
                            refine lv_iadd hx hb dX4_ownSum_154 ?_
                            refine m_top (nI_add (20 * e) (k + 1)) ?_
                            refine lv_iconst (v := (nI 1)) hx hb dX4_ownSum_155 (by decide) ?_
                            refine lv_isub hx hb dX4_ownSum_156 ?_
                            refine m_top (y := (nI (20 * e + k))) ((pk_sub (by omega)).trans (congrArg nI (by omega))) ?_
                            have hsk := hsg e k (by omega)
                            refine m_iald F hK hM 0 rfl (j := (20 * e + k)) ctM_asg (by omega) (by decide) dX4_ownSum_157 ?_
                            refine m_top (y := (nI (sg (20 * e + k)))) rfl ?_
                            refine lv_iadd hx hb dX4_ownSum_158 ?_
                            refine m_top (nI_add (128 * r) (sg (20 * e + k))) ?_
                            refine m_iald F hK hM 0 rfl (j := (128 * r + (sg (20 * e + k)))) ctM_aco (by omega) (by decide) dX4_ownSum_159 ?_
                            refine m_top (y := (cV (co (128 * r + (sg (20 * e + k)))))) rfl ?_
                            rcases hcx : co (128 * r + sg (20 * e + k)) with _ | cx
                            · skip
                              refine m_top (y := (-1)) rfl ?_
                              refine lv_istore (lv' := [(5, .int (-1)), (4, .int (nI (tB (wM co sg e) (r + 1) k + 30))), (0, .ref (ad 1000)), (1, .int (nI e)), (2, .int (nI (r + 1))), (3, .int (nI (k + 1)))]) hx hb dX4_ownSum_160 hl (by decide) rfl (fun ls hl => ?_)
                              refine lv_aload_n hx hb dX4_ownSum_162 rfl (lv_at hl 2 rfl) ?_
                              refine m_get F (ci := 4) (v := .ref (ad 1007)) (fun w h => tb_O (inX4 w h)) hK hM ctM_o rfl 9 (by decide) (tb_O lkX4_33) rfl dX4_ownSum_163 ?_
                              refine lv_bipush (v := (nI 21)) hx hb dX4_ownSum_166 (by decide) ?_
                              refine lv_iload_n hx hb dX4_ownSum_168 rfl (lv_at hl 4 rfl) ?_
                              refine lv_imul hx hb dX4_ownSum_169 ?_
                              refine m_top (pk_mul 21 (r + 1)) ?_
                              refine lv_bipush (v := (nI 21)) hx hb dX4_ownSum_170 (by decide) ?_
                              refine lv_isub hx hb dX4_ownSum_172 ?_
                              refine m_top (y := (nI (21 * r))) ((pk_sub (by omega)).trans (congrArg nI (by omega))) ?_
                              refine lv_iload_n hx hb dX4_ownSum_173 rfl (lv_at hl 5 rfl) ?_
                              refine lv_iadd hx hb dX4_ownSum_174 ?_
                              refine m_top (nI_add (21 * r) (k + 1)) ?_
                              refine lv_iconst (v := (nI 1)) hx hb dX4_ownSum_175 (by decide) ?_
                              refine lv_isub hx hb dX4_ownSum_176 ?_
                              refine m_top (y := (nI (21 * r + k))) ((pk_sub (by omega)).trans (congrArg nI (by omega))) ?_
                              refine m_iald F hK hM 0 rfl (j := (21 * r + k)) ctM_atb (by omega) (by decide) dX4_ownSum_177 ?_
                              refine m_top (y := (nI (tB (wM co sg e) r k))) (congrArg nI (htb r k (by omega) (by omega))) ?_
                              refine lv_iload hx hb dX4_ownSum_178 (lv_at hl 0 rfl) ?_
                              refine lv_if_ge (tgt := 188) hx hb dX4_ownSum_180 (by decide) (fun c_180 => ?_) (fun c_180 => ?_)
                              · skip
                                exact absurd c_180 (by decide)
                              · skip
                                refine lv_bipush (v := (nI 60)) hx hb dX4_ownSum_183 (by decide) ?_
                                refine lv_goto (tgt := 190) hx hb dX4_ownSum_185 (by decide) ?_
                                refine lv_iadd hx hb dX4_ownSum_190 ?_
                                refine m_top (y := (nI (tB (wM co sg e) r k + wM co sg e r k))) ((nI_add _ _).trans (congrArg nI (by simp [wM, hcx]))) ?_
                                refine lv_istore (lv' := [(6, .int (nI (tB (wM co sg e) r k + wM co sg e r k))), (5, .int (-1)), (4, .int (nI (tB (wM co sg e) (r + 1) k + 30))), (0, .ref (ad 1000)), (1, .int (nI e)), (2, .int (nI (r + 1))), (3, .int (nI (k + 1)))]) hx hb dX4_ownSum_191 hl (by decide) rfl (fun ls hl => ?_)
                                refine lv_iload hx hb dX4_ownSum_193 (lv_at hl 0 rfl) ?_
                                refine lv_iload hx hb dX4_ownSum_195 (lv_at hl 2 rfl) ?_
                                have hb3 := tB_le (w := (wM co sg e)) r k
                                have hw3 : wM co sg e r k ≤ 1000 := by unfold wM; rw [hcx]; first | decide | exact hcx2
                                refine m_icmp_ge F (a := (tB (wM co sg e) r k + wM co sg e r k)) (b := (tB (wM co sg e) (r + 1) k + 30)) (by omega) (by omega) (tgt := 205) dX4_ownSum_197 (by decide) (fun c_197 => ?_) (fun c_197 => ?_)
                                · skip
                                  refine lv_iload hx hb dX4_ownSum_205 (lv_at hl 2 rfl) ?_
                                  refine lv_istore (lv' := [(4, .int (nI (tB (wM co sg e) (r + 1) k + 30))), (6, .int (nI (tB (wM co sg e) r k + wM co sg e r k))), (5, .int (-1)), (0, .ref (ad 1000)), (1, .int (nI e)), (2, .int (nI (r + 1))), (3, .int (nI (k + 1)))]) hx hb dX4_ownSum_207 hl (by decide) rfl (fun ls hl => ?_)
                                  refine lv_aload_n hx hb dX4_ownSum_209 rfl (lv_at hl 3 rfl) ?_
                                  refine m_get F (ci := 4) (v := .ref (ad 1007)) (fun w h => tb_O (inX4 w h)) hK hM ctM_o rfl 9 (by decide) (tb_O lkX4_33) rfl dX4_ownSum_210 ?_
                                  refine lv_bipush (v := (nI 21)) hx hb dX4_ownSum_213 (by decide) ?_
                                  refine lv_iload_n hx hb dX4_ownSum_215 rfl (lv_at hl 5 rfl) ?_
                                  refine lv_imul hx hb dX4_ownSum_216 ?_
                                  refine m_top (pk_mul 21 (r + 1)) ?_
                                  refine lv_iload_n hx hb dX4_ownSum_217 rfl (lv_at hl 6 rfl) ?_
                                  refine lv_iadd hx hb dX4_ownSum_218 ?_
                                  refine m_top (nI_add (21 * (r + 1)) (k + 1)) ?_
                                  refine lv_iload hx hb dX4_ownSum_219 (lv_at hl 0 rfl) ?_
                                  refine m_top (y := nI (tB (wM co sg e) (r + 1) (k + 1))) (congrArg nI (show tB (wM co sg e) (r + 1) k + 30 = tB (wM co sg e) (r + 1) (k + 1) from (by simp only [tB]; first | done | omega))) ?_
                                  refine m_iast F hK hM hS 0 rfl (j := (21 * (r + 1) + (k + 1))) (x := (nI (tB (wM co sg e) (r + 1) (k + 1)))) ctM_atb (by omega) (by decide) dX4_ownSum_221 (fun H locs hM hS => ?_)
                                  have hM : mw D vwCl lo ad (ctM aC ad n th sz sg me gr lk P co (un tb (21 * (r + 1) + (k + 1)) (tB (wM co sg e) (r + 1) (k + 1))) fd wd sm rc X) H := by rw [upd_nI, ctM_tb] at hM; exact hM
                                  refine lv_iinc (v := (nI (k + 1 + 1))) (lv' := [(3, .int (nI (k + 1 + 1))), (4, .int (nI (tB (wM co sg e) (r + 1) k + 30))), (6, .int (nI (tB (wM co sg e) r k + wM co sg e r k))), (5, .int (-1)), (0, .ref (ad 1000)), (1, .int (nI e)), (2, .int (nI (r + 1)))]) hx hb dX4_ownSum_222 hl (k := 6) rfl (nI_1 (k + 1)) (by decide) rfl (fun ls hl => ?_)
                                  refine lv_goto (tgt := 12) hx hb dX4_ownSum_225 (by decide) ?_
                                  exact ih_12 (k + 1 + 1) (un tb (21 * (r + 1) + (k + 1)) (tB (wM co sg e) (r + 1) (k + 1))) (by omega) (by omega) (fun p' s' hp hs' => by rw [show un tb (21 * (r + 1) + (k + 1)) (tB (wM co sg e) (r + 1) (k + 1)) (21 * p' + s') = tb (21 * p' + s') from va_up_ne _ _ (by omega)]; exact htb p' s' hp hs') (fun s' hs' => (Nat.lt_or_ge s' (k + 1)).elim (fun q => by rw [show un tb (21 * (r + 1) + (k + 1)) (tB (wM co sg e) (r + 1) (k + 1)) (21 * (r + 1) + s') = tb (21 * (r + 1) + s') from va_up_ne _ _ (by omega)]; exact htc s' q) (fun q => by rw [show s' = k + 1 by omega]; exact va_up_self _ _ _)) (by omega) _ _ _ hM hS (lv_sub hl [4, 5, 6, 0] rfl)
                                · skip
                                  refine lv_iload hx hb dX4_ownSum_200 (lv_at hl 0 rfl) ?_
                                  refine lv_goto (tgt := 207) hx hb dX4_ownSum_202 (by decide) ?_
                                  refine lv_istore (lv' := [(4, .int (nI (tB (wM co sg e) r k + wM co sg e r k))), (6, .int (nI (tB (wM co sg e) r k + wM co sg e r k))), (5, .int (-1)), (0, .ref (ad 1000)), (1, .int (nI e)), (2, .int (nI (r + 1))), (3, .int (nI (k + 1)))]) hx hb dX4_ownSum_207 hl (by decide) rfl (fun ls hl => ?_)
                                  refine lv_aload_n hx hb dX4_ownSum_209 rfl (lv_at hl 3 rfl) ?_
                                  refine m_get F (ci := 4) (v := .ref (ad 1007)) (fun w h => tb_O (inX4 w h)) hK hM ctM_o rfl 9 (by decide) (tb_O lkX4_33) rfl dX4_ownSum_210 ?_
                                  refine lv_bipush (v := (nI 21)) hx hb dX4_ownSum_213 (by decide) ?_
                                  refine lv_iload_n hx hb dX4_ownSum_215 rfl (lv_at hl 5 rfl) ?_
                                  refine lv_imul hx hb dX4_ownSum_216 ?_
                                  refine m_top (pk_mul 21 (r + 1)) ?_
                                  refine lv_iload_n hx hb dX4_ownSum_217 rfl (lv_at hl 6 rfl) ?_
                                  refine lv_iadd hx hb dX4_ownSum_218 ?_
                                  refine m_top (nI_add (21 * (r + 1)) (k + 1)) ?_
                                  refine lv_iload hx hb dX4_ownSum_219 (lv_at hl 0 rfl) ?_
                                  refine m_top (y := nI (tB (wM co sg e) (r + 1) (k + 1))) (congrArg nI (show tB (wM co sg e) r k + wM co sg e r k = tB (wM co sg e) (r + 1) (k + 1) from (by simp only [tB]; first | done | omega))) ?_
                                  refine m_iast F hK hM hS 0 rfl (j := (21 * (r + 1) + (k + 1))) (x := (nI (tB (wM co sg e) (r + 1) (k + 1)))) ctM_atb (by omega) (by decide) dX4_ownSum_221 (fun H locs hM hS => ?_)
                                  have hM : mw D vwCl lo ad (ctM aC ad n th sz sg me gr lk P co (un tb (21 * (r + 1) + (k + 1)) (tB (wM co sg e) (r + 1) (k + 1))) fd wd sm rc X) H := by rw [upd_nI, ctM_tb] at hM; exact hM
                                  refine lv_iinc (v := (nI (k + 1 + 1))) (lv' := [(3, .int (nI (k + 1 + 1))), (4, .int (nI (tB (wM co sg e) r k + wM co sg e r k))), (6, .int (nI (tB (wM co sg e) r k + wM co sg e r k))), (5, .int (-1)), (0, .ref (ad 1000)), (1, .int (nI e)), (2, .int (nI (r + 1)))]) hx hb dX4_ownSum_222 hl (k := 6) rfl (nI_1 (k + 1)) (by decide) rfl (fun ls hl => ?_)
                                  refine lv_goto (tgt := 12) hx hb dX4_ownSum_225 (by decide) ?_
                                  exact ih_12 (k + 1 + 1) (un tb (21 * (r + 1) + (k + 1)) (tB (wM co sg e) (r + 1) (k + 1))) (by omega) (by omega) (fun p' s' hp hs' => by rw [show un tb (21 * (r + 1) + (k + 1)) (tB (wM co sg e) (r + 1) (k + 1)) (21 * p' + s') = tb (21 * p' + s') from va_up_ne _ _ (by omega)]; exact htb p' s' hp hs') (fun s' hs' => (Nat.lt_or_ge s' (k + 1)).elim (fun q => by rw [show un tb (21 * (r + 1) + (k + 1)) (tB (wM co sg e) (r + 1) (k + 1)) (21 * (r + 1) + s') = tb (21 * (r + 1) + s') from va_up_ne _ _ (by omega)]; exact htc s' q) (fun q => by rw [show s' = k + 1 by omega]; exact va_up_self _ _ _)) (by omega) _ _ _ hM hS (lv_sub hl [4, 5, 6, 0] rfl)
                            · skip
                              refine m_top (y := nI cx) rfl ?_
                              have hcx2 := hco _ _ hcx
                              refine lv_istore (lv' := [(5, .int (nI cx)), (4, .int (nI (tB (wM co sg e) (r + 1) k + 30))), (0, .ref (ad 1000)), (1, .int (nI e)), (2, .int (nI (r + 1))), (3, .int (nI (k + 1)))]) hx hb dX4_ownSum_160 hl (by decide) rfl (fun ls hl => ?_)
                              refine lv_aload_n hx hb dX4_ownSum_162 rfl (lv_at hl 2 rfl) ?_
                              refine m_get F (ci := 4) (v := .ref (ad 1007)) (fun w h => tb_O (inX4 w h)) hK hM ctM_o rfl 9 (by decide) (tb_O lkX4_33) rfl dX4_ownSum_163 ?_
                              refine lv_bipush (v := (nI 21)) hx hb dX4_ownSum_166 (by decide) ?_
                              refine lv_iload_n hx hb dX4_ownSum_168 rfl (lv_at hl 4 rfl) ?_
                              refine lv_imul hx hb dX4_ownSum_169 ?_
                              refine m_top (pk_mul 21 (r + 1)) ?_
                              refine lv_bipush (v := (nI 21)) hx hb dX4_ownSum_170 (by decide) ?_
                              refine lv_isub hx hb dX4_ownSum_172 ?_
                              refine m_top (y := (nI (21 * r))) ((pk_sub (by omega)).trans (congrArg nI (by omega))) ?_
                              refine lv_iload_n hx hb dX4_ownSum_173 rfl (lv_at hl 5 rfl) ?_
                              refine lv_iadd hx hb dX4_ownSum_174 ?_
                              refine m_top (nI_add (21 * r) (k + 1)) ?_
                              refine lv_iconst (v := (nI 1)) hx hb dX4_ownSum_175 (by decide) ?_
                              refine lv_isub hx hb dX4_ownSum_176 ?_
                              refine m_top (y := (nI (21 * r + k))) ((pk_sub (by omega)).trans (congrArg nI (by omega))) ?_
                              refine m_iald F hK hM 0 rfl (j := (21 * r + k)) ctM_atb (by omega) (by decide) dX4_ownSum_177 ?_
                              refine m_top (y := (nI (tB (wM co sg e) r k))) (congrArg nI (htb r k (by omega) (by omega))) ?_
                              refine lv_iload hx hb dX4_ownSum_178 (lv_at hl 0 rfl) ?_
                              refine lv_if_ge (tgt := 188) hx hb dX4_ownSum_180 (by decide) (fun c_180 => ?_) (fun c_180 => ?_)
                              · skip
                                refine lv_iload hx hb dX4_ownSum_188 (lv_at hl 0 rfl) ?_
                                refine lv_iadd hx hb dX4_ownSum_190 ?_
                                refine m_top (y := (nI (tB (wM co sg e) r k + wM co sg e r k))) ((nI_add _ _).trans (congrArg nI (by simp [wM, hcx]))) ?_
                                refine lv_istore (lv' := [(6, .int (nI (tB (wM co sg e) r k + wM co sg e r k))), (5, .int (nI cx)), (4, .int (nI (tB (wM co sg e) (r + 1) k + 30))), (0, .ref (ad 1000)), (1, .int (nI e)), (2, .int (nI (r + 1))), (3, .int (nI (k + 1)))]) hx hb dX4_ownSum_191 hl (by decide) rfl (fun ls hl => ?_)
                                refine lv_iload hx hb dX4_ownSum_193 (lv_at hl 0 rfl) ?_
                                refine lv_iload hx hb dX4_ownSum_195 (lv_at hl 2 rfl) ?_
                                have hb3 := tB_le (w := (wM co sg e)) r k
                                have hw3 : wM co sg e r k ≤ 1000 := by unfold wM; rw [hcx]; first | decide | exact hcx2
                                refine m_icmp_ge F (a := (tB (wM co sg e) r k + wM co sg e r k)) (b := (tB (wM co sg e) (r + 1) k + 30)) (by omega) (by omega) (tgt := 205) dX4_ownSum_197 (by decide) (fun c_197 => ?_) (fun c_197 => ?_)
                                · skip
                                  refine lv_iload hx hb dX4_ownSum_205 (lv_at hl 2 rfl) ?_
                                  refine lv_istore (lv' := [(4, .int (nI (tB (wM co sg e) (r + 1) k + 30))), (6, .int (nI (tB (wM co sg e) r k + wM co sg e r k))), (5, .int (nI cx)), (0, .ref (ad 1000)), (1, .int (nI e)), (2, .int (nI (r + 1))), (3, .int (nI (k + 1)))]) hx hb dX4_ownSum_207 hl (by decide) rfl (fun ls hl => ?_)
                                  refine lv_aload_n hx hb dX4_ownSum_209 rfl (lv_at hl 3 rfl) ?_
                                  refine m_get F (ci := 4) (v := .ref (ad 1007)) (fun w h => tb_O (inX4 w h)) hK hM ctM_o rfl 9 (by decide) (tb_O lkX4_33) rfl dX4_ownSum_210 ?_
                                  refine lv_bipush (v := (nI 21)) hx hb dX4_ownSum_213 (by decide) ?_
                                  refine lv_iload_n hx hb dX4_ownSum_215 rfl (lv_at hl 5 rfl) ?_
                                  refine lv_imul hx hb dX4_ownSum_216 ?_
                                  refine m_top (pk_mul 21 (r + 1)) ?_
                                  refine lv_iload_n hx hb dX4_ownSum_217 rfl (lv_at hl 6 rfl) ?_
                                  refine lv_iadd hx hb dX4_ownSum_218 ?_
                                  refine m_top (nI_add (21 * (r + 1)) (k + 1)) ?_
                                  refine lv_iload hx hb dX4_ownSum_219 (lv_at hl 0 rfl) ?_
                                  refine m_top (y := nI (tB (wM co sg e) (r + 1) (k + 1))) (congrArg nI (show tB (wM co sg e) (r + 1) k + 30 = tB (wM co sg e) (r + 1) (k + 1) from (by simp only [tB]; first | done | omega))) ?_
                                  refine m_iast F hK hM hS 0 rfl (j := (21 * (r + 1) + (k + 1))) (x := (nI (tB (wM co sg e) (r + 1) (k + 1)))) ctM_atb (by omega) (by decide) dX4_ownSum_221 (fun H locs hM hS => ?_)
                                  have hM : mw D vwCl lo ad (ctM aC ad n th sz sg me gr lk P co (un tb (21 * (r + 1) + (k + 1)) (tB (wM co sg e) (r + 1) (k + 1))) fd wd sm rc X) H := by rw [upd_nI, ctM_tb] at hM; exact hM
                                  refine lv_iinc (v := (nI (k + 1 + 1))) (lv' := [(3, .int (nI (k + 1 + 1))), (4, .int (nI (tB (wM co sg e) (r + 1) k + 30))), (6, .int (nI (tB (wM co sg e) r k + wM co sg e r k))), (5, .int (nI cx)), (0, .ref (ad 1000)), (1, .int (nI e)), (2, .int (nI (r + 1)))]) hx hb dX4_ownSum_222 hl (k := 6) rfl (nI_1 (k + 1)) (by decide) rfl (fun ls hl => ?_)
                                  refine lv_goto (tgt := 12) hx hb dX4_ownSum_225 (by decide) ?_
                                  exact ih_12 (k + 1 + 1) (un tb (21 * (r + 1) + (k + 1)) (tB (wM co sg e) (r + 1) (k + 1))) (by omega) (by omega) (fun p' s' hp hs' => by rw [show un tb (21 * (r + 1) + (k + 1)) (tB (wM co sg e) (r + 1) (k + 1)) (21 * p' + s') = tb (21 * p' + s') from va_up_ne _ _ (by omega)]; exact htb p' s' hp hs') (fun s' hs' => (Nat.lt_or_ge s' (k + 1)).elim (fun q => by rw [show un tb (21 * (r + 1) + (k + 1)) (tB (wM co sg e) (r + 1) (k + 1)) (21 * (r + 1) + s') = tb (21 * (r + 1) + s') from va_up_ne _ _ (by omega)]; exact htc s' q) (fun q => by rw [show s' = k + 1 by omega]; exact va_up_self _ _ _)) (by omega) _ _ _ hM hS (lv_sub hl [4, 5, 6, 0] rfl)
                                · skip
                                  refine lv_iload hx hb dX4_ownSum_200 (lv_at hl 0 rfl) ?_
                                  refine lv_goto (tgt := 207) hx hb dX4_ownSum_202 (by decide) ?_
                                  refine lv_istore (lv' := [(4, .int (nI (tB (wM co sg e) r k + wM co sg e r k))), (6, .int (nI (tB (wM co sg e) r k + wM co sg e r k))), (5, .int (nI cx)), (0, .ref (ad 1000)), (1, .int (nI e)), (2, .int (nI (r + 1))), (3, .int (nI (k + 1)))]) hx hb dX4_ownSum_207 hl (by decide) rfl (fun ls hl => ?_)
                                  refine lv_aload_n hx hb dX4_ownSum_209 rfl (lv_at hl 3 rfl) ?_
                                  refine m_get F (ci := 4) (v := .ref (ad 1007)) (fun w h => tb_O (inX4 w h)) hK hM ctM_o rfl 9 (by decide) (tb_O lkX4_33) rfl dX4_ownSum_210 ?_
                                  refine lv_bipush (v := (nI 21)) hx hb dX4_ownSum_213 (by decide) ?_
                                  refine lv_iload_n hx hb dX4_ownSum_215 rfl (lv_at hl 5 rfl) ?_
                                  refine lv_imul hx hb dX4_ownSum_216 ?_
                                  refine m_top (pk_mul 21 (r + 1)) ?_
                                  refine lv_iload_n hx hb dX4_ownSum_217 rfl (lv_at hl 6 rfl) ?_
                                  refine lv_iadd hx hb dX4_ownSum_218 ?_
                                  refine m_top (nI_add (21 * (r + 1)) (k + 1)) ?_
                                  refine lv_iload hx hb dX4_ownSum_219 (lv_at hl 0 rfl) ?_
                                  refine m_top (y := nI (tB (wM co sg e) (r + 1) (k + 1))) (congrArg nI (show tB (wM co sg e) r k + wM co sg e r k = tB (wM co sg e) (r + 1) (k + 1) from (by simp only [tB]; first | done | omega))) ?_
                                  refine m_iast F hK hM hS 0 rfl (j := (21 * (r + 1) + (k + 1))) (x := (nI (tB (wM co sg e) (r + 1) (k + 1)))) ctM_atb (by omega) (by decide) dX4_ownSum_221 (fun H locs hM hS => ?_)
                                  have hM : mw D vwCl lo ad (ctM aC ad n th sz sg me gr lk P co (un tb (21 * (r + 1) + (k + 1)) (tB (wM co sg e) (r + 1) (k + 1))) fd wd sm rc X) H := by rw [upd_nI, ctM_tb] at hM; exact hM
                                  refine lv_iinc (v := (nI (k + 1 + 1))) (lv' := [(3, .int (nI (k + 1 + 1))), (4, .int (nI (tB (wM co sg e) r k + wM co sg e r k))), (6, .int (nI (tB (wM co sg e) r k + wM co sg e r k))), (5, .int (nI cx)), (0, .ref (ad 1000)), (1, .int (nI e)), (2, .int (nI (r + 1)))]) hx hb dX4_ownSum_222 hl (k := 6) rfl (nI_1 (k + 1)) (by decide) rfl (fun ls hl => ?_)
                                  refine lv_goto (tgt := 12) hx hb dX4_ownSum_225 (by decide) ?_
                                  exact ih_12 (k + 1 + 1) (un tb (21 * (r + 1) + (k + 1)) (tB (wM co sg e) (r + 1) (k + 1))) (by omega) (by omega) (fun p' s' hp hs' => by rw [show un tb (21 * (r + 1) + (k + 1)) (tB (wM co sg e) (r + 1) (k + 1)) (21 * p' + s') = tb (21 * p' + s') from va_up_ne _ _ (by omega)]; exact htb p' s' hp hs') (fun s' hs' => (Nat.lt_or_ge s' (k + 1)).elim (fun q => by rw [show un tb (21 * (r + 1) + (k + 1)) (tB (wM co sg e) (r + 1) (k + 1)) (21 * (r + 1) + s') = tb (21 * (r + 1) + s') from va_up_ne _ _ (by omega)]; exact htc s' q) (fun q => by rw [show s' = k + 1 by omega]; exact va_up_self _ _ _)) (by omega) _ _ _ hM hS (lv_sub hl [4, 5, 6, 0] rfl)
                              · skip
                                exact absurd (nI_pos' (by omega)) c_180
                      · skip
                        refine lv_aload_n hx hb dX4_ownSum_107 rfl (lv_at hl 1 rfl) ?_
                        refine m_get F (ci := 4) (v := .ref (ad 1007)) (fun w h => tb_O (inX4 w h)) hK hM ctM_o rfl 9 (by decide) (tb_O lkX4_33) rfl dX4_ownSum_108 ?_
                        refine lv_bipush (v := (nI 21)) hx hb dX4_ownSum_111 (by decide) ?_
                        refine lv_iload_n hx hb dX4_ownSum_113 rfl (lv_at hl 3 rfl) ?_
                        refine lv_imul hx hb dX4_ownSum_114 ?_
                        refine m_top (pk_mul 21 (r + 1)) ?_
                        refine lv_bipush (v := (nI 21)) hx hb dX4_ownSum_115 (by decide) ?_
                        refine lv_isub hx hb dX4_ownSum_117 ?_
                        refine m_top (y := (nI (21 * r))) ((pk_sub (by omega)).trans (congrArg nI (by omega))) ?_
                        refine lv_iload_n hx hb dX4_ownSum_118 rfl (lv_at hl 4 rfl) ?_
                        refine lv_iadd hx hb dX4_ownSum_119 ?_
                        refine m_top (nI_add (21 * r) (k + 1)) ?_
                        refine m_iald F hK hM 0 rfl (j := (21 * r + (k + 1))) ctM_atb (by omega) (by decide) dX4_ownSum_120 ?_
                        refine m_top (y := (nI (tB (wM co sg e) r (k + 1)))) (congrArg nI (htb r (k + 1) (by omega) (by omega))) ?_
                        refine lv_bipush (v := (nI 25)) hx hb dX4_ownSum_121 (by decide) ?_
                        refine lv_iadd hx hb dX4_ownSum_123 ?_
                        refine m_top (nI_add (tB (wM co sg e) r (k + 1)) 25) ?_
                        refine lv_istore (lv' := [(4, .int (nI (tB (wM co sg e) r (k + 1) + 25))), (0, .ref (ad 1000)), (1, .int (nI e)), (2, .int (nI (r + 1))), (3, .int (nI (k + 1)))]) hx hb dX4_ownSum_124 hl (by decide) rfl (fun ls hl => ?_)
                        refine lv_iload_n hx hb dX4_ownSum_126 rfl (lv_at hl 3 rfl) ?_
                        refine lv_if_le (tgt := 209) hx hb dX4_ownSum_127 (by decide) (fun c_127 => ?_) (fun c_127 => ?_)
                        · skip
                          exact absurd c_127 (nI_nle (by omega) (by omega))
                        · skip
                          refine lv_iload_n hx hb dX4_ownSum_130 rfl (lv_at hl 4 rfl) ?_
                          refine lv_if_le (tgt := 209) hx hb dX4_ownSum_131 (by decide) (fun c_131 => ?_) (fun c_131 => ?_)
                          · skip
                            exact absurd c_131 (nI_nle (by omega) (by omega))
                          · skip
                            refine lv_aload_n hx hb dX4_ownSum_134 rfl (lv_at hl 1 rfl) ?_
                            refine m_get F (ci := 4) (v := .ref (ad 1006)) (fun w h => tb_O (inX4 w h)) hK hM ctM_o rfl 8 (by decide) (tb_O lkX4_30) rfl dX4_ownSum_135 ?_
                            refine lv_sipush (v := (nI 128)) hx hb dX4_ownSum_138 (by decide) ?_
                            refine lv_iload_n hx hb dX4_ownSum_141 rfl (lv_at hl 3 rfl) ?_
                            refine lv_iconst (v := (nI 1)) hx hb dX4_ownSum_142 (by decide) ?_
                            refine lv_isub hx hb dX4_ownSum_143 ?_
                            refine m_top (y := (nI r)) (nI_pred r) ?_
                            refine lv_imul hx hb dX4_ownSum_144 ?_
                            refine m_top (pk_mul 128 r) ?_
                            refine lv_aload_n hx hb dX4_ownSum_145 rfl (lv_at hl 1 rfl) ?_
                            refine m_get F (ci := 4) (v := .ref (ad 1003)) (fun w h => tb_O (inX4 w h)) hK hM ctM_o rfl 3 (by decide) (tb_O lkX4_17) rfl dX4_ownSum_146 ?_
                            refine lv_bipush (v := (nI 20)) hx hb dX4_ownSum_149 (by decide) ?_
                            refine lv_iload_n hx hb dX4_ownSum_151 rfl (lv_at hl 2 rfl) ?_
                            refine lv_imul hx hb dX4_ownSum_152 ?_
                            refine m_top (pk_mul 20 e) ?_
                            refine lv_iload_n hx hb dX4_ownSum_153 rfl (lv_at hl 4 rfl) ?_
                            refine lv_iadd hx hb dX4_ownSum_154 ?_
                            refine m_top (nI_add (20 * e) (k + 1)) ?_
                            refine lv_iconst (v := (nI 1)) hx hb dX4_ownSum_155 (by decide) ?_
                            refine lv_isub hx hb dX4_ownSum_156 ?_
                            refine m_top (y := (nI (20 * e + k))) ((pk_sub (by omega)).trans (congrArg nI (by omega))) ?_
                            have hsk := hsg e k (by omega)
                            refine m_iald F hK hM 0 rfl (j := (20 * e + k)) ctM_asg (by omega) (by decide) dX4_ownSum_157 ?_
                            refine m_top (y := (nI (sg (20 * e + k)))) rfl ?_
                            refine lv_iadd hx hb dX4_ownSum_158 ?_
                            refine m_top (nI_add (128 * r) (sg (20 * e + k))) ?_
                            refine m_iald F hK hM 0 rfl (j := (128 * r + (sg (20 * e + k)))) ctM_aco (by omega) (by decide) dX4_ownSum_159 ?_
                            refine m_top (y := (cV (co (128 * r + (sg (20 * e + k)))))) rfl ?_
                            rcases hcx : co (128 * r + sg (20 * e + k)) with _ | cx
                            · skip
                              refine m_top (y := (-1)) rfl ?_
                              refine lv_istore (lv' := [(5, .int (-1)), (4, .int (nI (tB (wM co sg e) r (k + 1) + 25))), (0, .ref (ad 1000)), (1, .int (nI e)), (2, .int (nI (r + 1))), (3, .int (nI (k + 1)))]) hx hb dX4_ownSum_160 hl (by decide) rfl (fun ls hl => ?_)
                              refine lv_aload_n hx hb dX4_ownSum_162 rfl (lv_at hl 2 rfl) ?_
                              refine m_get F (ci := 4) (v := .ref (ad 1007)) (fun w h => tb_O (inX4 w h)) hK hM ctM_o rfl 9 (by decide) (tb_O lkX4_33) rfl dX4_ownSum_163 ?_
                              refine lv_bipush (v := (nI 21)) hx hb dX4_ownSum_166 (by decide) ?_
                              refine lv_iload_n hx hb dX4_ownSum_168 rfl (lv_at hl 4 rfl) ?_
                              refine lv_imul hx hb dX4_ownSum_169 ?_
                              refine m_top (pk_mul 21 (r + 1)) ?_
                              refine lv_bipush (v := (nI 21)) hx hb dX4_ownSum_170 (by decide) ?_
                              refine lv_isub hx hb dX4_ownSum_172 ?_
                              refine m_top (y := (nI (21 * r))) ((pk_sub (by omega)).trans (congrArg nI (by omega))) ?_
                              refine lv_iload_n hx hb dX4_ownSum_173 rfl (lv_at hl 5 rfl) ?_
                              refine lv_iadd hx hb dX4_ownSum_174 ?_
                              refine m_top (nI_add (21 * r) (k + 1)) ?_
                              refine lv_iconst (v := (nI 1)) hx hb dX4_ownSum_175 (by decide) ?_
                              refine lv_isub hx hb dX4_ownSum_176 ?_
                              refine m_top (y := (nI (21 * r + k))) ((pk_sub (by omega)).trans (congrArg nI (by omega))) ?_
                              refine m_iald F hK hM 0 rfl (j := (21 * r + k)) ctM_atb (by omega) (by decide) dX4_ownSum_177 ?_
                              refine m_top (y := (nI (tB (wM co sg e) r k))) (congrArg nI (htb r k (by omega) (by omega))) ?_
                              refine lv_iload hx hb dX4_ownSum_178 (lv_at hl 0 rfl) ?_
                              refine lv_if_ge (tgt := 188) hx hb dX4_ownSum_180 (by decide) (fun c_180 => ?_) (fun c_180 => ?_)
                              · skip
                                exact absurd c_180 (by decide)
                              · skip
                                refine lv_bipush (v := (nI 60)) hx hb dX4_ownSum_183 (by decide) ?_
                                refine lv_goto (tgt := 190) hx hb dX4_ownSum_185 (by decide) ?_
                                refine lv_iadd hx hb dX4_ownSum_190 ?_
                                refine m_top (y := (nI (tB (wM co sg e) r k + wM co sg e r k))) ((nI_add _ _).trans (congrArg nI (by simp [wM, hcx]))) ?_
                                refine lv_istore (lv' := [(6, .int (nI (tB (wM co sg e) r k + wM co sg e r k))), (5, .int (-1)), (4, .int (nI (tB (wM co sg e) r (k + 1) + 25))), (0, .ref (ad 1000)), (1, .int (nI e)), (2, .int (nI (r + 1))), (3, .int (nI (k + 1)))]) hx hb dX4_ownSum_191 hl (by decide) rfl (fun ls hl => ?_)
                                refine lv_iload hx hb dX4_ownSum_193 (lv_at hl 0 rfl) ?_
                                refine lv_iload hx hb dX4_ownSum_195 (lv_at hl 2 rfl) ?_
                                have hb3 := tB_le (w := (wM co sg e)) r k
                                have hw3 : wM co sg e r k ≤ 1000 := by unfold wM; rw [hcx]; first | decide | exact hcx2
                                refine m_icmp_ge F (a := (tB (wM co sg e) r k + wM co sg e r k)) (b := (tB (wM co sg e) r (k + 1) + 25)) (by omega) (by omega) (tgt := 205) dX4_ownSum_197 (by decide) (fun c_197 => ?_) (fun c_197 => ?_)
                                · skip
                                  refine lv_iload hx hb dX4_ownSum_205 (lv_at hl 2 rfl) ?_
                                  refine lv_istore (lv' := [(4, .int (nI (tB (wM co sg e) r (k + 1) + 25))), (6, .int (nI (tB (wM co sg e) r k + wM co sg e r k))), (5, .int (-1)), (0, .ref (ad 1000)), (1, .int (nI e)), (2, .int (nI (r + 1))), (3, .int (nI (k + 1)))]) hx hb dX4_ownSum_207 hl (by decide) rfl (fun ls hl => ?_)
                                  refine lv_aload_n hx hb dX4_ownSum_209 rfl (lv_at hl 3 rfl) ?_
                                  refine m_get F (ci := 4) (v := .ref (ad 1007)) (fun w h => tb_O (inX4 w h)) hK hM ctM_o rfl 9 (by decide) (tb_O lkX4_33) rfl dX4_ownSum_210 ?_
                                  refine lv_bipush (v := (nI 21)) hx hb dX4_ownSum_213 (by decide) ?_
                                  refine lv_iload_n hx hb dX4_ownSum_215 rfl (lv_at hl 5 rfl) ?_
                                  refine lv_imul hx hb dX4_ownSum_216 ?_
                                  refine m_top (pk_mul 21 (r + 1)) ?_
                                  refine lv_iload_n hx hb dX4_ownSum_217 rfl (lv_at hl 6 rfl) ?_
                                  refine lv_iadd hx hb dX4_ownSum_218 ?_
                                  refine m_top (nI_add (21 * (r + 1)) (k + 1)) ?_
                                  refine lv_iload hx hb dX4_ownSum_219 (lv_at hl 0 rfl) ?_
                                  refine m_top (y := nI (tB (wM co sg e) (r + 1) (k + 1))) (congrArg nI (show tB (wM co sg e) r (k + 1) + 25 = tB (wM co sg e) (r + 1) (k + 1) from (by simp only [tB]; first | done | omega))) ?_
                                  refine m_iast F hK hM hS 0 rfl (j := (21 * (r + 1) + (k + 1))) (x := (nI (tB (wM co sg e) (r + 1) (k + 1)))) ctM_atb (by omega) (by decide) dX4_ownSum_221 (fun H locs hM hS => ?_)
                                  have hM : mw D vwCl lo ad (ctM aC ad n th sz sg me gr lk P co (un tb (21 * (r + 1) + (k + 1)) (tB (wM co sg e) (r + 1) (k + 1))) fd wd sm rc X) H := by rw [upd_nI, ctM_tb] at hM; exact hM
                                  refine lv_iinc (v := (nI (k + 1 + 1))) (lv' := [(3, .int (nI (k + 1 + 1))), (4, .int (nI (tB (wM co sg e) r (k + 1) + 25))), (6, .int (nI (tB (wM co sg e) r k + wM co sg e r k))), (5, .int (-1)), (0, .ref (ad 1000)), (1, .int (nI e)), (2, .int (nI (r + 1)))]) hx hb dX4_ownSum_222 hl (k := 6) rfl (nI_1 (k + 1)) (by decide) rfl (fun ls hl => ?_)
                                  refine lv_goto (tgt := 12) hx hb dX4_ownSum_225 (by decide) ?_
                                  exact ih_12 (k + 1 + 1) (un tb (21 * (r + 1) + (k + 1)) (tB (wM co sg e) (r + 1) (k + 1))) (by omega) (by omega) (fun p' s' hp hs' => by rw [show un tb (21 * (r + 1) + (k + 1)) (tB (wM co sg e) (r + 1) (k + 1)) (21 * p' + s') = tb (21 * p' + s') from va_up_ne _ _ (by omega)]; exact htb p' s' hp hs') (fun s' hs' => (Nat.lt_or_ge s' (k + 1)).elim (fun q => by rw [show un tb (21 * (r + 1) + (k + 1)) (tB (wM co sg e) (r + 1) (k + 1)) (21 * (r + 1) + s') = tb (21 * (r + 1) + s') from va_up_ne _ _ (by omega)]; exact htc s' q) (fun q => by rw [show s' = k + 1 by omega]; exact va_up_self _ _ _)) (by omega) _ _ _ hM hS (lv_sub hl [4, 5, 6, 0] rfl)
                                · skip
                                  refine lv_iload hx hb dX4_ownSum_200 (lv_at hl 0 rfl) ?_
                                  refine lv_goto (tgt := 207) hx hb dX4_ownSum_202 (by decide) ?_
                                  refine lv_istore (lv' := [(4, .int (nI (tB (wM co sg e) r k + wM co sg e r k))), (6, .int (nI (tB (wM co sg e) r k + wM co sg e r k))), (5, .int (-1)), (0, .ref (ad 1000)), (1, .int (nI e)), (2, .int (nI (r + 1))), (3, .int (nI (k + 1)))]) hx hb dX4_ownSum_207 hl (by decide) rfl (fun ls hl => ?_)
                                  refine lv_aload_n hx hb dX4_ownSum_209 rfl (lv_at hl 3 rfl) ?_
                                  refine m_get F (ci := 4) (v := .ref (ad 1007)) (fun w h => tb_O (inX4 w h)) hK hM ctM_o rfl 9 (by decide) (tb_O lkX4_33) rfl dX4_ownSum_210 ?_
                                  refine lv_bipush (v := (nI 21)) hx hb dX4_ownSum_213 (by decide) ?_
                                  refine lv_iload_n hx hb dX4_ownSum_215 rfl (lv_at hl 5 rfl) ?_
                                  refine lv_imul hx hb dX4_ownSum_216 ?_
                                  refine m_top (pk_mul 21 (r + 1)) ?_
                                  refine lv_iload_n hx hb dX4_ownSum_217 rfl (lv_at hl 6 rfl) ?_
                                  refine lv_iadd hx hb dX4_ownSum_218 ?_
                                  refine m_top (nI_add (21 * (r + 1)) (k + 1)) ?_
                                  refine lv_iload hx hb dX4_ownSum_219 (lv_at hl 0 rfl) ?_
                                  refine m_top (y := nI (tB (wM co sg e) (r + 1) (k + 1))) (congrArg nI (show tB (wM co sg e) r k + wM co sg e r k = tB (wM co sg e) (r + 1) (k + 1) from (by simp only [tB]; first | done | omega))) ?_
                                  refine m_iast F hK hM hS 0 rfl (j := (21 * (r + 1) + (k + 1))) (x := (nI (tB (wM co sg e) (r + 1) (k + 1)))) ctM_atb (by omega) (by decide) dX4_ownSum_221 (fun H locs hM hS => ?_)
                                  have hM : mw D vwCl lo ad (ctM aC ad n th sz sg me gr lk P co (un tb (21 * (r + 1) + (k + 1)) (tB (wM co sg e) (r + 1) (k + 1))) fd wd sm rc X) H := by rw [upd_nI, ctM_tb] at hM; exact hM
                                  refine lv_iinc (v := (nI (k + 1 + 1))) (lv' := [(3, .int (nI (k + 1 + 1))), (4, .int (nI (tB (wM co sg e) r k + wM co sg e r k))), (6, .int (nI (tB (wM co sg e) r k + wM co sg e r k))), (5, .int (-1)), (0, .ref (ad 1000)), (1, .int (nI e)), (2, .int (nI (r + 1)))]) hx hb dX4_ownSum_222 hl (k := 6) rfl (nI_1 (k + 1)) (by decide) rfl (fun ls hl => ?_)
                                  refine lv_goto (tgt := 12) hx hb dX4_ownSum_225 (by decide) ?_
                                  exact ih_12 (k + 1 + 1) (un tb (21 * (r + 1) + (k + 1)) (tB (wM co sg e) (r + 1) (k + 1))) (by omega) (by omega) (fun p' s' hp hs' => by rw [show un tb (21 * (r + 1) + (k + 1)) (tB (wM co sg e) (r + 1) (k + 1)) (21 * p' + s') = tb (21 * p' + s') from va_up_ne _ _ (by omega)]; exact htb p' s' hp hs') (fun s' hs' => (Nat.lt_or_ge s' (k + 1)).elim (fun q => by rw [show un tb (21 * (r + 1) + (k + 1)) (tB (wM co sg e) (r + 1) (k + 1)) (21 * (r + 1) + s') = tb (21 * (r + 1) + s') from va_up_ne _ _ (by omega)]; exact htc s' q) (fun q => by rw [show s' = k + 1 by omega]; exact va_up_self _ _ _)) (by omega) _ _ _ hM hS (lv_sub hl [4, 5, 6, 0] rfl)
                            · skip
                              refine m_top (y := nI cx) rfl ?_
                              have hcx2 := hco _ _ hcx
                              refine lv_istore (lv' := [(5, .int (nI cx)), (4, .int (nI (tB (wM co sg e) r (k + 1) + 25))), (0, .ref (ad 1000)), (1, .int (nI e)), (2, .int (nI (r + 1))), (3, .int (nI (k + 1)))]) hx hb dX4_ownSum_160 hl (by decide) rfl (fun ls hl => ?_)
                              refine lv_aload_n hx hb dX4_ownSum_162 rfl (lv_at hl 2 rfl) ?_
                              refine m_get F (ci := 4) (v := .ref (ad 1007)) (fun w h => tb_O (inX4 w h)) hK hM ctM_o rfl 9 (by decide) (tb_O lkX4_33) rfl dX4_ownSum_163 ?_
                              refine lv_bipush (v := (nI 21)) hx hb dX4_ownSum_166 (by decide) ?_
                              refine lv_iload_n hx hb dX4_ownSum_168 rfl (lv_at hl 4 rfl) ?_
                              refine lv_imul hx hb dX4_ownSum_169 ?_
                              refine m_top (pk_mul 21 (r + 1)) ?_
                              refine lv_bipush (v := (nI 21)) hx hb dX4_ownSum_170 (by decide) ?_
                              refine lv_isub hx hb dX4_ownSum_172 ?_
                              refine m_top (y := (nI (21 * r))) ((pk_sub (by omega)).trans (congrArg nI (by omega))) ?_
                              refine lv_iload_n hx hb dX4_ownSum_173 rfl (lv_at hl 5 rfl) ?_
                              refine lv_iadd hx hb dX4_ownSum_174 ?_
                              refine m_top (nI_add (21 * r) (k + 1)) ?_
                              refine lv_iconst (v := (nI 1)) hx hb dX4_ownSum_175 (by decide) ?_
                              refine lv_isub hx hb dX4_ownSum_176 ?_
                              refine m_top (y := (nI (21 * r + k))) ((pk_sub (by omega)).trans (congrArg nI (by omega))) ?_
                              refine m_iald F hK hM 0 rfl (j := (21 * r + k)) ctM_atb (by omega) (by decide) dX4_ownSum_177 ?_
                              refine m_top (y := (nI (tB (wM co sg e) r k))) (congrArg nI (htb r k (by omega) (by omega))) ?_
                              refine lv_iload hx hb dX4_ownSum_178 (lv_at hl 0 rfl) ?_
                              refine lv_if_ge (tgt := 188) hx hb dX4_ownSum_180 (by decide) (fun c_180 => ?_) (fun c_180 => ?_)
                              · skip
                                refine lv_iload hx hb dX4_ownSum_188 (lv_at hl 0 rfl) ?_
                                refine lv_iadd hx hb dX4_ownSum_190 ?_
                                refine m_top (y := (nI (tB (wM co sg e) r k + wM co sg e r k))) ((nI_add _ _).trans (congrArg nI (by simp [wM, hcx]))) ?_
                                refine lv_istore (lv' := [(6, .int (nI (tB (wM co sg e) r k + wM co sg e r k))), (5, .int (nI cx)), (4, .int (nI (tB (wM co sg e) r (k + 1) + 25))), (0, .ref (ad 1000)), (1, .int (nI e)), (2, .int (nI (r + 1))), (3, .int (nI (k + 1)))]) hx hb dX4_ownSum_191 hl (by decide) rfl (fun ls hl => ?_)
                                refine lv_iload hx hb dX4_ownSum_193 (lv_at hl 0 rfl) ?_
                                refine lv_iload hx hb dX4_ownSum_195 (lv_at hl 2 rfl) ?_
                                have hb3 := tB_le (w := (wM co sg e)) r k
                                have hw3 : wM co sg e r k ≤ 1000 := by unfold wM; rw [hcx]; first | decide | exact hcx2
                                refine m_icmp_ge F (a := (tB (wM co sg e) r k + wM co sg e r k)) (b := (tB (wM co sg e) r (k + 1) + 25)) (by omega) (by omega) (tgt := 205) dX4_ownSum_197 (by decide) (fun c_197 => ?_) (fun c_197 => ?_)
                                · skip
                                  refine lv_iload hx hb dX4_ownSum_205 (lv_at hl 2 rfl) ?_
                                  refine lv_istore (lv' := [(4, .int (nI (tB (wM co sg e) r (k + 1) + 25))), (6, .int (nI (tB (wM co sg e) r k + wM co sg e r k))), (5, .int (nI cx)), (0, .ref (ad 1000)), (1, .int (nI e)), (2, .int (nI (r + 1))), (3, .int (nI (k + 1)))]) hx hb dX4_ownSum_207 hl (by decide) rfl (fun ls hl => ?_)
                                  refine lv_aload_n hx hb dX4_ownSum_209 rfl (lv_at hl 3 rfl) ?_
                                  refine m_get F (ci := 4) (v := .ref (ad 1007)) (fun w h => tb_O (inX4 w h)) hK hM ctM_o rfl 9 (by decide) (tb_O lkX4_33) rfl dX4_ownSum_210 ?_
                                  refine lv_bipush (v := (nI 21)) hx hb dX4_ownSum_213 (by decide) ?_
                                  refine lv_iload_n hx hb dX4_ownSum_215 rfl (lv_at hl 5 rfl) ?_
                                  refine lv_imul hx hb dX4_ownSum_216 ?_
                                  refine m_top (pk_mul 21 (r + 1)) ?_
                                  refine lv_iload_n hx hb dX4_ownSum_217 rfl (lv_at hl 6 rfl) ?_
                                  refine lv_iadd hx hb dX4_ownSum_218 ?_
                                  refine m_top (nI_add (21 * (r + 1)) (k + 1)) ?_
                                  refine lv_iload hx hb dX4_ownSum_219 (lv_at hl 0 rfl) ?_
                                  refine m_top (y := nI (tB (wM co sg e) (r + 1) (k + 1))) (congrArg nI (show tB (wM co sg e) r (k + 1) + 25 = tB (wM co sg e) (r + 1) (k + 1) from (by simp only [tB]; first | done | omega))) ?_
                                  refine m_iast F hK hM hS 0 rfl (j := (21 * (r + 1) + (k + 1))) (x := (nI (tB (wM co sg e) (r + 1) (k + 1)))) ctM_atb (by omega) (by decide) dX4_ownSum_221 (fun H locs hM hS => ?_)
                                  have hM : mw D vwCl lo ad (ctM aC ad n th sz sg me gr lk P co (un tb (21 * (r + 1) + (k + 1)) (tB (wM co sg e) (r + 1) (k + 1))) fd wd sm rc X) H := by rw [upd_nI, ctM_tb] at hM; exact hM
                                  refine lv_iinc (v := (nI (k + 1 + 1))) (lv' := [(3, .int (nI (k + 1 + 1))), (4, .int (nI (tB (wM co sg e) r (k + 1) + 25))), (6, .int (nI (tB (wM co sg e) r k + wM co sg e r k))), (5, .int (nI cx)), (0, .ref (ad 1000)), (1, .int (nI e)), (2, .int (nI (r + 1)))]) hx hb dX4_ownSum_222 hl (k := 6) rfl (nI_1 (k + 1)) (by decide) rfl (fun ls hl => ?_)
                                  refine lv_goto (tgt := 12) hx hb dX4_ownSum_225 (by decide) ?_
                                  exact ih_12 (k + 1 + 1) (un tb (21 * (r + 1) + (k + 1)) (tB (wM co sg e) (r + 1) (k + 1))) (by omega) (by omega) (fun p' s' hp hs' => by rw [show un tb (21 * (r + 1) + (k + 1)) (tB (wM co sg e) (r + 1) (k + 1)) (21 * p' + s') = tb (21 * p' + s') from va_up_ne _ _ (by omega)]; exact htb p' s' hp hs') (fun s' hs' => (Nat.lt_or_ge s' (k + 1)).elim (fun q => by rw [show un tb (21 * (r + 1) + (k + 1)) (tB (wM co sg e) (r + 1) (k + 1)) (21 * (r + 1) + s') = tb (21 * (r + 1) + s') from va_up_ne _ _ (by omega)]; exact htc s' q) (fun q => by rw [show s' = k + 1 by omega]; exact va_up_self _ _ _)) (by omega) _ _ _ hM hS (lv_sub hl [4, 5, 6, 0] rfl)
                                · skip
                                  refine lv_iload hx hb dX4_ownSum_200 (lv_at hl 0 rfl) ?_
                                  refine lv_goto (tgt := 207) hx hb dX4_ownSum_202 (by decide) ?_
                                  refine lv_istore (lv' := [(4, .int (nI (tB (wM co sg e) r k + wM co sg e r k))), (6, .int (nI (tB (wM co sg e) r k + wM co sg e r k))), (5, .int (nI cx)), (0, .ref (ad 1000)), (1, .int (nI e)), (2, .int (nI (r + 1))), (3, .int (nI (k + 1)))]) hx hb dX4_ownSum_207 hl (by decide) rfl (fun ls hl => ?_)
                                  refine lv_aload_n hx hb dX4_ownSum_209 rfl (lv_at hl 3 rfl) ?_
                                  refine m_get F (ci := 4) (v := .ref (ad 1007)) (fun w h => tb_O (inX4 w h)) hK hM ctM_o rfl 9 (by decide) (tb_O lkX4_33) rfl dX4_ownSum_210 ?_
                                  refine lv_bipush (v := (nI 21)) hx hb dX4_ownSum_213 (by decide) ?_
                                  refine lv_iload_n hx hb dX4_ownSum_215 rfl (lv_at hl 5 rfl) ?_
                                  refine lv_imul hx hb dX4_ownSum_216 ?_
                                  refine m_top (pk_mul 21 (r + 1)) ?_
                                  refine lv_iload_n hx hb dX4_ownSum_217 rfl (lv_at hl 6 rfl) ?_
                                  refine lv_iadd hx hb dX4_ownSum_218 ?_
                                  refine m_top (nI_add (21 * (r + 1)) (k + 1)) ?_
                                  refine lv_iload hx hb dX4_ownSum_219 (lv_at hl 0 rfl) ?_
                                  refine m_top (y := nI (tB (wM co sg e) (r + 1) (k + 1))) (congrArg nI (show tB (wM co sg e) r k + wM co sg e r k = tB (wM co sg e) (r + 1) (k + 1) from (by simp only [tB]; first | done | omega))) ?_
                                  refine m_iast F hK hM hS 0 rfl (j := (21 * (r + 1) + (k + 1))) (x := (nI (tB (wM co sg e) (r + 1) (k + 1)))) ctM_atb (by omega) (by decide) dX4_ownSum_221 (fun H locs hM hS => ?_)
                                  have hM : mw D vwCl lo ad (ctM aC ad n th sz sg me gr lk P co (un tb (21 * (r + 1) + (k + 1)) (tB (wM co sg e) (r + 1) (k + 1))) fd wd sm rc X) H := by rw [upd_nI, ctM_tb] at hM; exact hM
                                  refine lv_iinc (v := (nI (k + 1 + 1))) (lv' := [(3, .int (nI (k + 1 + 1))), (4, .int (nI (tB (wM co sg e) r k + wM co sg e r k))), (6, .int (nI (tB (wM co sg e) r k + wM co sg e r k))), (5, .int (nI cx)), (0, .ref (ad 1000)), (1, .int (nI e)), (2, .int (nI (r + 1)))]) hx hb dX4_ownSum_222 hl (k := 6) rfl (nI_1 (k + 1)) (by decide) rfl (fun ls hl => ?_)
                                  refine lv_goto (tgt := 12) hx hb dX4_ownSum_225 (by decide) ?_
                                  exact ih_12 (k + 1 + 1) (un tb (21 * (r + 1) + (k + 1)) (tB (wM co sg e) (r + 1) (k + 1))) (by omega) (by omega) (fun p' s' hp hs' => by rw [show un tb (21 * (r + 1) + (k + 1)) (tB (wM co sg e) (r + 1) (k + 1)) (21 * p' + s') = tb (21 * p' + s') from va_up_ne _ _ (by omega)]; exact htb p' s' hp hs') (fun s' hs' => (Nat.lt_or_ge s' (k + 1)).elim (fun q => by rw [show un tb (21 * (r + 1) + (k + 1)) (tB (wM co sg e) (r + 1) (k + 1)) (21 * (r + 1) + s') = tb (21 * (r + 1) + s') from va_up_ne _ _ (by omega)]; exact htc s' q) (fun q => by rw [show s' = k + 1 by omega]; exact va_up_self _ _ _)) (by omega) _ _ _ hM hS (lv_sub hl [4, 5, 6, 0] rfl)
                              · skip
                                exact absurd (nI_pos' (by omega)) c_180
              · skip
                exact absurd c_23 (nI_ne0 (by omega) (by omega))
      refine lv_iload_n hx hb dX4_ownSum_2 rfl (lv_at hl 2 rfl) ?_
      refine lv_aload_n hx hb dX4_ownSum_3 rfl (lv_at hl 0 rfl) ?_
      refine m_get F (ci := 4) (v := .int (nI P)) (fun w h => tb_O (inX4 w h)) hK hM ctM_o rfl 7 (by decide) (tb_O lkX4_48) rfl dX4_ownSum_4 ?_
      refine m_icmp_gt F (a := p) (b := P) (by omega) (by omega) (tgt := 234) dX4_ownSum_7 (by decide) (fun c_7 => ?_) (fun c_7 => ?_)
      · skip
        have hin9 : p = P + 1 := by omega
        subst hin9
        refine lv_aload_n hx hb dX4_ownSum_234 rfl (lv_at hl 0 rfl) ?_
        refine m_get F (ci := 4) (v := .ref (ad 1007)) (fun w h => tb_O (inX4 w h)) hK hM ctM_o rfl 9 (by decide) (tb_O lkX4_33) rfl dX4_ownSum_235 ?_
        refine lv_bipush (v := (nI 21)) hx hb dX4_ownSum_238 (by decide) ?_
        refine lv_aload_n hx hb dX4_ownSum_240 rfl (lv_at hl 0 rfl) ?_
        refine m_get F (ci := 4) (v := .int (nI P)) (fun w h => tb_O (inX4 w h)) hK hM ctM_o rfl 7 (by decide) (tb_O lkX4_48) rfl dX4_ownSum_241 ?_
        refine lv_imul hx hb dX4_ownSum_244 ?_
        refine m_top (pk_mul 21 P) ?_
        refine lv_aload_n hx hb dX4_ownSum_245 rfl (lv_at hl 0 rfl) ?_
        refine m_get F (ci := 4) (v := .ref (ad 1002)) (fun w h => tb_O (inX4 w h)) hK hM ctM_o rfl 2 (by decide) (tb_O lkX4_13) rfl dX4_ownSum_246 ?_
        refine lv_iload_n hx hb dX4_ownSum_249 rfl (lv_at hl 1 rfl) ?_
        refine m_iald F hK hM 0 rfl (j := e) ctM_asz (by omega) (by decide) dX4_ownSum_250 ?_
        refine m_top (y := (nI (sz e))) rfl ?_
        refine lv_iadd hx hb dX4_ownSum_251 ?_
        refine m_top (nI_add (21 * P) (sz e)) ?_
        refine m_iald F hK hM 0 rfl (j := (21 * P + (sz e))) ctM_atb (by omega) (by decide) dX4_ownSum_252 ?_
        refine m_top (y := (nI (owM P co sz sg e))) (congrArg nI (htb P (sz e) (by omega) (Nat.le_refl _))) ?_
        exact W.iret hx hb hr (fun t ht hW => ⟨⟨_, _, _, rfl, ⟨rfl, rfl, _, rfl⟩, by rw [ht]; exact hM⟩, hS.F ht⟩) hS.2.2 dX4_ownSum_253
      · skip
        refine lv_iconst (v := (nI 0)) hx hb dX4_ownSum_10 (by decide) ?_
        refine lv_istore_n (lv' := [(3, .int (nI 0)), (0, .ref (ad 1000)), (1, .int (nI e)), (2, .int (nI p))]) hx hb dX4_ownSum_11 rfl hl (by decide) rfl (fun ls hl => ?_)
        exact loop_12 (sz e + 2) 0 tb (by omega) (Nat.zero_le _) htb (fun s' h => absurd h (Nat.not_lt_zero _)) (by omega) _ _ _ hM hS (lv_sub hl [1, 2, 3, 0] rfl)
  refine lv_iconst (v := (nI 0)) hx hb dX4_ownSum_0 (by decide) ?_
  refine lv_istore_n (lv' := [(2, .int (nI 0)), (0, .ref (ad 1000)), (1, .int (nI e))]) hx hb dX4_ownSum_1 rfl hl (by decide) rfl (fun ls hl => ?_)
  exact loop_2 (P + 2) 0 tb (Nat.zero_le _) (fun p' s' h => absurd h (Nat.not_lt_zero _)) (by omega) _ _ _ hM hS (lv_sub hl [1, 2, 0] rfl)
end
