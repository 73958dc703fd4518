/-! names: classes, fields, methods, room -/
def RG : String := "SpanningProbes$Graph"
def TG : u_T := fun k => match k with
  | 0 => ("SpanningProbes$Graph", "blocks", "I", true)
  | 1 => ("SpanningProbes$Graph", "from", "[I", true)
  | 2 => ("SpanningProbes$Graph", "to", "[I", true)
  | _ => ("SpanningProbes$Graph", "edges", "I", false)
def tyG : Nat → FieldType := fun k => match k with
  | 0 => .int
  | 1 => .array .int
  | 2 => .array .int
  | _ => .int
theorem nmG : ∀ a, a < 4 → ∀ b, b < 4 → a ≠ b → (TG a).2.1 ≠ (TG b).2.1 := by decide +kernel
theorem tyG_ok : ∀ k, k < 4 → parseFieldDescriptor (TG k).2.2.1 = some (tyG k) := by decide +kernel
theorem inG : ∀ w ∈ u_ws RG TG 4, w ∈ zWW := by
  intro w hw
  obtain ⟨k, hk, rfl⟩ := List.mem_map.mp hw
  have hk := List.mem_range.mp hk
  match k, hk with
  | 0, _ => exact mw_57
  | 1, _ => exact mw_59
  | 2, _ => exact mw_61
  | 3, _ => exact mw_63
  | (k + 4), h => exact absurd h (by omega)
def RS : String := "SpanningProbes$Search"
def TS : u_T := fun k => match k with
  | 0 => ("SpanningProbes$Search", "graph", "LSpanningProbes$Graph;", true)
  | 1 => ("SpanningProbes$Search", "isBack", "[Z", true)
  | 2 => ("SpanningProbes$Search", "finished", "[I", true)
  | 3 => ("SpanningProbes$Search", "stack", "[I", true)
  | 4 => ("SpanningProbes$Search", "lookedUpTo", "[I", true)
  | 5 => ("SpanningProbes$Search", "met", "I", false)
  | 6 => ("SpanningProbes$Search", "open", "I", false)
  | _ => ("SpanningProbes$Search", "height", "I", false)
def tyS : Nat → FieldType := fun k => match k with
  | 0 => .object "SpanningProbes$Graph"
  | 1 => .array .boolean
  | 2 => .array .int
  | 3 => .array .int
  | 4 => .array .int
  | 5 => .int
  | 6 => .int
  | _ => .int
theorem nmS : ∀ a, a < 8 → ∀ b, b < 8 → a ≠ b → (TS a).2.1 ≠ (TS b).2.1 := by decide +kernel
theorem tyS_ok : ∀ k, k < 8 → parseFieldDescriptor (TS k).2.2.1 = some (tyS k) := by decide +kernel
theorem inS : ∀ w ∈ u_ws RS TS 8, w ∈ zWW := by
  intro w hw
  obtain ⟨k, hk, rfl⟩ := List.mem_map.mp hw
  have hk := List.mem_range.mp hk
  match k, hk with
  | 0, _ => exact mw_85
  | 1, _ => exact mw_87
  | 2, _ => exact mw_89
  | 3, _ => exact mw_91
  | 4, _ => exact mw_93
  | 5, _ => exact mw_95
  | 6, _ => exact mw_97
  | 7, _ => exact mw_99
  | (k + 8), h => exact absurd h (by omega)
def RO : String := "SpanningProbes$Loops"
def TO : u_T := fun k => match k with
  | 0 => ("SpanningProbes$Loops", "graph", "LSpanningProbes$Graph;", true)
  | 1 => ("SpanningProbes$Loops", "search", "LSpanningProbes$Search;", true)
  | 2 => ("SpanningProbes$Loops", "depths", "[I", true)
  | _ => ("SpanningProbes$Loops", "order", "[I", true)
def tyO : Nat → FieldType := fun k => match k with
  | 0 => .object "SpanningProbes$Graph"
  | 1 => .object "SpanningProbes$Search"
  | 2 => .array .int
  | _ => .array .int
theorem nmO : ∀ a, a < 4 → ∀ b, b < 4 → a ≠ b → (TO a).2.1 ≠ (TO b).2.1 := by decide +kernel
theorem tyO_ok : ∀ k, k < 4 → parseFieldDescriptor (TO k).2.2.1 = some (tyO k) := by decide +kernel
theorem inO : ∀ w ∈ u_ws RO TO 4, w ∈ zWW := by
  intro w hw
  obtain ⟨k, hk, rfl⟩ := List.mem_map.mp hw
  have hk := List.mem_range.mp hk
  match k, hk with
  | 0, _ => exact mw_115
  | 1, _ => exact mw_117
  | 2, _ => exact mw_119
  | 3, _ => exact mw_121
  | (k + 4), h => exact absurd h (by omega)
def RT : String := "SpanningProbes$Tree"
def TT : u_T := fun k => match k with
  | 0 => ("SpanningProbes$Tree", "graph", "LSpanningProbes$Graph;", true)
  | 1 => ("SpanningProbes$Tree", "has", "[Z", true)
  | _ => ("SpanningProbes$Tree", "group", "[I", true)
def tyT : Nat → FieldType := fun k => match k with
  | 0 => .object "SpanningProbes$Graph"
  | 1 => .array .boolean
  | _ => .array .int
theorem nmT : ∀ a, a < 3 → ∀ b, b < 3 → a ≠ b → (TT a).2.1 ≠ (TT b).2.1 := by decide +kernel
theorem tyT_ok : ∀ k, k < 3 → parseFieldDescriptor (TT k).2.2.1 = some (tyT k) := by decide +kernel
theorem inT : ∀ w ∈ u_ws RT TT 3, w ∈ zWW := by
  intro w hw
  obtain ⟨k, hk, rfl⟩ := List.mem_map.mp hw
  have hk := List.mem_range.mp hk
  match k, hk with
  | 0, _ => exact mw_136
  | 1, _ => exact mw_138
  | 2, _ => exact mw_140
  | (k + 3), h => exact absurd h (by omega)
def RK : String := "SpanningProbes$Links"
def TK : u_T := fun k => match k with
  | 0 => ("SpanningProbes$Links", "graph", "LSpanningProbes$Graph;", true)
  | 1 => ("SpanningProbes$Links", "search", "LSpanningProbes$Search;", true)
  | 2 => ("SpanningProbes$Links", "tree", "LSpanningProbes$Tree;", true)
  | 3 => ("SpanningProbes$Links", "rows", "[I", true)
  | 4 => ("SpanningProbes$Links", "values", "[I", true)
  | 5 => ("SpanningProbes$Links", "startValues", "[I", true)
  | 6 => ("SpanningProbes$Links", "bases", "[I", true)
  | 7 => ("SpanningProbes$Links", "order", "[I", true)
  | _ => ("SpanningProbes$Links", "ways", "I", false)
def tyK : Nat → FieldType := fun k => match k with
  | 0 => .object "SpanningProbes$Graph"
  | 1 => .object "SpanningProbes$Search"
  | 2 => .object "SpanningProbes$Tree"
  | 3 => .array .int
  | 4 => .array .int
  | 5 => .array .int
  | 6 => .array .int
  | 7 => .array .int
  | _ => .int
theorem nmK : ∀ a, a < 9 → ∀ b, b < 9 → a ≠ b → (TK a).2.1 ≠ (TK b).2.1 := by decide +kernel
theorem tyK_ok : ∀ k, k < 9 → parseFieldDescriptor (TK k).2.2.1 = some (tyK k) := by decide +kernel
theorem inK : ∀ w ∈ u_ws RK TK 9, w ∈ zWW := by
  intro w hw
  obtain ⟨k, hk, rfl⟩ := List.mem_map.mp hw
  have hk := List.mem_range.mp hk
  match k, hk with
  | 0, _ => exact mw_161
  | 1, _ => exact mw_163
  | 2, _ => exact mw_165
  | 3, _ => exact mw_167
  | 4, _ => exact mw_169
  | 5, _ => exact mw_171
  | 6, _ => exact mw_173
  | 7, _ => exact mw_175
  | 8, _ => exact mw_177
  | (k + 9), h => exact absurd h (by omega)
def RC : String := "SpanningProbes$Counters"
def TC : u_T := fun k => match k with
  | 0 => ("SpanningProbes$Counters", "graph", "LSpanningProbes$Graph;", true)
  | 1 => ("SpanningProbes$Counters", "tree", "LSpanningProbes$Tree;", true)
  | 2 => ("SpanningProbes$Counters", "behind", "[I", true)
  | 3 => ("SpanningProbes$Counters", "hits", "[I", true)
  | 4 => ("SpanningProbes$Counters", "stops", "[I", true)
  | _ => ("SpanningProbes$Counters", "completed", "[I", true)
def tyC : Nat → FieldType := fun k => match k with
  | 0 => .object "SpanningProbes$Graph"
  | 1 => .object "SpanningProbes$Tree"
  | 2 => .array .int
  | 3 => .array .int
  | 4 => .array .int
  | _ => .array .int
theorem nmC : ∀ a, a < 6 → ∀ b, b < 6 → a ≠ b → (TC a).2.1 ≠ (TC b).2.1 := by decide +kernel
theorem tyC_ok : ∀ k, k < 6 → parseFieldDescriptor (TC k).2.2.1 = some (tyC k) := by decide +kernel
theorem inC : ∀ w ∈ u_ws RC TC 6, w ∈ zWW := by
  intro w hw
  obtain ⟨k, hk, rfl⟩ := List.mem_map.mp hw
  have hk := List.mem_range.mp hk
  match k, hk with
  | 0, _ => exact mw_194
  | 1, _ => exact mw_196
  | 2, _ => exact mw_198
  | 3, _ => exact mw_200
  | 4, _ => exact mw_202
  | 5, _ => exact mw_204
  | (k + 6), h => exact absurd h (by omega)
def RA : String := "SpanningProbes"
def TA : u_T := fun k => match k with
  | 0 => ("SpanningProbes", "graph", "LSpanningProbes$Graph;", true)
  | 1 => ("SpanningProbes", "search", "LSpanningProbes$Search;", true)
  | 2 => ("SpanningProbes", "loops", "LSpanningProbes$Loops;", true)
  | 3 => ("SpanningProbes", "tree", "LSpanningProbes$Tree;", true)
  | 4 => ("SpanningProbes", "links", "LSpanningProbes$Links;", true)
  | 5 => ("SpanningProbes", "counters", "LSpanningProbes$Counters;", true)
  | 6 => ("SpanningProbes", "isSealed", "Z", false)
  | 7 => ("SpanningProbes", "where", "I", false)
  | _ => ("SpanningProbes", "sum", "I", false)
def tyA : Nat → FieldType := fun k => match k with
  | 0 => .object "SpanningProbes$Graph"
  | 1 => .object "SpanningProbes$Search"
  | 2 => .object "SpanningProbes$Loops"
  | 3 => .object "SpanningProbes$Tree"
  | 4 => .object "SpanningProbes$Links"
  | 5 => .object "SpanningProbes$Counters"
  | 6 => .boolean
  | 7 => .int
  | _ => .int
theorem nmA : ∀ a, a < 9 → ∀ b, b < 9 → a ≠ b → (TA a).2.1 ≠ (TA b).2.1 := by decide +kernel
theorem tyA_ok : ∀ k, k < 9 → parseFieldDescriptor (TA k).2.2.1 = some (tyA k) := by decide +kernel
theorem inA : ∀ w ∈ u_ws RA TA 9, w ∈ zWW := by
  intro w hw
  obtain ⟨k, hk, rfl⟩ := List.mem_map.mp hw
  have hk := List.mem_range.mp hk
  match k, hk with
  | 0, _ => exact mw_216
  | 1, _ => exact mw_218
  | 2, _ => exact mw_220
  | 3, _ => exact mw_222
  | 4, _ => exact mw_224
  | 5, _ => exact mw_226
  | 6, _ => exact mw_228
  | 7, _ => exact mw_230
  | 8, _ => exact mw_232
  | (k + 9), h => exact absurd h (by omega)
def RM : String := "SpanningProbesModel"
def TM : u_T := fun k => match k with
  | 0 => ("SpanningProbesModel", "n", "I", false)
  | 1 => ("SpanningProbesModel", "m", "I", false)
  | 2 => ("SpanningProbesModel", "from", "[I", false)
  | 3 => ("SpanningProbesModel", "to", "[I", false)
  | 4 => ("SpanningProbesModel", "sealed", "Z", false)
  | 5 => ("SpanningProbesModel", "met", "[I", false)
  | 6 => ("SpanningProbesModel", "nextEdge", "[I", false)
  | 7 => ("SpanningProbesModel", "path", "[I", false)
  | 8 => ("SpanningProbesModel", "isBack", "[Z", false)
  | 9 => ("SpanningProbesModel", "mark", "[Z", false)
  | 10 => ("SpanningProbesModel", "depths", "[I", false)
  | 11 => ("SpanningProbesModel", "sorted", "[I", false)
  | 12 => ("SpanningProbesModel", "inTree", "[Z", false)
  | 13 => ("SpanningProbesModel", "isLink", "[Z", false)
  | 14 => ("SpanningProbesModel", "linkFrom", "[I", false)
  | 15 => ("SpanningProbesModel", "linkTo", "[I", false)
  | 16 => ("SpanningProbesModel", "rows", "[I", false)
  | 17 => ("SpanningProbesModel", "linkInTree", "[Z", false)
  | 18 => ("SpanningProbesModel", "based", "[Z", false)
  | 19 => ("SpanningProbesModel", "base", "[I", false)
  | 20 => ("SpanningProbesModel", "pairs", "I", false)
  | 21 => ("SpanningProbesModel", "pairA", "[I", false)
  | 22 => ("SpanningProbesModel", "pairB", "[I", false)
  | 23 => ("SpanningProbesModel", "ways", "I", false)
  | 24 => ("SpanningProbesModel", "wayLength", "[I", false)
  | 25 => ("SpanningProbesModel", "wayLinks", "[I", false)
  | 26 => ("SpanningProbesModel", "found", "I", false)
  | 27 => ("SpanningProbesModel", "trial", "[I", false)
  | 28 => ("SpanningProbesModel", "running", "Z", false)
  | 29 => ("SpanningProbesModel", "place", "I", false)
  | 30 => ("SpanningProbesModel", "passedLinks", "I", false)
  | 31 => ("SpanningProbesModel", "trace", "[I", false)
  | 32 => ("SpanningProbesModel", "edgeCount", "[I", false)
  | 33 => ("SpanningProbesModel", "blockCount", "[I", false)
  | 34 => ("SpanningProbesModel", "wayCount", "[I", false)
  | 35 => ("SpanningProbesModel", "stopCount", "[I", false)
  | 36 => ("SpanningProbesModel", "runs", "I", false)
  | _ => ("SpanningProbesModel", "ends", "I", false)
def tyM : Nat → FieldType := fun k => match k with
  | 0 => .int
  | 1 => .int
  | 2 => .array .int
  | 3 => .array .int
  | 4 => .boolean
  | 5 => .array .int
  | 6 => .array .int
  | 7 => .array .int
  | 8 => .array .boolean
  | 9 => .array .boolean
  | 10 => .array .int
  | 11 => .array .int
  | 12 => .array .boolean
  | 13 => .array .boolean
  | 14 => .array .int
  | 15 => .array .int
  | 16 => .array .int
  | 17 => .array .boolean
  | 18 => .array .boolean
  | 19 => .array .int
  | 20 => .int
  | 21 => .array .int
  | 22 => .array .int
  | 23 => .int
  | 24 => .array .int
  | 25 => .array .int
  | 26 => .int
  | 27 => .array .int
  | 28 => .boolean
  | 29 => .int
  | 30 => .int
  | 31 => .array .int
  | 32 => .array .int
  | 33 => .array .int
  | 34 => .array .int
  | 35 => .array .int
  | 36 => .int
  | _ => .int
theorem nmM : ∀ a, a < 38 → ∀ b, b < 38 → a ≠ b → (TM a).2.1 ≠ (TM b).2.1 := by decide +kernel
theorem tyM_ok : ∀ k, k < 38 → parseFieldDescriptor (TM k).2.2.1 = some (tyM k) := by decide +kernel
theorem inM : ∀ w ∈ u_ws RM TM 38, w ∈ zWW := by
  intro w hw
  obtain ⟨k, hk, rfl⟩ := List.mem_map.mp hw
  have hk := List.mem_range.mp hk
  match k, hk with
  | 0, _ => exact mw_590
  | 1, _ => exact mw_592
  | 2, _ => exact mw_594
  | 3, _ => exact mw_596
  | 4, _ => exact mw_598
  | 5, _ => exact mw_600
  | 6, _ => exact mw_602
  | 7, _ => exact mw_604
  | 8, _ => exact mw_606
  | 9, _ => exact mw_608
  | 10, _ => exact mw_610
  | 11, _ => exact mw_612
  | 12, _ => exact mw_614
  | 13, _ => exact mw_616
  | 14, _ => exact mw_618
  | 15, _ => exact mw_620
  | 16, _ => exact mw_622
  | 17, _ => exact mw_624
  | 18, _ => exact mw_626
  | 19, _ => exact mw_628
  | 20, _ => exact mw_630
  | 21, _ => exact mw_632
  | 22, _ => exact mw_634
  | 23, _ => exact mw_636
  | 24, _ => exact mw_638
  | 25, _ => exact mw_640
  | 26, _ => exact mw_642
  | 27, _ => exact mw_644
  | 28, _ => exact mw_646
  | 29, _ => exact mw_648
  | 30, _ => exact mw_650
  | 31, _ => exact mw_652
  | 32, _ => exact mw_654
  | 33, _ => exact mw_656
  | 34, _ => exact mw_658
  | 35, _ => exact mw_660
  | 36, _ => exact mw_662
  | 37, _ => exact mw_664
  | (k + 38), h => exact absurd h (by omega)
abbrev zCl : List vw_C := [(RG, TG, 4), (RS, TS, 8), (RO, TO, 4), (RT, TT, 3), (RK, TK, 9), (RC, TC, 6), (RA, TA, 9), (RM, TM, 38)]
abbrev zNW : List (String × Nat × MethodName × String) := [("SpanningProbes$Search", 59, ({ cls := "SpanningProbes", name := "bit", desc := "(I)I" } : MethodName), "SpanningProbes"), ("SpanningProbes$Search", 69, ({ cls := "SpanningProbes", name := "isIn", desc := "(II)Z" } : MethodName), "SpanningProbes"), ("SpanningProbes$Graph", 36, ({ cls := "SpanningProbes", name := "bit", desc := "(I)I" } : MethodName), "SpanningProbes"), ("SpanningProbes$Graph", 40, ({ cls := "SpanningProbes", name := "isIn", desc := "(II)Z" } : MethodName), "SpanningProbes"), ("SpanningProbes$Loops", 52, ({ cls := "SpanningProbes", name := "bit", desc := "(I)I" } : MethodName), "SpanningProbes"), ("SpanningProbes$Loops", 65, ({ cls := "SpanningProbes", name := "isIn", desc := "(II)Z" } : MethodName), "SpanningProbes"), ("SpanningProbes$Tree", 39, ({ cls := "SpanningProbes", name := "bit", desc := "(I)I" } : MethodName), "SpanningProbes"), ("SpanningProbes$Links", 89, ({ cls := "SpanningProbes", name := "bit", desc := "(I)I" } : MethodName), "SpanningProbes"), ("SpanningProbes$Links", 99, ({ cls := "SpanningProbes", name := "isIn", desc := "(II)Z" } : MethodName), "SpanningProbes"), ("SpanningProbes$Counters", 64, ({ cls := "SpanningProbes", name := "isIn", desc := "(II)Z" } : MethodName), "SpanningProbes")]
theorem zNW_tab : ∀ q ∈ zNW, Cond.methodLinkNest q.1 q.2.1 q.2.2.1 q.2.2.2 ∈ tables_1 := by
  intro q hq
  simp only [zNW, List.mem_cons, List.not_mem_nil, or_false] at hq
  rcases hq with rfl | rfl | rfl | rfl | rfl | rfl | rfl | rfl | rfl | rfl
  · exact mn_259
  · exact mn_270
  · exact mn_281
  · exact mn_290
  · exact mn_316
  · exact mn_322
  · exact mn_348
  · exact mn_359
  · exact mn_364
  · exact mn_471
abbrev yG_init : MethodName := { cls := "SpanningProbes$Graph", name := "<init>", desc := "(I)V" }
abbrev cG_init : ByteArray := prog_3_method_1_code
abbrev wG_init : List Cond := Cond.code yG_init cG_init 2 none :: zWW
abbrev rG_init : Room := { frames := 1, cells := 2, slots := 48, locals := 20 }
abbrev yG_hasBlock : MethodName := { cls := "SpanningProbes$Graph", name := "hasBlock", desc := "(I)Z" }
abbrev cG_hasBlock : ByteArray := prog_3_method_2_code
abbrev wG_hasBlock : List Cond := Cond.code yG_hasBlock cG_hasBlock 2 (some .boolean) :: zWW
abbrev rG_hasBlock : Room := { frames := 1, cells := 0, slots := 0, locals := 20 }
abbrev yG_hasEdge : MethodName := { cls := "SpanningProbes$Graph", name := "hasEdge", desc := "(I)Z" }
abbrev cG_hasEdge : ByteArray := prog_3_method_3_code
abbrev wG_hasEdge : List Cond := Cond.code yG_hasEdge cG_hasEdge 2 (some .boolean) :: zWW
abbrev rG_hasEdge : Room := { frames := 1, cells := 0, slots := 0, locals := 20 }
abbrev yG_add : MethodName := { cls := "SpanningProbes$Graph", name := "add", desc := "(II)I" }
abbrev cG_add : ByteArray := prog_3_method_4_code
abbrev wG_add : List Cond := Cond.code yG_add cG_add 3 (some .int) :: zWW
abbrev rG_add : Room := { frames := 1, cells := 0, slots := 0, locals := 20 }
abbrev yG_nextFrom : MethodName := { cls := "SpanningProbes$Graph", name := "nextFrom", desc := "(II)I" }
abbrev cG_nextFrom : ByteArray := prog_3_method_5_code
abbrev wG_nextFrom : List Cond := Cond.code yG_nextFrom cG_nextFrom 4 (some .int) :: zWW
abbrev rG_nextFrom : Room := { frames := 1, cells := 0, slots := 0, locals := 20 }
abbrev yG_pickFrom : MethodName := { cls := "SpanningProbes$Graph", name := "pickFrom", desc := "(II)I" }
abbrev cG_pickFrom : ByteArray := prog_3_method_6_code
abbrev wG_pickFrom : List Cond := Cond.code yG_pickFrom cG_pickFrom 6 (some .int) :: zWW
abbrev rG_pickFrom : Room := { frames := 2, cells := 0, slots := 0, locals := 43 }
abbrev yG_allReachExit : MethodName := { cls := "SpanningProbes$Graph", name := "allReachExit", desc := "()Z" }
abbrev cG_allReachExit : ByteArray := prog_3_method_7_code
abbrev wG_allReachExit : List Cond := Cond.code yG_allReachExit cG_allReachExit 1 (some .boolean) :: zWW
abbrev rG_allReachExit : Room := { frames := 3, cells := 0, slots := 0, locals := 66 }
abbrev yG_allBlocks : MethodName := { cls := "SpanningProbes$Graph", name := "allBlocks", desc := "()I" }
abbrev cG_allBlocks : ByteArray := prog_3_method_8_code
abbrev wG_allBlocks : List Cond := Cond.code yG_allBlocks cG_allBlocks 1 (some .int) :: zWW
abbrev rG_allBlocks : Room := { frames := 2, cells := 0, slots := 0, locals := 40 }
abbrev yG_blocksReaching : MethodName := { cls := "SpanningProbes$Graph", name := "blocksReaching", desc := "(II)I" }
abbrev cG_blocksReaching : ByteArray := prog_3_method_9_code
abbrev wG_blocksReaching : List Cond := Cond.code yG_blocksReaching cG_blocksReaching 6 (some .int) :: zWW
abbrev rG_blocksReaching : Room := { frames := 2, cells := 0, slots := 0, locals := 41 }
abbrev yS_init : MethodName := { cls := "SpanningProbes$Search", name := "<init>", desc := "(LSpanningProbes$Graph;)V" }
abbrev cS_init : ByteArray := prog_6_method_1_code
abbrev wS_init : List Cond := Cond.code yS_init cS_init 2 none :: zWW
abbrev rS_init : Room := { frames := 1, cells := 4, slots := 60, locals := 20 }
abbrev yS_metAll : MethodName := { cls := "SpanningProbes$Search", name := "metAll", desc := "()Z" }
abbrev cS_metAll : ByteArray := prog_6_method_2_code
abbrev wS_metAll : List Cond := Cond.code yS_metAll cS_metAll 1 (some .boolean) :: zWW
abbrev rS_metAll : Room := { frames := 3, cells := 0, slots := 0, locals := 60 }
abbrev yS_explore : MethodName := { cls := "SpanningProbes$Search", name := "explore", desc := "()V" }
abbrev cS_explore : ByteArray := prog_6_method_3_code
abbrev wS_explore : List Cond := Cond.code yS_explore cS_explore 6 none :: zWW
abbrev rS_explore : Room := { frames := 4, cells := 0, slots := 0, locals := 83 }
abbrev yS_enter : MethodName := { cls := "SpanningProbes$Search", name := "enter", desc := "(I)V" }
abbrev cS_enter : ByteArray := prog_6_method_4_code
abbrev wS_enter : List Cond := Cond.code yS_enter cS_enter 2 none :: zWW
abbrev rS_enter : Room := { frames := 2, cells := 0, slots := 0, locals := 40 }
abbrev yS_lookAt : MethodName := { cls := "SpanningProbes$Search", name := "lookAt", desc := "(I)V" }
abbrev cS_lookAt : ByteArray := prog_6_method_5_code
abbrev wS_lookAt : List Cond := Cond.code yS_lookAt cS_lookAt 3 none :: zWW
abbrev rS_lookAt : Room := { frames := 3, cells := 0, slots := 0, locals := 61 }
abbrev yO_init : MethodName := { cls := "SpanningProbes$Loops", name := "<init>", desc := "(LSpanningProbes$Graph;LSpanningProbes$Search;)V" }
abbrev cO_init : ByteArray := prog_5_method_1_code
abbrev wO_init : List Cond := Cond.code yO_init cO_init 3 none :: zWW
abbrev rO_init : Room := { frames := 1, cells := 2, slots := 36, locals := 20 }
abbrev yO_measure : MethodName := { cls := "SpanningProbes$Loops", name := "measure", desc := "()V" }
abbrev cO_measure : ByteArray := prog_5_method_2_code
abbrev wO_measure : List Cond := Cond.code yO_measure cO_measure 2 none :: zWW
abbrev rO_measure : Room := { frames := 4, cells := 0, slots := 0, locals := 88 }
abbrev yO_loopOf : MethodName := { cls := "SpanningProbes$Loops", name := "loopOf", desc := "(I)I" }
abbrev cO_loopOf : ByteArray := prog_5_method_3_code
abbrev wO_loopOf : List Cond := Cond.code yO_loopOf cO_loopOf 3 (some .int) :: zWW
abbrev rO_loopOf : Room := { frames := 3, cells := 0, slots := 0, locals := 66 }
abbrev yO_deepen : MethodName := { cls := "SpanningProbes$Loops", name := "deepen", desc := "(I)V" }
abbrev cO_deepen : ByteArray := prog_5_method_4_code
abbrev wO_deepen : List Cond := Cond.code yO_deepen cO_deepen 3 none :: zWW
abbrev rO_deepen : Room := { frames := 2, cells := 0, slots := 0, locals := 41 }
abbrev yO_weightOf : MethodName := { cls := "SpanningProbes$Loops", name := "weightOf", desc := "(I)I" }
abbrev cO_weightOf : ByteArray := prog_5_method_5_code
abbrev wO_weightOf : List Cond := Cond.code yO_weightOf cO_weightOf 2 (some .int) :: zWW
abbrev rO_weightOf : Room := { frames := 1, cells := 0, slots := 0, locals := 20 }
abbrev yO_putInOrder : MethodName := { cls := "SpanningProbes$Loops", name := "putInOrder", desc := "()V" }
abbrev cO_putInOrder : ByteArray := prog_5_method_6_code
abbrev wO_putInOrder : List Cond := Cond.code yO_putInOrder cO_putInOrder 4 none :: zWW
abbrev rO_putInOrder : Room := { frames := 2, cells := 0, slots := 0, locals := 41 }
abbrev yT_init : MethodName := { cls := "SpanningProbes$Tree", name := "<init>", desc := "(LSpanningProbes$Graph;)V" }
abbrev cT_init : ByteArray := prog_7_method_1_code
abbrev wT_init : List Cond := Cond.code yT_init cT_init 2 none :: zWW
abbrev rT_init : Room := { frames := 1, cells := 2, slots := 36, locals := 20 }
abbrev yT_grow : MethodName := { cls := "SpanningProbes$Tree", name := "grow", desc := "([II)V" }
abbrev cT_grow : ByteArray := prog_7_method_2_code
abbrev wT_grow : List Cond := Cond.code yT_grow cT_grow 5 none :: zWW
abbrev rT_grow : Room := { frames := 2, cells := 0, slots := 0, locals := 45 }
abbrev yT_join : MethodName := { cls := "SpanningProbes$Tree", name := "join", desc := "(II)Z" }
abbrev cT_join : ByteArray := prog_7_method_3_code
abbrev wT_join : List Cond := Cond.code yT_join cT_join 6 (some .boolean) :: zWW
abbrev rT_join : Room := { frames := 1, cells := 0, slots := 0, locals := 20 }
abbrev yT_blocksBehind : MethodName := { cls := "SpanningProbes$Tree", name := "blocksBehind", desc := "(I)I" }
abbrev cT_blocksBehind : ByteArray := prog_7_method_4_code
abbrev wT_blocksBehind : List Cond := Cond.code yT_blocksBehind cT_blocksBehind 6 (some .int) :: zWW
abbrev rT_blocksBehind : Room := { frames := 3, cells := 0, slots := 0, locals := 60 }
abbrev yK_init : MethodName := { cls := "SpanningProbes$Links", name := "<init>", desc := "(LSpanningProbes$Graph;LSpanningProbes$Search;)V" }
abbrev cK_init : ByteArray := prog_4_method_1_code
abbrev wK_init : List Cond := Cond.code yK_init cK_init 3 none :: zWW
abbrev rK_init : Room := { frames := 2, cells := 8, slots := 135, locals := 41 }
abbrev yK_targetOf : MethodName := { cls := "SpanningProbes$Links", name := "targetOf", desc := "(I)I" }
abbrev cK_targetOf : ByteArray := prog_4_method_2_code
abbrev wK_targetOf : List Cond := Cond.code yK_targetOf cK_targetOf 2 (some .int) :: zWW
abbrev rK_targetOf : Room := { frames := 1, cells := 0, slots := 0, locals := 20 }
abbrev yK_incrementOf : MethodName := { cls := "SpanningProbes$Links", name := "incrementOf", desc := "(I)I" }
abbrev cK_incrementOf : ByteArray := prog_4_method_3_code
abbrev wK_incrementOf : List Cond := Cond.code yK_incrementOf cK_incrementOf 2 (some .int) :: zWW
abbrev rK_incrementOf : Room := { frames := 2, cells := 0, slots := 0, locals := 41 }
abbrev yK_startIncrementOf : MethodName := { cls := "SpanningProbes$Links", name := "startIncrementOf", desc := "(I)I" }
abbrev cK_startIncrementOf : ByteArray := prog_4_method_4_code
abbrev wK_startIncrementOf : List Cond := Cond.code yK_startIncrementOf cK_startIncrementOf 2 (some .int) :: zWW
abbrev rK_startIncrementOf : Room := { frames := 1, cells := 0, slots := 0, locals := 20 }
abbrev yK_number : MethodName := { cls := "SpanningProbes$Links", name := "number", desc := "()V" }
abbrev cK_number : ByteArray := prog_4_method_5_code
abbrev wK_number : List Cond := Cond.code yK_number cK_number 3 none :: zWW
abbrev rK_number : Room := { frames := 3, cells := 0, slots := 0, locals := 64 }
abbrev yK_numberFrom : MethodName := { cls := "SpanningProbes$Links", name := "numberFrom", desc := "(I)I" }
abbrev cK_numberFrom : ByteArray := prog_4_method_6_code
abbrev wK_numberFrom : List Cond := Cond.code yK_numberFrom cK_numberFrom 4 (some .int) :: zWW
abbrev rK_numberFrom : Room := { frames := 2, cells := 0, slots := 0, locals := 41 }
abbrev yK_numberStarts : MethodName := { cls := "SpanningProbes$Links", name := "numberStarts", desc := "(I)I" }
abbrev cK_numberStarts : ByteArray := prog_4_method_7_code
abbrev wK_numberStarts : List Cond := Cond.code yK_numberStarts cK_numberStarts 4 (some .int) :: zWW
abbrev rK_numberStarts : Room := { frames := 1, cells := 0, slots := 0, locals := 20 }
abbrev yK_spread : MethodName := { cls := "SpanningProbes$Links", name := "spread", desc := "([I)V" }
abbrev cK_spread : ByteArray := prog_4_method_8_code
abbrev wK_spread : List Cond := Cond.code yK_spread cK_spread 5 none :: zWW
abbrev rK_spread : Room := { frames := 3, cells := 0, slots := 0, locals := 69 }
abbrev yK_leaveOutBack : MethodName := { cls := "SpanningProbes$Links", name := "leaveOutBack", desc := "([I)I" }
abbrev cK_leaveOutBack : ByteArray := prog_4_method_9_code
abbrev wK_leaveOutBack : List Cond := Cond.code yK_leaveOutBack cK_leaveOutBack 4 (some .int) :: zWW
abbrev rK_leaveOutBack : Room := { frames := 1, cells := 0, slots := 0, locals := 20 }
abbrev yK_spreadOver : MethodName := { cls := "SpanningProbes$Links", name := "spreadOver", desc := "(II)I" }
abbrev cK_spreadOver : ByteArray := prog_4_method_10_code
abbrev wK_spreadOver : List Cond := Cond.code yK_spreadOver cK_spreadOver 5 (some .int) :: zWW
abbrev rK_spreadOver : Room := { frames := 2, cells := 0, slots := 0, locals := 41 }
abbrev yK_startOfWay : MethodName := { cls := "SpanningProbes$Links", name := "startOfWay", desc := "(I)I" }
abbrev cK_startOfWay : ByteArray := prog_4_method_11_code
abbrev wK_startOfWay : List Cond := Cond.code yK_startOfWay cK_startOfWay 4 (some .int) :: zWW
abbrev rK_startOfWay : Room := { frames := 1, cells := 0, slots := 0, locals := 20 }
abbrev yK_edgeOfWay : MethodName := { cls := "SpanningProbes$Links", name := "edgeOfWay", desc := "(III)I" }
abbrev cK_edgeOfWay : ByteArray := prog_4_method_12_code
abbrev wK_edgeOfWay : List Cond := Cond.code yK_edgeOfWay cK_edgeOfWay 8 (some .int) :: zWW
abbrev rK_edgeOfWay : Room := { frames := 2, cells := 0, slots := 0, locals := 44 }
abbrev yK_linkFrom : MethodName := { cls := "SpanningProbes$Links", name := "linkFrom", desc := "(II)I" }
abbrev cK_linkFrom : ByteArray := prog_4_method_13_code
abbrev wK_linkFrom : List Cond := Cond.code yK_linkFrom cK_linkFrom 5 (some .int) :: zWW
abbrev rK_linkFrom : Room := { frames := 1, cells := 0, slots := 0, locals := 20 }
abbrev yC_init : MethodName := { cls := "SpanningProbes$Counters", name := "<init>", desc := "(LSpanningProbes$Graph;LSpanningProbes$Tree;)V" }
abbrev cC_init : ByteArray := prog_2_method_1_code
abbrev wC_init : List Cond := Cond.code yC_init cC_init 3 none :: zWW
abbrev rC_init : Room := { frames := 1, cells := 4, slots := 260, locals := 20 }
abbrev yC_forget : MethodName := { cls := "SpanningProbes$Counters", name := "forget", desc := "()V" }
abbrev cC_forget : ByteArray := prog_2_method_2_code
abbrev wC_forget : List Cond := Cond.code yC_forget cC_forget 1 none :: zWW
abbrev rC_forget : Room := { frames := 2, cells := 0, slots := 0, locals := 43 }
abbrev yC_cut : MethodName := { cls := "SpanningProbes$Counters", name := "cut", desc := "()V" }
abbrev cC_cut : ByteArray := prog_2_method_3_code
abbrev wC_cut : List Cond := Cond.code yC_cut cC_cut 2 none :: zWW
abbrev rC_cut : Room := { frames := 4, cells := 0, slots := 0, locals := 85 }
abbrev yC_hit : MethodName := { cls := "SpanningProbes$Counters", name := "hit", desc := "(I)V" }
abbrev cC_hit : ByteArray := prog_2_method_4_code
abbrev wC_hit : List Cond := Cond.code yC_hit cC_hit 2 none :: zWW
abbrev rC_hit : Room := { frames := 1, cells := 0, slots := 0, locals := 20 }
abbrev yC_passesOf : MethodName := { cls := "SpanningProbes$Counters", name := "passesOf", desc := "(II)I" }
abbrev cC_passesOf : ByteArray := prog_2_method_5_code
abbrev wC_passesOf : List Cond := Cond.code yC_passesOf cC_passesOf 4 (some .int) :: zWW
abbrev rC_passesOf : Room := { frames := 3, cells := 0, slots := 0, locals := 65 }
abbrev yC_runsLeftIn : MethodName := { cls := "SpanningProbes$Counters", name := "runsLeftIn", desc := "(II)I" }
abbrev cC_runsLeftIn : ByteArray := prog_2_method_6_code
abbrev wC_runsLeftIn : List Cond := Cond.code yC_runsLeftIn cC_runsLeftIn 5 (some .int) :: zWW
abbrev rC_runsLeftIn : Room := { frames := 2, cells := 0, slots := 0, locals := 41 }
abbrev yC_hitsOutOf : MethodName := { cls := "SpanningProbes$Counters", name := "hitsOutOf", desc := "(I)I" }
abbrev cC_hitsOutOf : ByteArray := prog_2_method_7_code
abbrev wC_hitsOutOf : List Cond := Cond.code yC_hitsOutOf cC_hitsOutOf 4 (some .int) :: zWW
abbrev rC_hitsOutOf : Room := { frames := 2, cells := 0, slots := 0, locals := 41 }
abbrev yC_visitsOf : MethodName := { cls := "SpanningProbes$Counters", name := "visitsOf", desc := "(II)I" }
abbrev cC_visitsOf : ByteArray := prog_2_method_8_code
abbrev wC_visitsOf : List Cond := Cond.code yC_visitsOf cC_visitsOf 3 (some .int) :: zWW
abbrev rC_visitsOf : Room := { frames := 5, cells := 0, slots := 0, locals := 112 }
abbrev yC_passesInto : MethodName := { cls := "SpanningProbes$Counters", name := "passesInto", desc := "(II)I" }
abbrev cC_passesInto : ByteArray := prog_2_method_9_code
abbrev wC_passesInto : List Cond := Cond.code yC_passesInto cC_passesInto 5 (some .int) :: zWW
abbrev rC_passesInto : Room := { frames := 4, cells := 0, slots := 0, locals := 88 }
abbrev yC_blocksVisited : MethodName := { cls := "SpanningProbes$Counters", name := "blocksVisited", desc := "(I)I" }
abbrev cC_blocksVisited : ByteArray := prog_2_method_10_code
abbrev wC_blocksVisited : List Cond := Cond.code yC_blocksVisited cC_blocksVisited 4 (some .int) :: zWW
abbrev rC_blocksVisited : Room := { frames := 6, cells := 0, slots := 0, locals := 134 }
abbrev yC_edgesPassed : MethodName := { cls := "SpanningProbes$Counters", name := "edgesPassed", desc := "(I)I" }
abbrev cC_edgesPassed : ByteArray := prog_2_method_11_code
abbrev wC_edgesPassed : List Cond := Cond.code yC_edgesPassed cC_edgesPassed 4 (some .int) :: zWW
abbrev rC_edgesPassed : Room := { frames := 4, cells := 0, slots := 0, locals := 88 }
abbrev yC_waysCompleted : MethodName := { cls := "SpanningProbes$Counters", name := "waysCompleted", desc := "()I" }
abbrev cC_waysCompleted : ByteArray := prog_2_method_12_code
abbrev wC_waysCompleted : List Cond := Cond.code yC_waysCompleted cC_waysCompleted 3 (some .int) :: zWW
abbrev rC_waysCompleted : Room := { frames := 1, cells := 0, slots := 0, locals := 20 }
abbrev yA_init : MethodName := { cls := "SpanningProbes", name := "<init>", desc := "(I)V" }
abbrev cA_init : ByteArray := prog_1_method_1_code
abbrev wA_init : List Cond := Cond.code yA_init cA_init 2 none :: zWW
abbrev rA_init : Room := { frames := 3, cells := 28, slots := 609, locals := 63 }
abbrev yA_edge : MethodName := { cls := "SpanningProbes", name := "edge", desc := "(II)I" }
abbrev cA_edge : ByteArray := prog_1_method_2_code
abbrev wA_edge : List Cond := Cond.code yA_edge cA_edge 3 (some .int) :: zWW
abbrev rA_edge : Room := { frames := 2, cells := 0, slots := 0, locals := 42 }
abbrev yA_seal : MethodName := { cls := "SpanningProbes", name := "seal", desc := "()I" }
abbrev cA_seal : ByteArray := prog_1_method_3_code
abbrev wA_seal : List Cond := Cond.code yA_seal cA_seal 1 (some .int) :: zWW
abbrev rA_seal : Room := { frames := 5, cells := 0, slots := 0, locals := 109 }
abbrev yA_back : MethodName := { cls := "SpanningProbes", name := "back", desc := "(I)Z" }
abbrev cA_back : ByteArray := prog_1_method_4_code
abbrev wA_back : List Cond := Cond.code yA_back cA_back 2 (some .boolean) :: zWW
abbrev rA_back : Room := { frames := 3, cells := 0, slots := 0, locals := 62 }
abbrev yA_depth : MethodName := { cls := "SpanningProbes", name := "depth", desc := "(I)I" }
abbrev cA_depth : ByteArray := prog_1_method_5_code
abbrev wA_depth : List Cond := Cond.code yA_depth cA_depth 2 (some .int) :: zWW
abbrev rA_depth : Room := { frames := 3, cells := 0, slots := 0, locals := 62 }
abbrev yA_probe : MethodName := { cls := "SpanningProbes", name := "probe", desc := "(I)Z" }
abbrev cA_probe : ByteArray := prog_1_method_6_code
abbrev wA_probe : List Cond := Cond.code yA_probe cA_probe 2 (some .boolean) :: zWW
abbrev rA_probe : Room := { frames := 3, cells := 0, slots := 0, locals := 62 }
abbrev yA_increment : MethodName := { cls := "SpanningProbes", name := "increment", desc := "(I)I" }
abbrev cA_increment : ByteArray := prog_1_method_7_code
abbrev wA_increment : List Cond := Cond.code yA_increment cA_increment 2 (some .int) :: zWW
abbrev rA_increment : Room := { frames := 3, cells := 0, slots := 0, locals := 62 }
abbrev yA_reset : MethodName := { cls := "SpanningProbes", name := "reset", desc := "(I)I" }
abbrev cA_reset : ByteArray := prog_1_method_8_code
abbrev wA_reset : List Cond := Cond.code yA_reset cA_reset 2 (some .int) :: zWW
abbrev rA_reset : Room := { frames := 3, cells := 0, slots := 0, locals := 62 }
abbrev yA_start : MethodName := { cls := "SpanningProbes", name := "start", desc := "()Z" }
abbrev cA_start : ByteArray := prog_1_method_9_code
abbrev wA_start : List Cond := Cond.code yA_start cA_start 1 (some .boolean) :: zWW
abbrev rA_start : Room := { frames := 2, cells := 0, slots := 0, locals := 40 }
abbrev yA_take : MethodName := { cls := "SpanningProbes", name := "take", desc := "(I)I" }
abbrev cA_take : ByteArray := prog_1_method_10_code
abbrev wA_take : List Cond := Cond.code yA_take cA_take 2 (some .int) :: zWW
abbrev rA_take : Room := { frames := 4, cells := 0, slots := 0, locals := 83 }
abbrev yA_walk : MethodName := { cls := "SpanningProbes", name := "walk", desc := "(II)I" }
abbrev cA_walk : ByteArray := prog_1_method_11_code
abbrev wA_walk : List Cond := Cond.code yA_walk cA_walk 6 (some .int) :: zWW
abbrev rA_walk : Room := { frames := 4, cells := 0, slots := 0, locals := 83 }
abbrev yA_stop : MethodName := { cls := "SpanningProbes", name := "stop", desc := "()I" }
abbrev cA_stop : ByteArray := prog_1_method_12_code
abbrev wA_stop : List Cond := Cond.code yA_stop cA_stop 2 (some .int) :: zWW
abbrev rA_stop : Room := { frames := 2, cells := 0, slots := 0, locals := 40 }
abbrev yA_at : MethodName := { cls := "SpanningProbes", name := "at", desc := "()I" }
abbrev cA_at : ByteArray := prog_1_method_13_code
abbrev wA_at : List Cond := Cond.code yA_at cA_at 1 (some .int) :: zWW
abbrev rA_at : Room := { frames := 1, cells := 0, slots := 0, locals := 20 }
abbrev yA_register : MethodName := { cls := "SpanningProbes", name := "register", desc := "()I" }
abbrev cA_register : ByteArray := prog_1_method_14_code
abbrev wA_register : List Cond := Cond.code yA_register cA_register 1 (some .int) :: zWW
abbrev rA_register : Room := { frames := 1, cells := 0, slots := 0, locals := 20 }
abbrev yA_count : MethodName := { cls := "SpanningProbes", name := "count", desc := "(I)I" }
abbrev cA_count : ByteArray := prog_1_method_15_code
abbrev wA_count : List Cond := Cond.code yA_count cA_count 2 (some .int) :: zWW
abbrev rA_count : Room := { frames := 4, cells := 0, slots := 0, locals := 88 }
abbrev yA_visits : MethodName := { cls := "SpanningProbes", name := "visits", desc := "(I)I" }
abbrev cA_visits : ByteArray := prog_1_method_16_code
abbrev wA_visits : List Cond := Cond.code yA_visits cA_visits 2 (some .int) :: zWW
abbrev rA_visits : Room := { frames := 6, cells := 0, slots := 0, locals := 134 }
abbrev yA_passed : MethodName := { cls := "SpanningProbes", name := "passed", desc := "(I)I" }
abbrev cA_passed : ByteArray := prog_1_method_17_code
abbrev wA_passed : List Cond := Cond.code yA_passed cA_passed 2 (some .int) :: zWW
abbrev rA_passed : Room := { frames := 2, cells := 0, slots := 0, locals := 41 }
abbrev yA_along : MethodName := { cls := "SpanningProbes", name := "along", desc := "(II)I" }
abbrev cA_along : ByteArray := prog_1_method_18_code
abbrev wA_along : List Cond := Cond.code yA_along cA_along 4 (some .int) :: zWW
abbrev rA_along : Room := { frames := 3, cells := 0, slots := 0, locals := 71 }
abbrev yA_stopped : MethodName := { cls := "SpanningProbes", name := "stopped", desc := "(I)I" }
abbrev cA_stopped : ByteArray := prog_1_method_19_code
abbrev wA_stopped : List Cond := Cond.code yA_stopped cA_stopped 2 (some .int) :: zWW
abbrev rA_stopped : Room := { frames := 3, cells := 0, slots := 0, locals := 62 }
abbrev yA_covered : MethodName := { cls := "SpanningProbes", name := "covered", desc := "(I)I" }
abbrev cA_covered : ByteArray := prog_1_method_20_code
abbrev wA_covered : List Cond := Cond.code yA_covered cA_covered 2 (some .int) :: zWW
abbrev rA_covered : Room := { frames := 7, cells := 0, slots := 0, locals := 157 }
abbrev yA_clear : MethodName := { cls := "SpanningProbes", name := "clear", desc := "()V" }
abbrev cA_clear : ByteArray := prog_1_method_21_code
abbrev wA_clear : List Cond := Cond.code yA_clear cA_clear 1 none :: zWW
abbrev rA_clear : Room := { frames := 3, cells := 0, slots := 0, locals := 63 }
abbrev yA_knowsEdge : MethodName := { cls := "SpanningProbes", name := "knowsEdge", desc := "(I)Z" }
abbrev cA_knowsEdge : ByteArray := prog_1_method_22_code
abbrev wA_knowsEdge : List Cond := Cond.code yA_knowsEdge cA_knowsEdge 2 (some .boolean) :: zWW
abbrev rA_knowsEdge : Room := { frames := 2, cells := 0, slots := 0, locals := 41 }
abbrev yA_knowsBlock : MethodName := { cls := "SpanningProbes", name := "knowsBlock", desc := "(I)Z" }
abbrev cA_knowsBlock : ByteArray := prog_1_method_23_code
abbrev wA_knowsBlock : List Cond := Cond.code yA_knowsBlock cA_knowsBlock 2 (some .boolean) :: zWW
abbrev rA_knowsBlock : Room := { frames := 2, cells := 0, slots := 0, locals := 41 }
abbrev yA_knowsWay : MethodName := { cls := "SpanningProbes", name := "knowsWay", desc := "(I)Z" }
abbrev cA_knowsWay : ByteArray := prog_1_method_24_code
abbrev wA_knowsWay : List Cond := Cond.code yA_knowsWay cA_knowsWay 2 (some .boolean) :: zWW
abbrev rA_knowsWay : Room := { frames := 1, cells := 0, slots := 0, locals := 20 }
abbrev yA_isUnderWay : MethodName := { cls := "SpanningProbes", name := "isUnderWay", desc := "()Z" }
abbrev cA_isUnderWay : ByteArray := prog_1_method_25_code
abbrev wA_isUnderWay : List Cond := Cond.code yA_isUnderWay cA_isUnderWay 1 (some .boolean) :: zWW
abbrev rA_isUnderWay : Room := { frames := 1, cells := 0, slots := 0, locals := 20 }
abbrev yA_pass : MethodName := { cls := "SpanningProbes", name := "pass", desc := "(I)V" }
abbrev cA_pass : ByteArray := prog_1_method_26_code
abbrev wA_pass : List Cond := Cond.code yA_pass cA_pass 2 none :: zWW
abbrev rA_pass : Room := { frames := 3, cells := 0, slots := 0, locals := 62 }
abbrev yA_completeWay : MethodName := { cls := "SpanningProbes", name := "completeWay", desc := "()V" }
abbrev cA_completeWay : ByteArray := prog_1_method_27_code
abbrev wA_completeWay : List Cond := Cond.code yA_completeWay cA_completeWay 1 none :: zWW
abbrev rA_completeWay : Room := { frames := 2, cells := 0, slots := 0, locals := 41 }
abbrev yA_endRun : MethodName := { cls := "SpanningProbes", name := "endRun", desc := "()V" }
abbrev cA_endRun : ByteArray := prog_1_method_28_code
abbrev wA_endRun : List Cond := Cond.code yA_endRun cA_endRun 1 none :: zWW
abbrev rA_endRun : Room := { frames := 1, cells := 0, slots := 0, locals := 20 }
abbrev yA_bit : MethodName := { cls := "SpanningProbes", name := "bit", desc := "(I)I" }
abbrev cA_bit : ByteArray := prog_1_method_29_code
abbrev wA_bit : List Cond := Cond.code yA_bit cA_bit 1 (some .int) :: zWW
abbrev rA_bit : Room := { frames := 1, cells := 0, slots := 0, locals := 20 }
abbrev yA_isIn : MethodName := { cls := "SpanningProbes", name := "isIn", desc := "(II)Z" }
abbrev cA_isIn : ByteArray := prog_1_method_30_code
abbrev wA_isIn : List Cond := Cond.code yA_isIn cA_isIn 2 (some .boolean) :: zWW
abbrev rA_isIn : Room := { frames := 1, cells := 0, slots := 0, locals := 20 }
abbrev yM_init : MethodName := { cls := "SpanningProbesModel", name := "<init>", desc := "(I)V" }
abbrev cM_init : ByteArray := prog_9_method_1_code
abbrev wM_init : List Cond := Cond.code yM_init cM_init 2 none :: zWW
abbrev rM_init : Room := { frames := 1, cells := 27, slots := 4184, locals := 20 }
abbrev yM_block : MethodName := { cls := "SpanningProbesModel", name := "block", desc := "(I)Z" }
abbrev cM_block : ByteArray := prog_9_method_2_code
abbrev wM_block : List Cond := Cond.code yM_block cM_block 2 (some .boolean) :: zWW
abbrev rM_block : Room := { frames := 1, cells := 0, slots := 0, locals := 20 }
abbrev yM_known : MethodName := { cls := "SpanningProbesModel", name := "known", desc := "(I)Z" }
abbrev cM_known : ByteArray := prog_9_method_3_code
abbrev wM_known : List Cond := Cond.code yM_known cM_known 2 (some .boolean) :: zWW
abbrev rM_known : Room := { frames := 1, cells := 0, slots := 0, locals := 20 }
abbrev yM_edge : MethodName := { cls := "SpanningProbesModel", name := "edge", desc := "(II)I" }
abbrev cM_edge : ByteArray := prog_9_method_4_code
abbrev wM_edge : List Cond := Cond.code yM_edge cM_edge 3 (some .int) :: zWW
abbrev rM_edge : Room := { frames := 2, cells := 0, slots := 0, locals := 41 }
abbrev yM_look : MethodName := { cls := "SpanningProbesModel", name := "look", desc := "(I)I" }
abbrev cM_look : ByteArray := prog_9_method_5_code
abbrev wM_look : List Cond := Cond.code yM_look cM_look 3 (some .int) :: zWW
abbrev rM_look : Room := { frames := 1, cells := 0, slots := 0, locals := 20 }
abbrev yM_search : MethodName := { cls := "SpanningProbesModel", name := "search", desc := "()V" }
abbrev cM_search : ByteArray := prog_9_method_6_code
abbrev wM_search : List Cond := Cond.code yM_search cM_search 5 none :: zWW
abbrev rM_search : Room := { frames := 2, cells := 0, slots := 0, locals := 42 }
abbrev yM_spread : MethodName := { cls := "SpanningProbesModel", name := "spread", desc := "(I)V" }
abbrev cM_spread : ByteArray := prog_9_method_7_code
abbrev wM_spread : List Cond := Cond.code yM_spread cM_spread 4 none :: zWW
abbrev rM_spread : Room := { frames := 1, cells := 0, slots := 0, locals := 20 }
abbrev yM_connected : MethodName := { cls := "SpanningProbesModel", name := "connected", desc := "()Z" }
abbrev cM_connected : ByteArray := prog_9_method_8_code
abbrev wM_connected : List Cond := Cond.code yM_connected cM_connected 3 (some .boolean) :: zWW
abbrev rM_connected : Room := { frames := 2, cells := 0, slots := 0, locals := 43 }
abbrev yM_deepen : MethodName := { cls := "SpanningProbesModel", name := "deepen", desc := "()V" }
abbrev cM_deepen : ByteArray := prog_9_method_9_code
abbrev wM_deepen : List Cond := Cond.code yM_deepen cM_deepen 4 none :: zWW
abbrev rM_deepen : Room := { frames := 2, cells := 0, slots := 0, locals := 43 }
abbrev yM_weight : MethodName := { cls := "SpanningProbesModel", name := "weight", desc := "(I)I" }
abbrev cM_weight : ByteArray := prog_9_method_10_code
abbrev wM_weight : List Cond := Cond.code yM_weight cM_weight 4 (some .int) :: zWW
abbrev rM_weight : Room := { frames := 1, cells := 0, slots := 0, locals := 20 }
abbrev yM_sort : MethodName := { cls := "SpanningProbesModel", name := "sort", desc := "()V" }
abbrev cM_sort : ByteArray := prog_9_method_11_code
abbrev wM_sort : List Cond := Cond.code yM_sort cM_sort 6 none :: zWW
abbrev rM_sort : Room := { frames := 2, cells := 0, slots := 0, locals := 43 }
abbrev yM_joined : MethodName := { cls := "SpanningProbesModel", name := "joined", desc := "(II)Z" }
abbrev cM_joined : ByteArray := prog_9_method_12_code
abbrev wM_joined : List Cond := Cond.code yM_joined cM_joined 6 (some .boolean) :: zWW
abbrev rM_joined : Room := { frames := 1, cells := 0, slots := 0, locals := 20 }
abbrev yM_join : MethodName := { cls := "SpanningProbesModel", name := "join", desc := "(II)Z" }
abbrev cM_join : ByteArray := prog_9_method_13_code
abbrev wM_join : List Cond := Cond.code yM_join cM_join 4 (some .boolean) :: zWW
abbrev rM_join : Room := { frames := 2, cells := 0, slots := 0, locals := 45 }
abbrev yM_growTrees : MethodName := { cls := "SpanningProbesModel", name := "growTrees", desc := "()V" }
abbrev cM_growTrees : ByteArray := prog_9_method_14_code
abbrev wM_growTrees : List Cond := Cond.code yM_growTrees cM_growTrees 3 none :: zWW
abbrev rM_growTrees : Room := { frames := 3, cells := 0, slots := 0, locals := 68 }
abbrev yM_layLinks : MethodName := { cls := "SpanningProbesModel", name := "layLinks", desc := "()V" }
abbrev cM_layLinks : ByteArray := prog_9_method_15_code
abbrev wM_layLinks : List Cond := Cond.code yM_layLinks cM_layLinks 3 none :: zWW
abbrev rM_layLinks : Room := { frames := 2, cells := 0, slots := 0, locals := 44 }
abbrev yM_rowsBefore : MethodName := { cls := "SpanningProbesModel", name := "rowsBefore", desc := "(II)I" }
abbrev cM_rowsBefore : ByteArray := prog_9_method_16_code
abbrev wM_rowsBefore : List Cond := Cond.code yM_rowsBefore cM_rowsBefore 5 (some .int) :: zWW
abbrev rM_rowsBefore : Room := { frames := 1, cells := 0, slots := 0, locals := 20 }
abbrev yM_value : MethodName := { cls := "SpanningProbesModel", name := "value", desc := "(I)I" }
abbrev cM_value : ByteArray := prog_9_method_17_code
abbrev wM_value : List Cond := Cond.code yM_value cM_value 2 (some .int) :: zWW
abbrev rM_value : Room := { frames := 2, cells := 0, slots := 0, locals := 44 }
abbrev yM_findBases : MethodName := { cls := "SpanningProbesModel", name := "findBases", desc := "()V" }
abbrev cM_findBases : ByteArray := prog_9_method_18_code
abbrev wM_findBases : List Cond := Cond.code yM_findBases cM_findBases 5 none :: zWW
abbrev rM_findBases : Room := { frames := 3, cells := 0, slots := 0, locals := 65 }
abbrev yM_added : MethodName := { cls := "SpanningProbesModel", name := "added", desc := "(I)I" }
abbrev cM_added : ByteArray := prog_9_method_19_code
abbrev wM_added : List Cond := Cond.code yM_added cM_added 2 (some .int) :: zWW
abbrev rM_added : Room := { frames := 3, cells := 0, slots := 0, locals := 65 }
abbrev yM_linkAfter : MethodName := { cls := "SpanningProbesModel", name := "linkAfter", desc := "(II)I" }
abbrev cM_linkAfter : ByteArray := prog_9_method_20_code
abbrev wM_linkAfter : List Cond := Cond.code yM_linkAfter cM_linkAfter 4 (some .int) :: zWW
abbrev rM_linkAfter : Room := { frames := 1, cells := 0, slots := 0, locals := 20 }
abbrev yM_complete : MethodName := { cls := "SpanningProbesModel", name := "complete", desc := "()V" }
abbrev cM_complete : ByteArray := prog_9_method_21_code
abbrev wM_complete : List Cond := Cond.code yM_complete cM_complete 3 none :: zWW
abbrev rM_complete : Room := { frames := 2, cells := 0, slots := 0, locals := 43 }
abbrev yM_advance : MethodName := { cls := "SpanningProbesModel", name := "advance", desc := "()Z" }
abbrev cM_advance : ByteArray := prog_9_method_22_code
abbrev wM_advance : List Cond := Cond.code yM_advance cM_advance 3 (some .boolean) :: zWW
abbrev rM_advance : Room := { frames := 3, cells := 0, slots := 0, locals := 65 }
abbrev yM_listWays : MethodName := { cls := "SpanningProbesModel", name := "listWays", desc := "()V" }
abbrev cM_listWays : ByteArray := prog_9_method_23_code
abbrev wM_listWays : List Cond := Cond.code yM_listWays cM_listWays 3 none :: zWW
abbrev rM_listWays : Room := { frames := 4, cells := 0, slots := 0, locals := 87 }
abbrev yM_seal : MethodName := { cls := "SpanningProbesModel", name := "seal", desc := "()I" }
abbrev cM_seal : ByteArray := prog_9_method_24_code
abbrev wM_seal : List Cond := Cond.code yM_seal cM_seal 1 (some .int) :: zWW
abbrev rM_seal : Room := { frames := 5, cells := 0, slots := 0, locals := 109 }
abbrev yM_back : MethodName := { cls := "SpanningProbesModel", name := "back", desc := "(I)Z" }
abbrev cM_back : ByteArray := prog_9_method_25_code
abbrev wM_back : List Cond := Cond.code yM_back cM_back 2 (some .boolean) :: zWW
abbrev rM_back : Room := { frames := 2, cells := 0, slots := 0, locals := 41 }
abbrev yM_depth : MethodName := { cls := "SpanningProbesModel", name := "depth", desc := "(I)I" }
abbrev cM_depth : ByteArray := prog_9_method_26_code
abbrev wM_depth : List Cond := Cond.code yM_depth cM_depth 2 (some .int) :: zWW
abbrev rM_depth : Room := { frames := 2, cells := 0, slots := 0, locals := 41 }
abbrev yM_probe : MethodName := { cls := "SpanningProbesModel", name := "probe", desc := "(I)Z" }
abbrev cM_probe : ByteArray := prog_9_method_27_code
abbrev wM_probe : List Cond := Cond.code yM_probe cM_probe 2 (some .boolean) :: zWW
abbrev rM_probe : Room := { frames := 2, cells := 0, slots := 0, locals := 41 }
abbrev yM_increment : MethodName := { cls := "SpanningProbesModel", name := "increment", desc := "(I)I" }
abbrev cM_increment : ByteArray := prog_9_method_28_code
abbrev wM_increment : List Cond := Cond.code yM_increment cM_increment 2 (some .int) :: zWW
abbrev rM_increment : Room := { frames := 4, cells := 0, slots := 0, locals := 86 }
abbrev yM_reset : MethodName := { cls := "SpanningProbesModel", name := "reset", desc := "(I)I" }
abbrev cM_reset : ByteArray := prog_9_method_29_code
abbrev wM_reset : List Cond := Cond.code yM_reset cM_reset 2 (some .int) :: zWW
abbrev rM_reset : Room := { frames := 4, cells := 0, slots := 0, locals := 86 }
abbrev yM_start : MethodName := { cls := "SpanningProbesModel", name := "start", desc := "()Z" }
abbrev cM_start : ByteArray := prog_9_method_30_code
abbrev wM_start : List Cond := Cond.code yM_start cM_start 1 (some .boolean) :: zWW
abbrev rM_start : Room := { frames := 1, cells := 0, slots := 0, locals := 20 }
abbrev yM_note : MethodName := { cls := "SpanningProbesModel", name := "note", desc := "(I)V" }
abbrev cM_note : ByteArray := prog_9_method_31_code
abbrev wM_note : List Cond := Cond.code yM_note cM_note 2 none :: zWW
abbrev rM_note : Room := { frames := 1, cells := 0, slots := 0, locals := 20 }
abbrev yM_countWay : MethodName := { cls := "SpanningProbesModel", name := "countWay", desc := "()V" }
abbrev cM_countWay : ByteArray := prog_9_method_32_code
abbrev wM_countWay : List Cond := Cond.code yM_countWay cM_countWay 4 none :: zWW
abbrev rM_countWay : Room := { frames := 1, cells := 0, slots := 0, locals := 20 }
abbrev yM_pass : MethodName := { cls := "SpanningProbesModel", name := "pass", desc := "(I)V" }
abbrev cM_pass : ByteArray := prog_9_method_33_code
abbrev wM_pass : List Cond := Cond.code yM_pass cM_pass 2 none :: zWW
abbrev rM_pass : Room := { frames := 2, cells := 0, slots := 0, locals := 43 }
abbrev yM_take : MethodName := { cls := "SpanningProbesModel", name := "take", desc := "(I)I" }
abbrev cM_take : ByteArray := prog_9_method_34_code
abbrev wM_take : List Cond := Cond.code yM_take cM_take 2 (some .int) :: zWW
abbrev rM_take : Room := { frames := 3, cells := 0, slots := 0, locals := 64 }
abbrev yM_pick : MethodName := { cls := "SpanningProbesModel", name := "pick", desc := "(I)I" }
abbrev cM_pick : ByteArray := prog_9_method_35_code
abbrev wM_pick : List Cond := Cond.code yM_pick cM_pick 5 (some .int) :: zWW
abbrev rM_pick : Room := { frames := 1, cells := 0, slots := 0, locals := 20 }
abbrev yM_walk : MethodName := { cls := "SpanningProbesModel", name := "walk", desc := "(II)I" }
abbrev cM_walk : ByteArray := prog_9_method_36_code
abbrev wM_walk : List Cond := Cond.code yM_walk cM_walk 6 (some .int) :: zWW
abbrev rM_walk : Room := { frames := 3, cells := 0, slots := 0, locals := 64 }
abbrev yM_stop : MethodName := { cls := "SpanningProbesModel", name := "stop", desc := "()I" }
abbrev cM_stop : ByteArray := prog_9_method_37_code
abbrev wM_stop : List Cond := Cond.code yM_stop cM_stop 1 (some .int) :: zWW
abbrev rM_stop : Room := { frames := 1, cells := 0, slots := 0, locals := 20 }
abbrev yM_at : MethodName := { cls := "SpanningProbesModel", name := "at", desc := "()I" }
abbrev cM_at : ByteArray := prog_9_method_38_code
abbrev wM_at : List Cond := Cond.code yM_at cM_at 1 (some .int) :: zWW
abbrev rM_at : Room := { frames := 1, cells := 0, slots := 0, locals := 20 }
abbrev yM_register : MethodName := { cls := "SpanningProbesModel", name := "register", desc := "()I" }
abbrev cM_register : ByteArray := prog_9_method_39_code
abbrev wM_register : List Cond := Cond.code yM_register cM_register 3 (some .int) :: zWW
abbrev rM_register : Room := { frames := 4, cells := 0, slots := 0, locals := 86 }
abbrev yM_count : MethodName := { cls := "SpanningProbesModel", name := "count", desc := "(I)I" }
abbrev cM_count : ByteArray := prog_9_method_40_code
abbrev wM_count : List Cond := Cond.code yM_count cM_count 2 (some .int) :: zWW
abbrev rM_count : Room := { frames := 2, cells := 0, slots := 0, locals := 41 }
abbrev yM_visits : MethodName := { cls := "SpanningProbesModel", name := "visits", desc := "(I)I" }
abbrev cM_visits : ByteArray := prog_9_method_41_code
abbrev wM_visits : List Cond := Cond.code yM_visits cM_visits 2 (some .int) :: zWW
abbrev rM_visits : Room := { frames := 2, cells := 0, slots := 0, locals := 41 }
abbrev yM_passed : MethodName := { cls := "SpanningProbesModel", name := "passed", desc := "(I)I" }
abbrev cM_passed : ByteArray := prog_9_method_42_code
abbrev wM_passed : List Cond := Cond.code yM_passed cM_passed 2 (some .int) :: zWW
abbrev rM_passed : Room := { frames := 1, cells := 0, slots := 0, locals := 20 }
abbrev yM_along : MethodName := { cls := "SpanningProbesModel", name := "along", desc := "(II)I" }
abbrev cM_along : ByteArray := prog_9_method_43_code
abbrev wM_along : List Cond := Cond.code yM_along cM_along 5 (some .int) :: zWW
abbrev rM_along : Room := { frames := 1, cells := 0, slots := 0, locals := 20 }
abbrev yM_stopped : MethodName := { cls := "SpanningProbesModel", name := "stopped", desc := "(I)I" }
abbrev cM_stopped : ByteArray := prog_9_method_44_code
abbrev wM_stopped : List Cond := Cond.code yM_stopped cM_stopped 2 (some .int) :: zWW
abbrev rM_stopped : Room := { frames := 2, cells := 0, slots := 0, locals := 41 }
abbrev yM_covered : MethodName := { cls := "SpanningProbesModel", name := "covered", desc := "(I)I" }
abbrev cM_covered : ByteArray := prog_9_method_45_code
abbrev wM_covered : List Cond := Cond.code yM_covered cM_covered 4 (some .int) :: zWW
abbrev rM_covered : Room := { frames := 1, cells := 0, slots := 0, locals := 20 }
abbrev yM_clear : MethodName := { cls := "SpanningProbesModel", name := "clear", desc := "()V" }
abbrev cM_clear : ByteArray := prog_9_method_46_code
abbrev wM_clear : List Cond := Cond.code yM_clear cM_clear 2 none :: zWW
abbrev rM_clear : Room := { frames := 1, cells := 0, slots := 0, locals := 20 }
abbrev yL_cell : MethodName := { cls := "SpanningProbesLaw", name := "cell", desc := "([II)I" }
abbrev cL_cell : ByteArray := method_2_code
abbrev wL_cell : List Cond := Cond.code yL_cell cL_cell 2 (some .int) :: zWW
abbrev rL_cell : Room := { frames := 1, cells := 0, slots := 0, locals := 20 }
