/-! part 02: class tables, methods, the fixed world (written by wip/whole/world.py) -/
def tbl : List Jvm.Cond := lw_tbl.filter (fun w => goodWord w)
def cn0 : String := "PlayedTruth$Acting"
def FT0 : u_T := fun k => match k with
  | 0 => ("PlayedTruth$Acting", "bodies", "[I", true)
  | 1 => ("PlayedTruth$Acting", "count", "I", false)
  | 2 => ("PlayedTruth$Acting", "isParted", "Z", false)
  | 3 => ("PlayedTruth$Acting", "kind", "I", false)
  | 4 => ("PlayedTruth$Acting", "n", "I", false)
  | _ => ("PlayedTruth$Acting", "a", "I", false)
def ty0 : Nat → FieldType := fun k => match k with
  | 0 => .array .int
  | 1 => .int
  | 2 => .boolean
  | 3 => .int
  | 4 => .int
  | _ => .int
def cn1 : String := "PlayedTruth$Ahead"
def FT1 : u_T := fun k => match k with
  | 0 => ("PlayedTruth$Ahead", "stage", "LPlayedTruth$Stage;", true)
  | 1 => ("PlayedTruth$Ahead", "now", "LPlayedTruth$Moment;", true)
  | 2 => ("PlayedTruth$Ahead", "moments", "[LPlayedTruth$Moment;", true)
  | 3 => ("PlayedTruth$Ahead", "acts", "[I", true)
  | 4 => ("PlayedTruth$Ahead", "wanted", "I", false)
  | 5 => ("PlayedTruth$Ahead", "nights", "I", false)
  | 6 => ("PlayedTruth$Ahead", "best", "I", false)
  | 7 => ("PlayedTruth$Ahead", "ways", "I", false)
  | 8 => ("PlayedTruth$Ahead", "first", "[I", true)
  | 9 => ("PlayedTruth$Ahead", "fewest", "I", false)
  | 10 => ("PlayedTruth$Ahead", "settledBySome", "I", false)
  | _ => ("PlayedTruth$Ahead", "opening", "I", false)
def ty1 : Nat → FieldType := fun k => match k with
  | 0 => .object "PlayedTruth$Stage"
  | 1 => .object "PlayedTruth$Moment"
  | 2 => .array (.object "PlayedTruth$Moment")
  | 3 => .array .int
  | 4 => .int
  | 5 => .int
  | 6 => .int
  | 7 => .int
  | 8 => .array .int
  | 9 => .int
  | 10 => .int
  | _ => .int
def cn2 : String := "PlayedTruth$Host"
def FT2 : u_T := fun k => match k with
  | 0 => ("PlayedTruth$Host", "sort", "[I", true)
  | 1 => ("PlayedTruth$Host", "size", "[I", true)
  | 2 => ("PlayedTruth$Host", "items", "[[I", true)
  | 3 => ("PlayedTruth$Host", "holds", "[I", true)
  | 4 => ("PlayedTruth$Host", "held", "[I", true)
  | _ => ("PlayedTruth$Host", "heldSize", "[I", true)
def ty2 : Nat → FieldType := fun k => match k with
  | 0 => .array .int
  | 1 => .array .int
  | 2 => .array (.array .int)
  | 3 => .array .int
  | 4 => .array .int
  | _ => .array .int
def cn3 : String := "PlayedTruth$Moment"
def FT3 : u_T := fun k => match k with
  | 0 => ("PlayedTruth$Moment", "truth", "[I", true)
  | 1 => ("PlayedTruth$Moment", "pretty", "[I", true)
  | 2 => ("PlayedTruth$Moment", "settled", "I", false)
  | 3 => ("PlayedTruth$Moment", "night", "I", false)
  | 4 => ("PlayedTruth$Moment", "score", "I", false)
  | _ => ("PlayedTruth$Moment", "seed", "I", false)
def ty3 : Nat → FieldType := fun k => match k with
  | 0 => .array .int
  | 1 => .array .int
  | 2 => .int
  | 3 => .int
  | 4 => .int
  | _ => .int
def cn4 : String := "PlayedTruth$RuleReader"
def FT4 : u_T := fun k => match k with
  | 0 => ("PlayedTruth$RuleReader", "tape", "[I", true)
  | 1 => ("PlayedTruth$RuleReader", "size", "I", false)
  | 2 => ("PlayedTruth$RuleReader", "draft", "LPlayedTruth$Rules;", true)
  | 3 => ("PlayedTruth$RuleReader", "fault", "I", false)
  | 4 => ("PlayedTruth$RuleReader", "tokens", "[I", true)
  | 5 => ("PlayedTruth$RuleReader", "starts", "[I", true)
  | 6 => ("PlayedTruth$RuleReader", "numbers", "[I", true)
  | 7 => ("PlayedTruth$RuleReader", "at", "I", false)
  | _ => ("PlayedTruth$RuleReader", "token", "I", false)
def ty4 : Nat → FieldType := fun k => match k with
  | 0 => .array .int
  | 1 => .int
  | 2 => .object "PlayedTruth$Rules"
  | 3 => .int
  | 4 => .array .int
  | 5 => .array .int
  | 6 => .array .int
  | 7 => .int
  | _ => .int
def cn5 : String := "PlayedTruth$Rules"
def FT5 : u_T := fun k => match k with
  | 0 => ("PlayedTruth$Rules", "kind", "[I", true)
  | 1 => ("PlayedTruth$Rules", "deed", "[I", true)
  | 2 => ("PlayedTruth$Rules", "behind", "[I", true)
  | 3 => ("PlayedTruth$Rules", "steps", "[I", true)
  | 4 => ("PlayedTruth$Rules", "stepCount", "I", false)
  | _ => ("PlayedTruth$Rules", "count", "I", false)
def ty5 : Nat → FieldType := fun k => match k with
  | 0 => .array .int
  | 1 => .array .int
  | 2 => .array .int
  | 3 => .array .int
  | 4 => .int
  | _ => .int
def cn6 : String := "PlayedTruth$Stage"
def FT6 : u_T := fun k => match k with
  | 0 => ("PlayedTruth$Stage", "kind", "[I", true)
  | 1 => ("PlayedTruth$Stage", "place", "[I", true)
  | 2 => ("PlayedTruth$Stage", "houses", "[I", true)
  | 3 => ("PlayedTruth$Stage", "light", "[I", true)
  | 4 => ("PlayedTruth$Stage", "noise", "[I", true)
  | 5 => ("PlayedTruth$Stage", "rules", "LPlayedTruth$Rules;", true)
  | 6 => ("PlayedTruth$Stage", "facts", "[I", true)
  | 7 => ("PlayedTruth$Stage", "scenes", "I", false)
  | _ => ("PlayedTruth$Stage", "end", "I", false)
def ty6 : Nat → FieldType := fun k => match k with
  | 0 => .array .int
  | 1 => .array .int
  | 2 => .array .int
  | 3 => .array .int
  | 4 => .array .int
  | 5 => .object "PlayedTruth$Rules"
  | 6 => .array .int
  | 7 => .int
  | _ => .int
def cn7 : String := "PlayedTruth$Strangers"
def FT7 : u_T := fun k => match k with
  | 0 => ("PlayedTruth$Strangers", "nights", "[I", true)
  | 1 => ("PlayedTruth$Strangers", "asked", "[I", true)
  | 2 => ("PlayedTruth$Strangers", "least", "[I", true)
  | 3 => ("PlayedTruth$Strangers", "most", "[I", true)
  | 4 => ("PlayedTruth$Strangers", "count", "I", false)
  | 5 => ("PlayedTruth$Strangers", "fits", "I", false)
  | 6 => ("PlayedTruth$Strangers", "firstKind", "I", false)
  | 7 => ("PlayedTruth$Strangers", "firstPretty", "I", false)
  | 8 => ("PlayedTruth$Strangers", "firstTruth", "I", false)
  | _ => ("PlayedTruth$Strangers", "blamed", "I", false)
def ty7 : Nat → FieldType := fun k => match k with
  | 0 => .array .int
  | 1 => .array .int
  | 2 => .array .int
  | 3 => .array .int
  | 4 => .int
  | 5 => .int
  | 6 => .int
  | 7 => .int
  | 8 => .int
  | _ => .int
def cn8 : String := "PlayedTruth"
def FT8 : u_T := fun k => match k with
  | 0 => ("PlayedTruth", "stage", "LPlayedTruth$Stage;", true)
  | 1 => ("PlayedTruth", "now", "LPlayedTruth$Moment;", true)
  | 2 => ("PlayedTruth", "strangers", "LPlayedTruth$Strangers;", true)
  | 3 => ("PlayedTruth", "reader", "LPlayedTruth$RuleReader;", true)
  | 4 => ("PlayedTruth", "ahead", "LPlayedTruth$Ahead;", true)
  | 5 => ("PlayedTruth", "host", "LPlayedTruth$Host;", true)
  | 6 => ("PlayedTruth", "acting", "LPlayedTruth$Acting;", true)
  | 7 => ("PlayedTruth", "rows", "[I", true)
  | 8 => ("PlayedTruth", "rowCount", "I", false)
  | 9 => ("PlayedTruth", "keptStage", "LPlayedTruth$Stage;", true)
  | 10 => ("PlayedTruth", "keptNow", "LPlayedTruth$Moment;", true)
  | 11 => ("PlayedTruth", "keptStrangers", "LPlayedTruth$Strangers;", true)
  | _ => ("PlayedTruth", "isKept", "Z", false)
def ty8 : Nat → FieldType := fun k => match k with
  | 0 => .object "PlayedTruth$Stage"
  | 1 => .object "PlayedTruth$Moment"
  | 2 => .object "PlayedTruth$Strangers"
  | 3 => .object "PlayedTruth$RuleReader"
  | 4 => .object "PlayedTruth$Ahead"
  | 5 => .object "PlayedTruth$Host"
  | 6 => .object "PlayedTruth$Acting"
  | 7 => .array .int
  | 8 => .int
  | 9 => .object "PlayedTruth$Stage"
  | 10 => .object "PlayedTruth$Moment"
  | 11 => .object "PlayedTruth$Strangers"
  | _ => .boolean
def cn9 : String := "PlayedTruthModel"
def FT9 : u_T := fun k => match k with
  | 0 => ("PlayedTruthModel", "d", "[I", true)
  | 1 => ("PlayedTruthModel", "kept", "[I", true)
  | 2 => ("PlayedTruthModel", "isKept", "Z", false)
  | 3 => ("PlayedTruthModel", "aside", "[I", true)
  | 4 => ("PlayedTruthModel", "asides", "I", false)
  | 5 => ("PlayedTruthModel", "pile", "[I", true)
  | 6 => ("PlayedTruthModel", "tape", "[I", true)
  | 7 => ("PlayedTruthModel", "taped", "I", false)
  | 8 => ("PlayedTruthModel", "at", "I", false)
  | 9 => ("PlayedTruthModel", "begun", "I", false)
  | 10 => ("PlayedTruthModel", "token", "I", false)
  | 11 => ("PlayedTruthModel", "value", "J", false)
  | 12 => ("PlayedTruthModel", "isWrong", "Z", false)
  | 13 => ("PlayedTruthModel", "open", "I", false)
  | 14 => ("PlayedTruthModel", "code", "[I", true)
  | 15 => ("PlayedTruthModel", "coded", "I", false)
  | 16 => ("PlayedTruthModel", "told", "[I", true)
  | 17 => ("PlayedTruthModel", "tells", "I", false)
  | 18 => ("PlayedTruthModel", "acts", "[I", true)
  | 19 => ("PlayedTruthModel", "mostWorth", "I", false)
  | 20 => ("PlayedTruthModel", "firstBest", "I", false)
  | 21 => ("PlayedTruthModel", "manyBest", "I", false)
  | 22 => ("PlayedTruthModel", "fewest", "I", false)
  | 23 => ("PlayedTruthModel", "everSettled", "I", false)
  | 24 => ("PlayedTruthModel", "loneMany", "I", false)
  | 25 => ("PlayedTruthModel", "loneFirst", "I", false)
  | 26 => ("PlayedTruthModel", "row", "[I", true)
  | 27 => ("PlayedTruthModel", "rows", "I", false)
  | 28 => ("PlayedTruthModel", "sortOf", "[I", true)
  | 29 => ("PlayedTruthModel", "sizeOf", "[I", true)
  | 30 => ("PlayedTruthModel", "item", "[I", true)
  | 31 => ("PlayedTruthModel", "shelfHas", "[I", true)
  | 32 => ("PlayedTruthModel", "shelfWhich", "[I", true)
  | 33 => ("PlayedTruthModel", "shelfSize", "[I", true)
  | 34 => ("PlayedTruthModel", "traced", "[I", true)
  | 35 => ("PlayedTruthModel", "traceMany", "I", false)
  | 36 => ("PlayedTruthModel", "who", "I", false)
  | _ => ("PlayedTruthModel", "isParted", "Z", false)
def ty9 : Nat → FieldType := fun k => match k with
  | 0 => .array .int
  | 1 => .array .int
  | 2 => .boolean
  | 3 => .array .int
  | 4 => .int
  | 5 => .array .int
  | 6 => .array .int
  | 7 => .int
  | 8 => .int
  | 9 => .int
  | 10 => .int
  | 11 => .long
  | 12 => .boolean
  | 13 => .int
  | 14 => .array .int
  | 15 => .int
  | 16 => .array .int
  | 17 => .int
  | 18 => .array .int
  | 19 => .int
  | 20 => .int
  | 21 => .int
  | 22 => .int
  | 23 => .int
  | 24 => .int
  | 25 => .int
  | 26 => .array .int
  | 27 => .int
  | 28 => .array .int
  | 29 => .array .int
  | 30 => .array .int
  | 31 => .array .int
  | 32 => .array .int
  | 33 => .array .int
  | 34 => .array .int
  | 35 => .int
  | 36 => .int
  | _ => .boolean
abbrev classes : List vw_C := [(cn0, FT0, 6), (cn1, FT1, 12), (cn2, FT2, 6), (cn3, FT3, 6), (cn4, FT4, 9), (cn5, FT5, 6), (cn6, FT6, 9), (cn7, FT7, 10), (cn8, FT8, 13), (cn9, FT9, 38)]
def cnF : Nat → String := fun i => match i with
  | 0 => cn0
  | 1 => cn1
  | 2 => cn2
  | 3 => cn3
  | 4 => cn4
  | 5 => cn5
  | 6 => cn6
  | 7 => cn7
  | 8 => cn8
  | _ => cn9
def ftF : Nat → u_T := fun i => match i with
  | 0 => FT0
  | 1 => FT1
  | 2 => FT2
  | 3 => FT3
  | 4 => FT4
  | 5 => FT5
  | 6 => FT6
  | 7 => FT7
  | 8 => FT8
  | _ => FT9
def tyF : Nat → Nat → FieldType := fun i => match i with
  | 0 => ty0
  | 1 => ty1
  | 2 => ty2
  | 3 => ty3
  | 4 => ty4
  | 5 => ty5
  | 6 => ty6
  | 7 => ty7
  | 8 => ty8
  | _ => ty9
def fnL : List Nat := [6, 12, 6, 6, 9, 6, 9, 10, 13, 38]
def fnF (i : Nat) : Nat := fnL.getD i 0
def fkL : List (List (Nat × Nat)) := [[(3, 62), (0, 0), (4, 0), (0, 0), (0, 0), (0, 0)],
  [(3, 1), (3, 13), (3, 32), (3, 33), (0, 0), (0, 0), (0, 0), (0, 0), (3, 34), (0, 0), (0, 0), (0, 0)],
  [(3, 51), (3, 52), (3, 53), (3, 58), (3, 59), (3, 60)],
  [(2, 1), (2, 2), (0, 0), (0, 0), (0, 0), (0, 0)],
  [(3, 22), (0, 0), (3, 23), (0, 0), (3, 28), (3, 29), (3, 30), (0, 0), (0, 0)],
  [(2, 1), (2, 2), (2, 3), (2, 4), (0, 0), (0, 0)],
  [(2, 1), (2, 2), (2, 3), (2, 4), (2, 5), (2, 6), (2, 11), (0, 0), (0, 0)],
  [(2, 1), (2, 2), (2, 3), (2, 4), (0, 0), (0, 0), (0, 0), (0, 0), (0, 0), (0, 0)],
  [(3, 1), (3, 13), (3, 16), (3, 21), (3, 31), (3, 50), (3, 61), (3, 63), (0, 0), (3, 64), (3, 76), (3, 79), (4, 0)],
  [(3, 85), (3, 86), (4, 0), (3, 87), (0, 0), (3, 88), (3, 89), (0, 0), (0, 0), (0, 0), (0, 0), (1, 0), (4, 0), (0, 0), (3, 90), (0, 0), (3, 91), (0, 0), (3, 92), (0, 0), (0, 0), (0, 0), (0, 0), (0, 0), (0, 0), (0, 0), (3, 93), (0, 0), (3, 94), (3, 95), (3, 96), (3, 97), (3, 98), (3, 99), (3, 100), (0, 0), (0, 0), (4, 0)]]
def fk (ci k : Nat) : Nat × Nat := (fkL.getD ci []).getD k (9, 0)
def shL : List (Nat × Nat) := [(1, 8), (1, 6), (0, 6), (0, 6), (0, 16), (0, 6), (0, 6), (1, 5), (0, 8), (0, 8), (0, 8), (0, 200), (0, 5), (1, 3), (0, 6), (0, 6), (1, 7), (0, 6), (0, 6), (0, 6), (0, 6), (1, 4), (0, 200), (1, 5), (0, 8), (0, 8), (0, 8), (0, 200), (0, 201), (0, 201), (0, 201), (1, 1), (2, 0), (0, 4), (0, 4), (1, 3), (0, 6), (0, 6), (1, 3), (0, 6), (0, 6), (1, 3), (0, 6), (0, 6), (1, 3), (0, 6), (0, 6), (1, 3), (0, 6), (0, 6), (1, 2), (0, 4), (0, 4), (2, 1), (0, 40), (0, 40), (0, 40), (0, 40), (0, 4), (0, 4), (0, 4), (1, 0), (0, 30), (0, 12), (1, 6), (0, 6), (0, 6), (0, 16), (0, 6), (0, 6), (1, 5), (0, 8), (0, 8), (0, 8), (0, 200), (0, 5), (1, 3), (0, 6), (0, 6), (1, 7), (0, 6), (0, 6), (0, 6), (0, 6), (1, 9), (0, 361), (0, 361), (0, 390), (0, 240), (0, 200), (0, 240), (0, 32), (0, 4), (0, 12), (0, 4), (0, 4), (0, 160), (0, 4), (0, 4), (0, 4), (0, 30)]
def NW : Nat := 101
def sh (c : Nat) : Nat × Nat := shL.getD c (9, 0)
/-- arrays of references: 0 the moments, 1 the items: how long, what they hold -/
def rl (t : Nat) : Nat := match t with | 0 => 5 | _ => 4
def re (t i : Nat) : Nat := match t with | 0 => 35 + 3 * i | _ => 54 + i
def mthL : List (MethodName × ByteArray × Nat × Option FieldType) := [
  (⟨"PlayedTruth", "<init>", "()V"⟩, prog_1_method_1_code, 1, none),
  (⟨"java/lang/Object", "<init>", "()V"⟩, object_method_1_code, 1, none),
  (⟨"PlayedTruth$Stage", "<init>", "()V"⟩, prog_9_method_1_code, 2, none),
  (⟨"PlayedTruth$Rules", "<init>", "()V"⟩, prog_8_method_1_code, 1, none),
  (⟨"PlayedTruth$Moment", "<init>", "()V"⟩, prog_6_method_1_code, 1, none),
  (⟨"PlayedTruth$Strangers", "<init>", "()V"⟩, prog_10_method_1_code, 1, none),
  (⟨"PlayedTruth$RuleReader", "<init>", "()V"⟩, prog_7_method_1_code, 1, none),
  (⟨"PlayedTruth$Ahead", "<init>", "(LPlayedTruth$Stage;LPlayedTruth$Moment;)V"⟩, prog_3_method_1_code, 4, none),
  (⟨"PlayedTruth$Host", "<init>", "()V"⟩, prog_4_method_1_code, 1, none),
  (⟨"PlayedTruth$Acting", "<init>", "()V"⟩, prog_2_method_1_code, 1, none),
  (⟨"PlayedTruth", "scene", "(IIII)I"⟩, prog_1_method_2_code, 6, some .int),
  (⟨"PlayedTruth", "isIn", "(III)Z"⟩, prog_1_method_58_code, 3, some .boolean),
  (⟨"PlayedTruth", "isPlace", "(I)Z"⟩, prog_1_method_59_code, 1, some .boolean),
  (⟨"PlayedTruth", "sceneOf", "(II)I"⟩, prog_1_method_3_code, 3, some .int),
  (⟨"PlayedTruth", "isScene", "(I)Z"⟩, prog_1_method_61_code, 2, some .boolean),
  (⟨"PlayedTruth$Moment", "isSettled", "(I)Z"⟩, prog_6_method_3_code, 2, some .boolean),
  (⟨"PlayedTruth$Stage", "learns", "(LPlayedTruth$Moment;I)I"⟩, prog_9_method_9_code, 4, some .int),
  (⟨"PlayedTruth$Stage", "railOf", "(I)I"⟩, prog_9_method_6_code, 2, some .int),
  (⟨"PlayedTruth$Kind", "learns", "(IIII)I"⟩, prog_5_method_3_code, 7, some .int),
  (⟨"java/lang/Math", "max", "(II)I"⟩, prog_14_method_65_code, 2, some .int),
  (⟨"PlayedTruth$Stage", "leans", "(LPlayedTruth$Moment;I)I"⟩, prog_9_method_8_code, 5, some .int),
  (⟨"PlayedTruth$Stage", "draws", "(LPlayedTruth$Moment;I)I"⟩, prog_9_method_10_code, 3, some .int),
  (⟨"PlayedTruth$Kind", "draws", "(IIII)I"⟩, prog_5_method_4_code, 5, some .int),
  (⟨"PlayedTruth$Stage", "mayBeMended", "(LPlayedTruth$Moment;I)Z"⟩, prog_9_method_15_code, 3, some .boolean),
  (⟨"PlayedTruth$Stage", "will", "(LPlayedTruth$Moment;I)I"⟩, prog_9_method_14_code, 3, some .int),
  (⟨"PlayedTruth$Rules", "willOf", "(I[I)I"⟩, prog_8_method_6_code, 5, some .int),
  (⟨"PlayedTruth$Kind", "isAs", "(II)Z"⟩, prog_5_method_2_code, 2, some .boolean),
  (⟨"PlayedTruth$Rules", "holds", "(II[I)Z"⟩, prog_8_method_7_code, 13, some .boolean),
  (⟨"PlayedTruth", "change", "(III)I"⟩, prog_1_method_4_code, 4, some .int),
  (⟨"PlayedTruth", "put", "([III)I"⟩, prog_1_method_66_code, 4, some .int),
  (⟨"PlayedTruth", "putSettled", "(II)I"⟩, prog_1_method_5_code, 4, some .int),
  (⟨"PlayedTruth", "remake", "(II)I"⟩, prog_1_method_6_code, 3, some .int),
  (⟨"PlayedTruth", "house", "(II)I"⟩, prog_1_method_7_code, 3, some .int),
  (⟨"PlayedTruth", "place", "(III)I"⟩, prog_1_method_8_code, 4, some .int),
  (⟨"PlayedTruth", "placeOf", "(II)I"⟩, prog_1_method_9_code, 3, some .int),
  (⟨"PlayedTruth", "ends", "(I)I"⟩, prog_1_method_10_code, 3, some .int),
  (⟨"PlayedTruth", "anew", "()I"⟩, prog_1_method_11_code, 2, some .int),
  (⟨"PlayedTruth", "state", "(I)I"⟩, prog_1_method_12_code, 2, some .int),
  (⟨"PlayedTruth$Stage", "isOver", "(LPlayedTruth$Moment;)Z"⟩, prog_9_method_3_code, 2, some .boolean),
  (⟨"PlayedTruth$Stage", "houseOf", "(I)I"⟩, prog_9_method_5_code, 2, some .int),
  (⟨"PlayedTruth$Stage", "truthOfAll", "(LPlayedTruth$Moment;)I"⟩, prog_9_method_12_code, 4, some .int),
  (⟨"PlayedTruth", "feed", "(JI)I"⟩, prog_1_method_13_code, 4, some .int),
  (⟨"PlayedTruth$RuleReader", "hasRoomFor", "(I)Z"⟩, prog_7_method_2_code, 2, some .boolean),
  (⟨"PlayedTruth$RuleReader", "take", "(JI)V"⟩, prog_7_method_3_code, 5, none),
  (⟨"PlayedTruth", "rules", "()I"⟩, prog_1_method_14_code, 2, some .int),
  (⟨"PlayedTruth$RuleReader", "readAndUseUp", "()Z"⟩, prog_7_method_4_code, 3, some .boolean),
  (⟨"PlayedTruth$RuleReader", "split", "()V"⟩, prog_7_method_5_code, 4, none),
  (⟨"PlayedTruth$RuleReader", "endOfToken", "(I)I"⟩, prog_7_method_6_code, 3, some .int),
  (⟨"PlayedTruth$RuleReader", "isLetter", "(I)Z"⟩, prog_7_method_21_code, 1, some .boolean),
  (⟨"PlayedTruth$RuleReader", "isDigit", "(I)Z"⟩, prog_7_method_22_code, 1, some .boolean),
  (⟨"PlayedTruth$RuleReader", "tokenOf", "(II)I"⟩, prog_7_method_7_code, 3, some .int),
  (⟨"PlayedTruth$RuleReader", "wordOf", "(II)I"⟩, prog_7_method_9_code, 6, some .int),
  (⟨"java/lang/String", "length", "()I"⟩, prog_15_method_54_code, 1, some .int),
  (⟨"java/lang/String", "coder", "()B"⟩, prog_15_method_152_code, 1, some .byte),
  (⟨"java/lang/String", "charAt", "(I)C"⟩, prog_15_method_56_code, 2, some .char),
  (⟨"java/lang/String", "isLatin1", "()Z"⟩, prog_15_method_154_code, 1, some .boolean),
  (⟨"java/lang/StringLatin1", "charAt", "([BI)C"⟩, prog_16_method_2_code, 2, some .char),
  (⟨"java/lang/String", "checkIndex", "(II)V"⟩, prog_15_method_155_code, 2, none),
  (⟨"jdk/internal/util/Preconditions", "checkIndex", "(IILjava/util/function/BiFunction;)I"⟩, prog_19_method_11_code, 3, some .int),
  (⟨"java/lang/StringUTF16", "charAt", "([BI)C"⟩, prog_17_method_83_code, 2, some .char),
  (⟨"java/lang/StringUTF16", "checkIndex", "(I[B)V"⟩, prog_17_method_91_code, 2, none),
  (⟨"java/lang/StringUTF16", "length", "([B)I"⟩, prog_17_method_6_code, 1, some .int),
  (⟨"java/lang/StringUTF16", "getChar", "([BI)C"⟩, prog_17_method_5_code, 2, some .char),
  (⟨"PlayedTruth$RuleReader", "isSpelt", "(IIII)Z"⟩, prog_7_method_10_code, 6, some .boolean),
  (⟨"PlayedTruth$RuleReader", "numberOf", "(II)I"⟩, prog_7_method_8_code, 5, some .int),
  (⟨"PlayedTruth$Rules", "clear", "()V"⟩, prog_8_method_2_code, 1, none),
  (⟨"PlayedTruth$RuleReader", "readRule", "()Z"⟩, prog_7_method_13_code, 3, some .boolean),
  (⟨"PlayedTruth$RuleReader", "refuse", "()Z"⟩, prog_7_method_12_code, 1, some .boolean),
  (⟨"PlayedTruth$RuleReader", "advance", "()V"⟩, prog_7_method_11_code, 1, none),
  (⟨"PlayedTruth$RuleReader", "readCondition", "(I)Z"⟩, prog_7_method_14_code, 3, some .boolean),
  (⟨"PlayedTruth$RuleReader", "readAll", "(I)Z"⟩, prog_7_method_15_code, 3, some .boolean),
  (⟨"PlayedTruth$RuleReader", "readOne", "(I)Z"⟩, prog_7_method_16_code, 4, some .boolean),
  (⟨"PlayedTruth$RuleReader", "readBracket", "(I)Z"⟩, prog_7_method_17_code, 2, some .boolean),
  (⟨"PlayedTruth$RuleReader", "readComparison", "()Z"⟩, prog_7_method_18_code, 3, some .boolean),
  (⟨"PlayedTruth$RuleReader", "isValue", "()Z"⟩, prog_7_method_19_code, 1, some .boolean),
  (⟨"PlayedTruth$RuleReader", "toldValue", "()I"⟩, prog_7_method_20_code, 1, some .int),
  (⟨"PlayedTruth$Rules", "addStep", "(I)V"⟩, prog_8_method_4_code, 2, none),
  (⟨"PlayedTruth$Rules", "addRule", "(II)V"⟩, prog_8_method_5_code, 3, none),
  (⟨"PlayedTruth$Rules", "copyFrom", "(LPlayedTruth$Rules;)V"⟩, prog_8_method_3_code, 2, none),
  (⟨"PlayedTruth", "night", "()I"⟩, prog_1_method_15_code, 1, some .int),
  (⟨"PlayedTruth$Stage", "actOfRest", "(LPlayedTruth$Moment;)I"⟩, prog_9_method_16_code, 3, some .int),
  (⟨"PlayedTruth$Stage", "goBy", "(LPlayedTruth$Moment;I)I"⟩, prog_9_method_17_code, 6, some .int),
  (⟨"PlayedTruth$Stage", "mend", "(LPlayedTruth$Moment;I)I"⟩, prog_9_method_18_code, 4, some .int),
  (⟨"java/lang/Math", "min", "(II)I"⟩, prog_14_method_69_code, 2, some .int),
  (⟨"PlayedTruth$Stage", "trim", "(LPlayedTruth$Moment;I)I"⟩, prog_9_method_19_code, 3, some .int),
  (⟨"PlayedTruth", "on", "(I)I"⟩, prog_1_method_16_code, 2, some .int),
  (⟨"PlayedTruth$Ahead", "worthOfRest", "(I)I"⟩, prog_3_method_3_code, 4, some .int),
  (⟨"PlayedTruth$Ahead", "fromNow", "()LPlayedTruth$Moment;"⟩, prog_3_method_2_code, 1, some (.object "PlayedTruth$Moment")),
  (⟨"PlayedTruth$Moment", "copyFrom", "(LPlayedTruth$Moment;)V"⟩, prog_6_method_2_code, 2, none),
  (⟨"PlayedTruth", "when", "(I)I"⟩, prog_1_method_17_code, 2, some .int),
  (⟨"PlayedTruth$Ahead", "settlingNight", "(I)I"⟩, prog_3_method_4_code, 4, some .int),
  (⟨"PlayedTruth", "prettyFor", "(I)I"⟩, prog_1_method_18_code, 2, some .int),
  (⟨"PlayedTruth", "bestSetting", "([III)I"⟩, prog_1_method_20_code, 9, some .int),
  (⟨"PlayedTruth", "placeFor", "(I)I"⟩, prog_1_method_19_code, 2, some .int),
  (⟨"PlayedTruth", "truth", "(I)I"⟩, prog_1_method_21_code, 2, some .int),
  (⟨"PlayedTruth$Ahead", "trueNight", "(I)I"⟩, prog_3_method_5_code, 4, some .int),
  (⟨"PlayedTruth", "props", "(I)I"⟩, prog_1_method_22_code, 5, some .int),
  (⟨"PlayedTruth$Stage", "scenesIn", "(I)I"⟩, prog_9_method_7_code, 4, some .int),
  (⟨"PlayedTruth", "strands", "(I)I"⟩, prog_1_method_23_code, 2, some .int),
  (⟨"PlayedTruth", "countStrands", "()I"⟩, prog_1_method_24_code, 4, some .int),
  (⟨"PlayedTruth", "strandOf", "(I)I"⟩, prog_1_method_25_code, 4, some .int),
  (⟨"PlayedTruth", "closeToAny", "(I)I"⟩, prog_1_method_26_code, 5, some .int),
  (⟨"PlayedTruth$Stage", "areClose", "(LPlayedTruth$Moment;II)Z"⟩, prog_9_method_13_code, 4, some .boolean),
  (⟨"java/lang/Math", "abs", "(I)I"⟩, prog_14_method_59_code, 1, some .int),
  (⟨"PlayedTruth", "billing", "(I)I"⟩, prog_1_method_27_code, 6, some .int),
  (⟨"java/lang/Integer", "bitCount", "(I)I"⟩, prog_13_method_49_code, 1, some .int),
  (⟨"PlayedTruth$Stage", "drawnBy", "(LPlayedTruth$Moment;I)I"⟩, prog_9_method_11_code, 5, some .int),
  (⟨"PlayedTruth", "best", "(I)I"⟩, prog_1_method_28_code, 2, some .int),
  (⟨"PlayedTruth", "isPlanned", "(I)Z"⟩, prog_1_method_60_code, 1, some .boolean),
  (⟨"PlayedTruth$Ahead", "weighPlans", "(II)V"⟩, prog_3_method_9_code, 3, none),
  (⟨"PlayedTruth$Ahead", "nightsOf", "(I)I"⟩, prog_3_method_8_code, 2, some .int),
  (⟨"PlayedTruth$Ahead", "goThroughPlans", "(II)V"⟩, prog_3_method_10_code, 5, none),
  (⟨"PlayedTruth$Ahead", "weighPlan", "(LPlayedTruth$Moment;I)V"⟩, prog_3_method_11_code, 4, none),
  (⟨"PlayedTruth", "ith", "(II)I"⟩, prog_1_method_29_code, 3, some .int),
  (⟨"PlayedTruth", "ways", "(I)I"⟩, prog_1_method_30_code, 2, some .int),
  (⟨"PlayedTruth", "bill", "(II)I"⟩, prog_1_method_31_code, 3, some .int),
  (⟨"PlayedTruth", "isSetOfScenes", "(I)Z"⟩, prog_1_method_62_code, 2, some .boolean),
  (⟨"PlayedTruth", "bars", "(II)I"⟩, prog_1_method_32_code, 3, some .int),
  (⟨"PlayedTruth", "leastOf", "(I)I"⟩, prog_1_method_65_code, 2, some .int),
  (⟨"PlayedTruth", "game", "(I)I"⟩, prog_1_method_33_code, 2, some .int),
  (⟨"PlayedTruth$Ahead", "playGame", "(I)I"⟩, prog_3_method_12_code, 2, some .int),
  (⟨"PlayedTruth$Ahead", "valueOfGame", "(I)I"⟩, prog_3_method_13_code, 7, some .int),
  (⟨"PlayedTruth", "play", "(I)I"⟩, prog_1_method_34_code, 2, some .int),
  (⟨"PlayedTruth", "report", "(IIII)I"⟩, prog_1_method_35_code, 6, some .int),
  (⟨"PlayedTruth$Strangers", "add", "(IIII)I"⟩, prog_10_method_3_code, 5, some .int),
  (⟨"PlayedTruth", "forget", "()I"⟩, prog_1_method_36_code, 2, some .int),
  (⟨"PlayedTruth", "lone", "(I)I"⟩, prog_1_method_37_code, 2, some .int),
  (⟨"PlayedTruth$Strangers", "lookForFits", "(LPlayedTruth$Stage;)V"⟩, prog_10_method_4_code, 7, none),
  (⟨"PlayedTruth$Strangers", "lastNight", "()I"⟩, prog_10_method_6_code, 3, some .int),
  (⟨"PlayedTruth$Strangers", "missedBy", "(LPlayedTruth$Stage;IIII)I"⟩, prog_10_method_7_code, 10, some .int),
  (⟨"PlayedTruth$Strangers", "missedBehind", "(III)I"⟩, prog_10_method_8_code, 7, some .int),
  (⟨"PlayedTruth$Strangers", "countFit", "(III)V"⟩, prog_10_method_5_code, 4, none),
  (⟨"PlayedTruth", "liar", "()I"⟩, prog_1_method_38_code, 1, some .int),
  (⟨"PlayedTruth", "seed", "(I)I"⟩, prog_1_method_39_code, 3, some .int),
  (⟨"PlayedTruth", "lot", "()I"⟩, prog_1_method_40_code, 1, some .int),
  (⟨"PlayedTruth$Stage", "goByLot", "(LPlayedTruth$Moment;)I"⟩, prog_9_method_20_code, 2, some .int),
  (⟨"PlayedTruth", "times", "(II)I"⟩, prog_1_method_41_code, 3, some .int),
  (⟨"PlayedTruth$Ahead", "timesByLot", "(II)I"⟩, prog_3_method_6_code, 8, some .int),
  (⟨"PlayedTruth", "prove", "(I)I"⟩, prog_1_method_42_code, 2, some .int),
  (⟨"PlayedTruth$Ahead", "writeRows", "([I)V"⟩, prog_3_method_14_code, 4, none),
  (⟨"PlayedTruth", "row", "(II)I"⟩, prog_1_method_43_code, 3, some .int),
  (⟨"PlayedTruth", "isInRow", "(II)Z"⟩, prog_1_method_63_code, 3, some .boolean),
  (⟨"PlayedTruth", "alterRow", "(III)I"⟩, prog_1_method_44_code, 4, some .int),
  (⟨"PlayedTruth", "judge", "()I"⟩, prog_1_method_45_code, 1, some .int),
  (⟨"PlayedTruth$Ahead", "firstWrongRow", "([II)I"⟩, prog_3_method_15_code, 7, some .int),
  (⟨"PlayedTruth$Stage", "isAct", "(I)Z"⟩, prog_9_method_4_code, 2, some .boolean),
  (⟨"PlayedTruth", "sheet", "(III)I"⟩, prog_1_method_46_code, 4, some .int),
  (⟨"PlayedTruth$Host", "isSheet", "(I)Z"⟩, prog_4_method_2_code, 1, some .boolean),
  (⟨"PlayedTruth$Host", "makeSheet", "(III)I"⟩, prog_4_method_5_code, 5, some .int),
  (⟨"PlayedTruth", "write", "(III)I"⟩, prog_1_method_47_code, 4, some .int),
  (⟨"PlayedTruth$Host", "isItem", "(II)Z"⟩, prog_4_method_4_code, 3, some .boolean),
  (⟨"PlayedTruth$Host", "narrowed", "(II)I"⟩, prog_4_method_7_code, 2, some .int),
  (⟨"PlayedTruth", "item", "(III)I"⟩, prog_1_method_48_code, 5, some .int),
  (⟨"PlayedTruth$Host", "refusalOf", "(II)I"⟩, prog_4_method_6_code, 3, some .int),
  (⟨"PlayedTruth", "goAll", "(III)I"⟩, prog_1_method_49_code, 8, some .int),
  (⟨"PlayedTruth", "wouldBe", "(III)I"⟩, prog_1_method_50_code, 5, some .int),
  (⟨"PlayedTruth$Ahead", "worthOfItems", "(LPlayedTruth$Host;III)I"⟩, prog_3_method_7_code, 8, some .int),
  (⟨"PlayedTruth", "shelf", "(III)I"⟩, prog_1_method_51_code, 4, some .int),
  (⟨"PlayedTruth$Host", "isShelf", "(I)Z"⟩, prog_4_method_3_code, 1, some .boolean),
  (⟨"PlayedTruth$Host", "hold", "(IIII)I"⟩, prog_4_method_8_code, 5, some .int),
  (⟨"PlayedTruth$Host", "holdRow", "(II)I"⟩, prog_4_method_9_code, 4, some .int),
  (⟨"PlayedTruth", "taken", "(II)I"⟩, prog_1_method_52_code, 5, some .int),
  (⟨"PlayedTruth", "isNothing", "(I)Z"⟩, prog_1_method_64_code, 3, some .boolean),
  (⟨"PlayedTruth", "act", "(III)I"⟩, prog_1_method_53_code, 5, some .int),
  (⟨"PlayedTruth$Acting", "forgetBodies", "()V"⟩, prog_2_method_2_code, 1, none),
  (⟨"PlayedTruth$Acting", "perform", "(IIIII)I"⟩, prog_2_method_3_code, 7, some .int),
  (⟨"PlayedTruth$Acting", "does", "(III)I"⟩, prog_2_method_4_code, 4, some .int),
  (⟨"PlayedTruth$Acting", "run", "(III)I"⟩, prog_2_method_5_code, 5, some .int),
  (⟨"PlayedTruth$Acting", "part", "(II)I"⟩, prog_2_method_6_code, 3, some .int),
  (⟨"PlayedTruth", "trace", "(I)I"⟩, prog_1_method_54_code, 2, some .int),
  (⟨"PlayedTruth", "many", "(I)I"⟩, prog_1_method_55_code, 2, some .int),
  (⟨"PlayedTruth", "keep", "()I"⟩, prog_1_method_56_code, 1, some .int),
  (⟨"PlayedTruth$Stage", "copyFrom", "(LPlayedTruth$Stage;)V"⟩, prog_9_method_2_code, 2, none),
  (⟨"PlayedTruth$Strangers", "copyFrom", "(LPlayedTruth$Strangers;)V"⟩, prog_10_method_2_code, 2, none),
  (⟨"PlayedTruth", "again", "()I"⟩, prog_1_method_57_code, 1, some .int),
  (⟨"PlayedTruthModel", "<init>", "()V"⟩, prog_12_method_1_code, 2, none),
  (⟨"PlayedTruthModel", "scene", "(IIII)I"⟩, prog_12_method_34_code, 6, some .int),
  (⟨"PlayedTruthModel", "in", "(JJJ)Z"⟩, prog_12_method_3_code, 6, some .boolean),
  (⟨"PlayedTruthModel", "sets", "(III)V"⟩, prog_12_method_9_code, 4, none),
  (⟨"PlayedTruthModel", "sceneOf", "(II)I"⟩, prog_12_method_35_code, 3, some .int),
  (⟨"PlayedTruthModel", "isScene", "(I)Z"⟩, prog_12_method_7_code, 2, some .boolean),
  (⟨"PlayedTruthModel", "learns", "(I)I"⟩, prog_12_method_21_code, 2, some .int),
  (⟨"PlayedTruthModel", "of", "(II)I"⟩, prog_12_method_8_code, 3, some .int),
  (⟨"PlayedTruthModel", "rail", "()I"⟩, prog_12_method_16_code, 1, some .int),
  (⟨"PlayedTruthModel", "houseOf", "(I)I"⟩, prog_12_method_15_code, 2, some .int),
  (⟨"PlayedTruthModel", "learnsBy", "(IIII)I"⟩, prog_12_method_18_code, 5, some .int),
  (⟨"PlayedTruthModel", "held", "(III)I"⟩, prog_12_method_4_code, 3, some .int),
  (⟨"PlayedTruthModel", "leans", "(I)I"⟩, prog_12_method_20_code, 4, some .int),
  (⟨"PlayedTruthModel", "draws", "(I)I"⟩, prog_12_method_22_code, 2, some .int),
  (⟨"PlayedTruthModel", "drawsBy", "(IIII)I"⟩, prog_12_method_19_code, 5, some .int),
  (⟨"PlayedTruthModel", "isMendable", "(I)Z"⟩, prog_12_method_27_code, 2, some .boolean),
  (⟨"PlayedTruthModel", "will", "(I)I"⟩, prog_12_method_26_code, 4, some .int),
  (⟨"PlayedTruthModel", "above", "(I)I"⟩, prog_12_method_17_code, 1, some .int),
  (⟨"PlayedTruthModel", "holds", "(III)Z"⟩, prog_12_method_25_code, 7, some .boolean),
  (⟨"PlayedTruthModel", "factOf", "(II)I"⟩, prog_12_method_23_code, 3, some .int),
  (⟨"PlayedTruthModel", "done", "(III)I"⟩, prog_12_method_24_code, 3, some .int),
  (⟨"PlayedTruthModel", "change", "(III)I"⟩, prog_12_method_36_code, 5, some .int),
  (⟨"PlayedTruthModel", "becomes", "(II)I"⟩, prog_12_method_10_code, 4, some .int),
  (⟨"PlayedTruthModel", "remake", "(II)I"⟩, prog_12_method_37_code, 3, some .int),
  (⟨"PlayedTruthModel", "house", "(II)I"⟩, prog_12_method_38_code, 3, some .int),
  (⟨"PlayedTruthModel", "place", "(III)I"⟩, prog_12_method_39_code, 4, some .int),
  (⟨"PlayedTruthModel", "placeOf", "(II)I"⟩, prog_12_method_40_code, 3, some .int),
  (⟨"PlayedTruthModel", "ends", "(I)I"⟩, prog_12_method_41_code, 2, some .int),
  (⟨"PlayedTruthModel", "anew", "()I"⟩, prog_12_method_42_code, 2, some .int),
  (⟨"PlayedTruthModel", "state", "(I)I"⟩, prog_12_method_43_code, 2, some .int),
  (⟨"PlayedTruthModel", "isOver", "()Z"⟩, prog_12_method_14_code, 1, some .boolean),
  (⟨"PlayedTruthModel", "settled", "()I"⟩, prog_12_method_28_code, 3, some .int),
  (⟨"PlayedTruthModel", "truthAll", "()I"⟩, prog_12_method_29_code, 3, some .int),
  (⟨"PlayedTruthModel", "feed", "(JI)I"⟩, prog_12_method_44_code, 5, some .int),
  (⟨"PlayedTruthModel", "rules", "()I"⟩, prog_12_method_59_code, 2, some .int),
  (⟨"PlayedTruthModel", "next", "()V"⟩, prog_12_method_46_code, 1, none),
  (⟨"PlayedTruthModel", "isRow", "(CC)Z"⟩, prog_12_method_45_code, 3, some .boolean),
  (⟨"PlayedTruthModel", "ruleHere", "()V"⟩, prog_12_method_58_code, 4, none),
  (⟨"PlayedTruthModel", "kindHere", "()I"⟩, prog_12_method_50_code, 1, some .int),
  (⟨"PlayedTruthModel", "isWord", "(J)Z"⟩, prog_12_method_47_code, 3, some .boolean),
  (⟨"PlayedTruthModel", "goesBy", "(Z)V"⟩, prog_12_method_53_code, 2, none),
  (⟨"PlayedTruthModel", "either", "()V"⟩, prog_12_method_57_code, 1, none),
  (⟨"PlayedTruthModel", "both", "()V"⟩, prog_12_method_56_code, 1, none),
  (⟨"PlayedTruthModel", "one", "()V"⟩, prog_12_method_55_code, 3, none),
  (⟨"PlayedTruthModel", "isByte", "(C)Z"⟩, prog_12_method_48_code, 2, some .boolean),
  (⟨"PlayedTruthModel", "valueHere", "()V"⟩, prog_12_method_54_code, 3, none),
  (⟨"PlayedTruthModel", "factHere", "()I"⟩, prog_12_method_52_code, 1, some .int),
  (⟨"PlayedTruthModel", "lays", "(I)V"⟩, prog_12_method_49_code, 2, none),
  (⟨"PlayedTruthModel", "doHere", "()I"⟩, prog_12_method_51_code, 1, some .int),
  (⟨"PlayedTruthModel", "night", "()I"⟩, prog_12_method_60_code, 1, some .int),
  (⟨"PlayedTruthModel", "actOfRest", "()I"⟩, prog_12_method_32_code, 2, some .int),
  (⟨"PlayedTruthModel", "nightGoes", "(I)I"⟩, prog_12_method_31_code, 4, some .int),
  (⟨"PlayedTruthModel", "does", "(I)I"⟩, prog_12_method_30_code, 4, some .int),
  (⟨"PlayedTruthModel", "on", "(I)I"⟩, prog_12_method_61_code, 3, some .int),
  (⟨"PlayedTruthModel", "puts", "()V"⟩, prog_12_method_11_code, 2, none),
  (⟨"PlayedTruthModel", "restGoes", "(I)I"⟩, prog_12_method_33_code, 4, some .int),
  (⟨"PlayedTruthModel", "takes", "()V"⟩, prog_12_method_13_code, 1, none),
  (⟨"PlayedTruthModel", "back", "()V"⟩, prog_12_method_12_code, 2, none),
  (⟨"PlayedTruthModel", "when", "(I)I"⟩, prog_12_method_62_code, 3, some .int),
  (⟨"PlayedTruthModel", "prettyFor", "(I)I"⟩, prog_12_method_64_code, 2, some .int),
  (⟨"PlayedTruthModel", "bestOf", "(III)I"⟩, prog_12_method_63_code, 8, some .int),
  (⟨"PlayedTruthModel", "placeFor", "(I)I"⟩, prog_12_method_65_code, 2, some .int),
  (⟨"PlayedTruthModel", "truth", "(I)I"⟩, prog_12_method_66_code, 3, some .int),
  (⟨"PlayedTruthModel", "props", "(I)I"⟩, prog_12_method_68_code, 4, some .int),
  (⟨"PlayedTruthModel", "scenesAt", "(I)I"⟩, prog_12_method_67_code, 4, some .int),
  (⟨"PlayedTruthModel", "strands", "(I)I"⟩, prog_12_method_71_code, 5, some .int),
  (⟨"PlayedTruthModel", "strandOf", "(I)I"⟩, prog_12_method_70_code, 6, some .int),
  (⟨"PlayedTruthModel", "isClose", "(II)Z"⟩, prog_12_method_69_code, 3, some .boolean),
  (⟨"PlayedTruthModel", "size", "(I)I"⟩, prog_12_method_5_code, 1, some .int),
  (⟨"PlayedTruthModel", "billing", "(I)I"⟩, prog_12_method_72_code, 6, some .int),
  (⟨"PlayedTruthModel", "ones", "(I)I"⟩, prog_12_method_6_code, 3, some .int),
  (⟨"PlayedTruthModel", "best", "(I)I"⟩, prog_12_method_78_code, 2, some .int),
  (⟨"PlayedTruthModel", "isPlan", "(I)Z"⟩, prog_12_method_73_code, 1, some .boolean),
  (⟨"PlayedTruthModel", "findBest", "(I)V"⟩, prog_12_method_77_code, 7, none),
  (⟨"PlayedTruthModel", "longOf", "(I)I"⟩, prog_12_method_74_code, 2, some .int),
  (⟨"PlayedTruthModel", "plansOf", "(I)I"⟩, prog_12_method_75_code, 4, some .int),
  (⟨"PlayedTruthModel", "actsOf", "(II)V"⟩, prog_12_method_76_code, 5, none),
  (⟨"PlayedTruthModel", "ith", "(II)I"⟩, prog_12_method_79_code, 3, some .int),
  (⟨"PlayedTruthModel", "ways", "(I)I"⟩, prog_12_method_80_code, 2, some .int),
  (⟨"PlayedTruthModel", "bill", "(II)I"⟩, prog_12_method_83_code, 3, some .int),
  (⟨"PlayedTruthModel", "areScenes", "(I)Z"⟩, prog_12_method_81_code, 2, some .boolean),
  (⟨"PlayedTruthModel", "findBills", "(II)V"⟩, prog_12_method_82_code, 8, none),
  (⟨"PlayedTruthModel", "bars", "(II)I"⟩, prog_12_method_84_code, 4, some .int),
  (⟨"PlayedTruthModel", "game", "(I)I"⟩, prog_12_method_86_code, 2, some .int),
  (⟨"PlayedTruthModel", "valueOf", "(IZ)I"⟩, prog_12_method_85_code, 6, some .int),
  (⟨"PlayedTruthModel", "play", "(I)I"⟩, prog_12_method_87_code, 6, some .int),
  (⟨"PlayedTruthModel", "report", "(IIII)I"⟩, prog_12_method_88_code, 7, some .int),
  (⟨"PlayedTruthModel", "forget", "()I"⟩, prog_12_method_89_code, 1, some .int),
  (⟨"PlayedTruthModel", "lone", "(I)I"⟩, prog_12_method_92_code, 2, some .int),
  (⟨"PlayedTruthModel", "findLone", "(I)V"⟩, prog_12_method_91_code, 5, none),
  (⟨"PlayedTruthModel", "fitting", "(III)I"⟩, prog_12_method_90_code, 11, some .int),
  (⟨"PlayedTruthModel", "liar", "()I"⟩, prog_12_method_93_code, 2, some .int),
  (⟨"PlayedTruthModel", "seed", "(I)I"⟩, prog_12_method_94_code, 2, some .int),
  (⟨"PlayedTruthModel", "lot", "()I"⟩, prog_12_method_96_code, 1, some .int),
  (⟨"PlayedTruthModel", "lotGoes", "()I"⟩, prog_12_method_95_code, 1, some .int),
  (⟨"PlayedTruthModel", "times", "(II)I"⟩, prog_12_method_97_code, 7, some .int),
  (⟨"PlayedTruthModel", "prove", "(I)I"⟩, prog_12_method_98_code, 3, some .int),
  (⟨"PlayedTruthModel", "row", "(II)I"⟩, prog_12_method_99_code, 3, some .int),
  (⟨"PlayedTruthModel", "alterRow", "(III)I"⟩, prog_12_method_100_code, 5, some .int),
  (⟨"PlayedTruthModel", "judge", "()I"⟩, prog_12_method_101_code, 4, some .int),
  (⟨"PlayedTruthModel", "sheet", "(III)I"⟩, prog_12_method_103_code, 5, some .int),
  (⟨"PlayedTruthModel", "isSheet", "(I)Z"⟩, prog_12_method_102_code, 1, some .boolean),
  (⟨"PlayedTruthModel", "write", "(III)I"⟩, prog_12_method_104_code, 5, some .int),
  (⟨"PlayedTruthModel", "item", "(III)I"⟩, prog_12_method_105_code, 4, some .int),
  (⟨"PlayedTruthModel", "goAll", "(III)I"⟩, prog_12_method_107_code, 8, some .int),
  (⟨"PlayedTruthModel", "whyNoBytes", "(II)I"⟩, prog_12_method_106_code, 3, some .int),
  (⟨"PlayedTruthModel", "wouldBe", "(III)I"⟩, prog_12_method_108_code, 7, some .int),
  (⟨"PlayedTruthModel", "shelf", "(III)I"⟩, prog_12_method_109_code, 6, some .int),
  (⟨"PlayedTruthModel", "taken", "(II)I"⟩, prog_12_method_111_code, 4, some .int),
  (⟨"PlayedTruthModel", "holdsNothing", "(I)Z"⟩, prog_12_method_110_code, 2, some .boolean),
  (⟨"PlayedTruthModel", "act", "(III)I"⟩, prog_12_method_117_code, 6, some .int),
  (⟨"PlayedTruthModel", "entersBy", "(II)I"⟩, prog_12_method_113_code, 3, some .int),
  (⟨"PlayedTruthModel", "ran", "(I)V"⟩, prog_12_method_112_code, 2, none),
  (⟨"PlayedTruthModel", "speaksBy", "(II)I"⟩, prog_12_method_114_code, 3, some .int),
  (⟨"PlayedTruthModel", "halvesBy", "(II)I"⟩, prog_12_method_115_code, 4, some .int),
  (⟨"PlayedTruthModel", "exitsBy", "(II)I"⟩, prog_12_method_116_code, 4, some .int),
  (⟨"PlayedTruthModel", "trace", "(I)I"⟩, prog_12_method_118_code, 2, some .int),
  (⟨"PlayedTruthModel", "many", "(I)I"⟩, prog_12_method_119_code, 2, some .int),
  (⟨"PlayedTruthModel", "keep", "()I"⟩, prog_12_method_120_code, 2, some .int),
  (⟨"PlayedTruthModel", "again", "()I"⟩, prog_12_method_121_code, 2, some .int),
  (⟨"PlayedTruthLaw", "law", "([I)Z"⟩, code, 4, some .boolean)]
def mth (i : Nat) : MethodName × ByteArray × Nat × Option FieldType := mthL.getD i (⟨"", "", ""⟩, ⟨#[]⟩, 0, none)
/-- a method's sort (0 static, 1 virtual, 2 neither); its parameters -/
def mwL : List (Nat × Nat) := [(2, 0), (2, 0), (2, 0), (2, 0), (2, 0), (2, 0), (2, 0), (2, 2), (2, 0), (2, 0), (1, 4), (0, 3), (0, 1), (1, 2), (1, 1), (1, 1), (1, 2), (1, 1), (0, 4), (0, 2), (1, 2), (1, 2), (0, 4), (1, 2), (1, 2), (1, 2), (0, 2), (1, 3), (1, 3), (0, 3), (1, 2), (1, 2), (1, 2), (1, 3), (1, 2), (1, 1), (1, 0), (1, 1), (1, 1), (1, 1), (1, 1), (1, 2), (1, 1), (1, 2), (1, 0), (1, 0), (1, 0), (1, 1), (0, 1), (0, 1), (1, 2), (1, 2), (1, 0), (1, 0), (1, 1), (1, 0), (0, 2), (0, 2), (0, 3), (0, 2), (0, 2), (0, 1), (0, 2), (1, 4), (1, 2), (1, 0), (1, 0), (1, 0), (1, 0), (1, 1), (1, 1), (1, 1), (1, 1), (1, 0), (1, 0), (1, 0), (1, 1), (1, 2), (1, 1), (1, 0), (1, 1), (1, 2), (1, 2), (0, 2), (1, 2), (1, 1), (1, 1), (1, 0), (1, 1), (1, 1), (1, 1), (1, 1), (1, 3), (1, 1), (1, 1), (1, 1), (1, 1), (1, 1), (1, 1), (1, 0), (1, 1), (1, 1), (1, 3), (0, 1), (1, 1), (0, 1), (1, 2), (1, 1), (0, 1), (1, 2), (1, 1), (1, 2), (1, 2), (1, 2), (1, 1), (1, 2), (1, 1), (1, 2), (0, 1), (1, 1), (1, 1), (1, 1), (1, 1), (1, 4), (1, 4), (1, 0), (1, 1), (1, 1), (1, 0), (1, 5), (1, 3), (1, 3), (1, 0), (1, 1), (1, 0), (1, 1), (1, 2), (1, 2), (1, 1), (1, 1), (1, 2), (1, 2), (1, 3), (1, 0), (1, 2), (1, 1), (1, 3), (0, 1), (1, 3), (1, 3), (1, 2), (0, 2), (1, 3), (1, 2), (1, 3), (1, 3), (1, 4), (1, 3), (0, 1), (1, 4), (1, 2), (1, 2), (1, 1), (1, 3), (1, 0), (1, 5), (1, 3), (1, 3), (1, 2), (1, 1), (1, 1), (1, 0), (1, 1), (1, 1), (1, 0), (2, 0), (1, 4), (0, 3), (1, 3), (1, 2), (1, 1), (1, 1), (1, 2), (1, 0), (1, 1), (0, 4), (0, 3), (1, 1), (1, 1), (0, 4), (1, 1), (1, 1), (0, 1), (1, 3), (1, 2), (0, 3), (1, 3), (1, 2), (1, 2), (1, 2), (1, 3), (1, 2), (1, 1), (1, 0), (1, 1), (1, 0), (1, 0), (1, 0), (1, 2), (1, 0), (1, 0), (1, 2), (1, 0), (1, 0), (1, 1), (1, 1), (1, 0), (1, 0), (1, 0), (1, 1), (1, 0), (1, 0), (1, 1), (1, 0), (1, 0), (1, 0), (1, 1), (1, 1), (1, 1), (1, 0), (1, 1), (1, 0), (1, 0), (1, 1), (1, 1), (1, 3), (1, 1), (1, 1), (1, 1), (1, 1), (1, 1), (1, 1), (1, 2), (0, 1), (1, 1), (0, 1), (1, 1), (0, 1), (1, 1), (1, 1), (1, 1), (1, 2), (1, 2), (1, 1), (1, 2), (1, 1), (1, 2), (1, 2), (1, 1), (1, 2), (1, 1), (1, 4), (1, 0), (1, 1), (1, 1), (1, 3), (1, 0), (1, 1), (1, 0), (1, 0), (1, 2), (1, 1), (1, 2), (1, 3), (1, 0), (1, 3), (0, 1), (1, 3), (1, 3), (1, 3), (1, 2), (1, 3), (1, 3), (1, 2), (1, 1), (1, 3), (1, 2), (1, 1), (1, 2), (1, 2), (1, 2), (1, 1), (1, 1), (1, 0), (1, 0)]
def mw (i : Nat) : Nat × Nat := mwL.getD i (9, 0)
def wordsTx : String := "scene trial duet sunset crowd match mend keep trim if not and or night truth pretty rail number "
def wordsB : List Int32 := [115, 99, 101, 110, 101, 32, 116, 114, 105, 97, 108, 32, 100, 117, 101, 116, 32, 115, 117, 110, 115, 101, 116, 32, 99, 114, 111, 119, 100, 32, 109, 97, 116, 99, 104, 32, 109, 101, 110, 100, 32, 107, 101, 101, 112, 32, 116, 114, 105, 109, 32, 105, 102, 32, 110, 111, 116, 32, 97, 110, 100, 32, 111, 114, 32, 110, 105, 103, 104, 116, 32, 116, 114, 117, 116, 104, 32, 112, 114, 101, 116, 116, 121, 32, 114, 97, 105, 108, 32, 110, 117, 109, 98, 101, 114, 32]
def bodyOfL : List Int32 := [10, 11, 12, 13, 20, 11, 12, 13, 10, 30, 12, 13, 50, 30, 12, 51, 10, 11, 40, 13, 10, 60, 61, 13]
def bodyOf (j : Nat) : Int32 := bodyOfL.getD j 0
