/-! tables of the program: classes, methods, links, cells (written by wip/whole/mk02.py) -/
def sd_R : Nat → String := fun k => match k with
  | 0 => "SwornDays$Country"
  | 1 => "SwornDays$CountryReader"
  | 2 => "SwornDays$Judge"
  | 3 => "SwornDays$Past"
  | 4 => "SwornDays$Search"
  | 5 => "SwornDays$State"
  | 6 => "SwornDays$Tape"
  | 7 => "SwornDays$TasteReader"
  | 8 => "SwornDays$Tastes"
  | 9 => "SwornDays$Told"
  | 10 => "SwornDays"
  | 11 => "SwornDaysModel"
  | 12 => "SwornDaysLaw"
  | 13 => "java/lang/Integer"
  | 14 => "java/lang/Math"
  | 15 => "java/lang/String"
  | 16 => "java/lang/StringLatin1"
  | 17 => "java/lang/StringUTF16"
  | 18 => "jdk/internal/util/Preconditions"
  | 19 => "java/lang/System"
  | 20 => "java/lang/Object"
  | 21 => "java/lang/Character"
  | _ => ""
def sd_T0 : u_T := fun k => match k with
  | 0 => ("SwornDays$Country", "persons", "I", false)
  | 1 => ("SwornDays$Country", "wants", "[I", true)
  | 2 => ("SwornDays$Country", "joys", "[I", true)
  | 3 => ("SwornDays$Country", "harms", "[I", true)
  | 4 => ("SwornDays$Country", "eyes", "[I", true)
  | 5 => ("SwornDays$Country", "eyeTotal", "I", false)
  | _ => ("SwornDays$Country", "now", "LSwornDays$State;", true)
def sd_y0 : Nat → FieldType := fun k => match k with
  | 0 => .int
  | 1 => .array .int
  | 2 => .array .int
  | 3 => .array .int
  | 4 => .array .int
  | 5 => .int
  | _ => .object "SwornDays$State"
def sd_T1 : u_T := fun k => match k with
  | 0 => ("SwornDays$CountryReader", "tape", "LSwornDays$Tape;", true)
  | 1 => ("SwornDays$CountryReader", "values", "[I", true)
  | _ => ("SwornDays$CountryReader", "clauses", "[I", true)
def sd_y1 : Nat → FieldType := fun k => match k with
  | 0 => .object "SwornDays$Tape"
  | 1 => .array .int
  | _ => .array .int
def sd_T2 : u_T := fun k => match k with
  | 0 => ("SwornDays$Judge", "deeds", "[I", true)
  | 1 => ("SwornDays$Judge", "fates", "[I", true)
  | 2 => ("SwornDays$Judge", "places", "[I", true)
  | 3 => ("SwornDays$Judge", "tallies", "[I", true)
  | _ => ("SwornDays$Judge", "x", "J", false)
def sd_y2 : Nat → FieldType := fun k => match k with
  | 0 => .array .int
  | 1 => .array .int
  | 2 => .array .int
  | 3 => .array .int
  | _ => .long
def sd_T3 : u_T := fun k => match k with
  | 0 => ("SwornDays$Past", "states", "[LSwornDays$State;", true)
  | 1 => ("SwornDays$Past", "next", "I", false)
  | _ => ("SwornDays$Past", "total", "I", false)
def sd_y3 : Nat → FieldType := fun k => match k with
  | 0 => .array (.object "SwornDays$State")
  | 1 => .int
  | _ => .int
def sd_T4 : u_T := fun k => match k with
  | 0 => ("SwornDays$Search", "vows", "[I", true)
  | 1 => ("SwornDays$Search", "bits", "[I", true)
  | 2 => ("SwornDays$Search", "vowTotal", "I", false)
  | 3 => ("SwornDays$Search", "harms", "[I", true)
  | 4 => ("SwornDays$Search", "worths", "[I", true)
  | 5 => ("SwornDays$Search", "done", "[I", true)
  | 6 => ("SwornDays$Search", "size", "I", false)
  | 7 => ("SwornDays$Search", "leastHarm", "I", false)
  | 8 => ("SwornDays$Search", "wanted", "I", false)
  | 9 => ("SwornDays$Search", "striking", "Z", false)
  | 10 => ("SwornDays$Search", "ended", "Z", false)
  | 11 => ("SwornDays$Search", "leastBits", "I", false)
  | 12 => ("SwornDays$Search", "found", "I", false)
  | 13 => ("SwornDays$Search", "wantedRow", "I", false)
  | 14 => ("SwornDays$Search", "bestRow", "I", false)
  | _ => ("SwornDays$Search", "bestJoy", "I", false)
def sd_y4 : Nat → FieldType := fun k => match k with
  | 0 => .array .int
  | 1 => .array .int
  | 2 => .int
  | 3 => .array .int
  | 4 => .array .int
  | 5 => .array .int
  | 6 => .int
  | 7 => .int
  | 8 => .int
  | 9 => .boolean
  | 10 => .boolean
  | 11 => .int
  | 12 => .int
  | 13 => .int
  | 14 => .int
  | _ => .int
def sd_T5 : u_T := fun k => match k with
  | 0 => ("SwornDays$State", "deeds", "[I", true)
  | 1 => ("SwornDays$State", "sizes", "[I", true)
  | 2 => ("SwornDays$State", "slips", "[I", true)
  | 3 => ("SwornDays$State", "vows", "[I", true)
  | 4 => ("SwornDays$State", "sworn", "I", false)
  | _ => ("SwornDays$State", "day", "I", false)
def sd_y5 : Nat → FieldType := fun k => match k with
  | 0 => .array .int
  | 1 => .array .int
  | 2 => .array .int
  | 3 => .array .int
  | 4 => .int
  | _ => .int
def sd_T6 : u_T := fun k => match k with
  | 0 => ("SwornDays$Tape", "bytes", "[I", true)
  | 1 => ("SwornDays$Tape", "size", "I", false)
  | _ => ("SwornDays$Tape", "at", "I", false)
def sd_y6 : Nat → FieldType := fun k => match k with
  | 0 => .array .int
  | 1 => .int
  | _ => .int
def sd_T7 : u_T := fun k => match k with
  | 0 => ("SwornDays$TasteReader", "tape", "LSwornDays$Tape;", true)
  | _ => ("SwornDays$TasteReader", "tastes", "LSwornDays$Tastes;", true)
def sd_y7 : Nat → FieldType := fun k => match k with
  | 0 => .object "SwornDays$Tape"
  | _ => .object "SwornDays$Tastes"
def sd_T8 : u_T := fun k => match k with
  | 0 => ("SwornDays$Tastes", "steps", "[[I", true)
  | 1 => ("SwornDays$Tastes", "sizes", "[I", true)
  | 2 => ("SwornDays$Tastes", "total", "I", false)
  | 3 => ("SwornDays$Tastes", "holding", "I", false)
  | 4 => ("SwornDays$Tastes", "letters", "[I", true)
  | 5 => ("SwornDays$Tastes", "stack", "[I", true)
  | 6 => ("SwornDays$Tastes", "top", "I", false)
  | _ => ("SwornDays$Tastes", "done", "[I", true)
def sd_y8 : Nat → FieldType := fun k => match k with
  | 0 => .array (.array .int)
  | 1 => .array .int
  | 2 => .int
  | 3 => .int
  | 4 => .array .int
  | 5 => .array .int
  | 6 => .int
  | _ => .array .int
def sd_T9 : u_T := fun k => match k with
  | 0 => ("SwornDays$Told", "deeds", "[I", true)
  | 1 => ("SwornDays$Told", "sizes", "[I", true)
  | 2 => ("SwornDays$Told", "total", "I", false)
  | 3 => ("SwornDays$Told", "seenPersons", "[I", true)
  | 4 => ("SwornDays$Told", "seenRows", "[I", true)
  | 5 => ("SwornDays$Told", "seenTotal", "I", false)
  | 6 => ("SwornDays$Told", "numbers", "[I", true)
  | 7 => ("SwornDays$Told", "promises", "I", false)
  | _ => ("SwornDays$Told", "vow", "[I", true)
def sd_y9 : Nat → FieldType := fun k => match k with
  | 0 => .array .int
  | 1 => .array .int
  | 2 => .int
  | 3 => .array .int
  | 4 => .array .int
  | 5 => .int
  | 6 => .array .int
  | 7 => .int
  | _ => .array .int
def sd_T10 : u_T := fun k => match k with
  | 0 => ("SwornDays", "tape", "LSwornDays$Tape;", true)
  | 1 => ("SwornDays", "countryReader", "LSwornDays$CountryReader;", true)
  | 2 => ("SwornDays", "tastes", "LSwornDays$Tastes;", true)
  | 3 => ("SwornDays", "tasteReader", "LSwornDays$TasteReader;", true)
  | 4 => ("SwornDays", "country", "LSwornDays$Country;", false)
  | 5 => ("SwornDays", "draft", "LSwornDays$Country;", false)
  | 6 => ("SwornDays", "past", "LSwornDays$Past;", true)
  | 7 => ("SwornDays", "diary", "[I", true)
  | 8 => ("SwornDays", "imageState", "LSwornDays$State;", true)
  | 9 => ("SwornDays", "imageDiary", "[I", true)
  | 10 => ("SwornDays", "imaged", "Z", false)
  | 11 => ("SwornDays", "trial", "LSwornDays$State;", true)
  | 12 => ("SwornDays", "trialRow", "[I", true)
  | 13 => ("SwornDays", "judge", "LSwornDays$Judge;", true)
  | 14 => ("SwornDays", "told", "LSwornDays$Told;", true)
  | 15 => ("SwornDays", "search", "LSwornDays$Search;", true)
  | _ => ("SwornDays", "temptedBelow", "I", false)
def sd_y10 : Nat → FieldType := fun k => match k with
  | 0 => .object "SwornDays$Tape"
  | 1 => .object "SwornDays$CountryReader"
  | 2 => .object "SwornDays$Tastes"
  | 3 => .object "SwornDays$TasteReader"
  | 4 => .object "SwornDays$Country"
  | 5 => .object "SwornDays$Country"
  | 6 => .object "SwornDays$Past"
  | 7 => .array .int
  | 8 => .object "SwornDays$State"
  | 9 => .array .int
  | 10 => .boolean
  | 11 => .object "SwornDays$State"
  | 12 => .array .int
  | 13 => .object "SwornDays$Judge"
  | 14 => .object "SwornDays$Told"
  | 15 => .object "SwornDays$Search"
  | _ => .int
def sd_T11 : u_T := fun k => match k with
  | 0 => ("SwornDaysModel", "thrown", "I", false)
  | 1 => ("SwornDaysModel", "tape", "[B", true)
  | 2 => ("SwornDaysModel", "texts", "[B", true)
  | 3 => ("SwornDaysModel", "textLong", "[I", true)
  | 4 => ("SwornDaysModel", "letters", "[I", true)
  | 5 => ("SwornDaysModel", "text", "[B", false)
  | 6 => ("SwornDaysModel", "length", "I", false)
  | 7 => ("SwornDaysModel", "tasteMany", "I", false)
  | 8 => ("SwornDaysModel", "begins", "I", false)
  | 9 => ("SwornDaysModel", "ends", "I", false)
  | 10 => ("SwornDaysModel", "at", "I", false)
  | 11 => ("SwornDaysModel", "fault", "I", false)
  | 12 => ("SwornDaysModel", "deep", "I", false)
  | 13 => ("SwornDaysModel", "label", "I", false)
  | 14 => ("SwornDaysModel", "found", "I", false)
  | 15 => ("SwornDaysModel", "labels", "Ljava/lang/String;", true)
  | 16 => ("SwornDaysModel", "allowed", "Ljava/lang/String;", true)
  | 17 => ("SwornDaysModel", "hasFound", "Z", false)
  | 18 => ("SwornDaysModel", "person", "[I", true)
  | 19 => ("SwornDaysModel", "personRead", "[I", true)
  | 20 => ("SwornDaysModel", "deed", "[I", true)
  | 21 => ("SwornDaysModel", "deedRead", "[I", true)
  | 22 => ("SwornDaysModel", "vowRead", "[I", true)
  | 23 => ("SwornDaysModel", "eye", "[I", true)
  | 24 => ("SwornDaysModel", "eyeRead", "[I", true)
  | 25 => ("SwornDaysModel", "row", "[I", true)
  | 26 => ("SwornDaysModel", "item", "[I", true)
  | 27 => ("SwornDaysModel", "persons", "I", false)
  | 28 => ("SwornDaysModel", "eyes", "I", false)
  | 29 => ("SwornDaysModel", "rows", "I", false)
  | 30 => ("SwornDaysModel", "personsRead", "I", false)
  | 31 => ("SwornDaysModel", "deedsRead", "I", false)
  | 32 => ("SwornDaysModel", "vowsRead", "I", false)
  | 33 => ("SwornDaysModel", "eyesRead", "I", false)
  | 34 => ("SwornDaysModel", "now", "[I", true)
  | 35 => ("SwornDaysModel", "trial", "[I", true)
  | 36 => ("SwornDaysModel", "taste", "I", false)
  | 37 => ("SwornDaysModel", "tempted", "I", false)
  | 38 => ("SwornDaysModel", "fate", "[I", true)
  | 39 => ("SwornDaysModel", "place", "[I", true)
  | 40 => ("SwornDaysModel", "about", "[I", true)
  | 41 => ("SwornDaysModel", "aboutMany", "I", false)
  | 42 => ("SwornDaysModel", "undoRow", "[I", true)
  | 43 => ("SwornDaysModel", "acts", "I", false)
  | 44 => ("SwornDaysModel", "x", "J", false)
  | 45 => ("SwornDaysModel", "wasAt", "[I", true)
  | 46 => ("SwornDaysModel", "wasDeed", "[I", true)
  | 47 => ("SwornDaysModel", "tried", "[I", true)
  | 48 => ("SwornDaysModel", "often", "[I", true)
  | 49 => ("SwornDaysModel", "joyAt", "[I", true)
  | 50 => ("SwornDaysModel", "joyOf", "[I", true)
  | 51 => ("SwornDaysModel", "bestRow", "I", false)
  | 52 => ("SwornDaysModel", "bestJoy", "I", false)
  | 53 => ("SwornDaysModel", "freeJoy", "[I", true)
  | 54 => ("SwornDaysModel", "seenWho", "[I", true)
  | 55 => ("SwornDaysModel", "seenRow", "[I", true)
  | 56 => ("SwornDaysModel", "seen", "I", false)
  | 57 => ("SwornDaysModel", "imageRow", "[I", true)
  | _ => ("SwornDaysModel", "hasImage", "Z", false)
def sd_y11 : Nat → FieldType := fun k => match k with
  | 0 => .int
  | 1 => .array .byte
  | 2 => .array .byte
  | 3 => .array .int
  | 4 => .array .int
  | 5 => .array .byte
  | 6 => .int
  | 7 => .int
  | 8 => .int
  | 9 => .int
  | 10 => .int
  | 11 => .int
  | 12 => .int
  | 13 => .int
  | 14 => .int
  | 15 => .object "java/lang/String"
  | 16 => .object "java/lang/String"
  | 17 => .boolean
  | 18 => .array .int
  | 19 => .array .int
  | 20 => .array .int
  | 21 => .array .int
  | 22 => .array .int
  | 23 => .array .int
  | 24 => .array .int
  | 25 => .array .int
  | 26 => .array .int
  | 27 => .int
  | 28 => .int
  | 29 => .int
  | 30 => .int
  | 31 => .int
  | 32 => .int
  | 33 => .int
  | 34 => .array .int
  | 35 => .array .int
  | 36 => .int
  | 37 => .int
  | 38 => .array .int
  | 39 => .array .int
  | 40 => .array .int
  | 41 => .int
  | 42 => .array .int
  | 43 => .int
  | 44 => .long
  | 45 => .array .int
  | 46 => .array .int
  | 47 => .array .int
  | 48 => .array .int
  | 49 => .array .int
  | 50 => .array .int
  | 51 => .int
  | 52 => .int
  | 53 => .array .int
  | 54 => .array .int
  | 55 => .array .int
  | 56 => .int
  | 57 => .array .int
  | _ => .boolean
def sd_cl : List vw_C := [(sd_R 0, sd_T0, 7), (sd_R 1, sd_T1, 3), (sd_R 2, sd_T2, 5), (sd_R 3, sd_T3, 3), (sd_R 4, sd_T4, 16), (sd_R 5, sd_T5, 6), (sd_R 6, sd_T6, 3), (sd_R 7, sd_T7, 2), (sd_R 8, sd_T8, 8), (sd_R 9, sd_T9, 9), (sd_R 10, sd_T10, 17), (sd_R 11, sd_T11, 59)]
def sd_C (ci : Nat) : vw_C := sd_cl.getD ci ("", sd_T0, 0)
def sd_ty (ci : Nat) : Nat → FieldType := match ci with
  | 0 => sd_y0
  | 1 => sd_y1
  | 2 => sd_y2
  | 3 => sd_y3
  | 4 => sd_y4
  | 5 => sd_y5
  | 6 => sd_y6
  | 7 => sd_y7
  | 8 => sd_y8
  | 9 => sd_y9
  | 10 => sd_y10
  | _ => sd_y11
/-- 0 int, 1 long, 2 reference, 3 boolean -/
def sd_kdL : List (List Nat) := [[0, 2, 2, 2, 2, 0, 2], [2, 2, 2], [2, 2, 2, 2, 1], [2, 0, 0], [2, 2, 0, 2, 2, 2, 0, 0, 0, 3, 3, 0, 0, 0, 0, 0], [2, 2, 2, 2, 0, 0], [2, 0, 0], [2, 2], [2, 2, 0, 0, 2, 2, 0, 2], [2, 2, 0, 2, 2, 0, 2, 0, 2], [2, 2, 2, 2, 2, 2, 2, 2, 2, 2, 3, 2, 2, 2, 2, 2, 0], [0, 2, 2, 2, 2, 2, 0, 0, 0, 0, 0, 0, 0, 0, 0, 2, 2, 3, 2, 2, 2, 2, 2, 2, 2, 2, 2, 0, 0, 0, 0, 0, 0, 0, 2, 2, 0, 0, 2, 2, 2, 0, 2, 0, 1, 2, 2, 2, 2, 2, 2, 0, 0, 2, 2, 2, 0, 2, 3]]
def sd_kd (ci k : Nat) : Nat := (sd_kdL.getD ci []).getD k 9
/-- name, code, locals, what it returns, its class, its parameters, places of its words: code, initialized, instanceMethod or static, selects -/
abbrev sd_M : Type := MethodName × ByteArray × Nat × Option FieldType × Nat × Nat × Nat × Nat × Nat × Nat
def sd_ms0 : List sd_M := [(⟨"SwornDays", "<init>", "()V"⟩, prog_1_method_1_code, 1, none, 10, 0, 122, 94, 121, 0),
  (⟨"SwornDays$Tape", "<init>", "()V"⟩, prog_8_method_1_code, 1, none, 6, 0, 130, 95, 129, 0),
  (⟨"SwornDays$CountryReader", "<init>", "(LSwornDays$Tape;)V"⟩, prog_3_method_1_code, 2, none, 1, 1, 152, 96, 151, 0),
  (⟨"SwornDays$Tastes", "<init>", "()V"⟩, prog_10_method_1_code, 1, none, 8, 0, 168, 97, 167, 0),
  (⟨"SwornDays$TasteReader", "<init>", "(LSwornDays$Tape;LSwornDays$Tastes;)V"⟩, prog_9_method_1_code, 3, none, 7, 2, 206, 98, 205, 0),
  (⟨"SwornDays$Country", "<init>", "()V"⟩, prog_2_method_1_code, 1, none, 0, 0, 219, 99, 218, 0),
  (⟨"SwornDays$State", "<init>", "()V"⟩, prog_7_method_1_code, 1, none, 5, 0, 225, 100, 224, 0),
  (⟨"SwornDays$Past", "<init>", "()V"⟩, prog_5_method_1_code, 2, none, 3, 0, 313, 101, 312, 0),
  (⟨"SwornDays$Judge", "<init>", "()V"⟩, prog_4_method_1_code, 1, none, 2, 0, 335, 102, 334, 0),
  (⟨"SwornDays$Told", "<init>", "()V"⟩, prog_11_method_1_code, 1, none, 9, 0, 360, 103, 359, 0),
  (⟨"SwornDays$Search", "<init>", "()V"⟩, prog_6_method_1_code, 1, none, 4, 0, 402, 104, 401, 0),
  (⟨"SwornDays", "feed", "(IIIII)I"⟩, prog_1_method_2_code, 7, (some .int), 10, 5, 512, 94, 510, 511),
  (⟨"SwornDays", "bytesOf", "(I)I"⟩, prog_1_method_60_code, 3, (some .int), 10, 1, 515, 94, 514, 0),
  (⟨"SwornDays$Tape", "put", "(I)V"⟩, prog_8_method_2_code, 4, none, 6, 1, 519, 95, 517, 518),
  (⟨"SwornDays", "end", "(I)Z"⟩, prog_1_method_3_code, 2, (some .boolean), 10, 1, 523, 94, 521, 522),
  (⟨"SwornDays", "fault", "(I)I"⟩, prog_1_method_4_code, 2, (some .int), 10, 1, 527, 94, 525, 526),
  (⟨"SwornDays$CountryReader", "read", "(LSwornDays$Country;)I"⟩, prog_3_method_3_code, 3, (some .int), 1, 1, 531, 96, 529, 530),
  (⟨"SwornDays$Country", "clear", "()V"⟩, prog_2_method_2_code, 2, none, 0, 0, 535, 99, 533, 534),
  (⟨"SwornDays$CountryReader", "readClause", "(LSwornDays$Country;)Z"⟩, prog_3_method_4_code, 4, (some .boolean), 1, 1, 539, 96, 538, 0),
  (⟨"SwornDays$Tape", "peek", "()I"⟩, prog_8_method_3_code, 1, (some .int), 6, 0, 543, 95, 541, 542),
  (⟨"java/lang/String", "indexOf", "(I)I"⟩, prog_22_method_79_code, 2, (some .int), 15, 1, 548, 106, 546, 547),
  (⟨"java/lang/String", "indexOf", "(II)I"⟩, prog_22_method_80_code, 3, (some .int), 15, 2, 552, 106, 550, 551),
  (⟨"java/lang/String", "isLatin1", "()Z"⟩, prog_22_method_154_code, 1, (some .boolean), 15, 0, 556, 106, 554, 555),
  (⟨"java/lang/String", "length", "()I"⟩, prog_22_method_54_code, 1, (some .int), 15, 0, 562, 106, 560, 561),
  (⟨"java/lang/String", "coder", "()B"⟩, prog_22_method_152_code, 1, (some .byte), 15, 0, 566, 106, 564, 565),
  (⟨"java/lang/StringLatin1", "indexOf", "([BIII)I"⟩, prog_23_method_22_code, 4, (some .int), 16, 4, 569, 107, 568, 0),
  (⟨"java/lang/StringLatin1", "canEncode", "(I)Z"⟩, prog_23_method_4_code, 1, (some .boolean), 16, 1, 572, 107, 571, 0),
  (⟨"java/lang/StringLatin1", "indexOfChar", "([BIII)I"⟩, prog_23_method_23_code, 6, (some .int), 16, 4, 581, 107, 580, 0),
  (⟨"java/lang/StringUTF16", "indexOf", "([BIII)I"⟩, prog_24_method_40_code, 4, (some .int), 17, 4, 584, 109, 583, 0),
  (⟨"java/lang/StringUTF16", "indexOfChar", "([BIII)I"⟩, prog_24_method_47_code, 4, (some .int), 17, 4, 590, 109, 589, 0),
  (⟨"java/lang/StringUTF16", "checkBoundsBeginEnd", "(II[B)V"⟩, prog_24_method_93_code, 3, none, 17, 3, 593, 109, 592, 0),
  (⟨"java/lang/StringUTF16", "length", "([B)I"⟩, prog_24_method_6_code, 1, (some .int), 17, 1, 596, 109, 595, 0),
  (⟨"java/lang/String", "checkBoundsBeginEnd", "(III)V"⟩, prog_22_method_158_code, 3, none, 15, 3, 599, 106, 598, 0),
  (⟨"jdk/internal/util/Preconditions", "checkFromToIndex", "(IIILjava/util/function/BiFunction;)I"⟩, prog_30_method_12_code, 4, (some .int), 18, 4, 604, 110, 603, 0),
  (⟨"java/lang/StringUTF16", "indexOfCharUnsafe", "([BIII)I"⟩, prog_24_method_48_code, 5, (some .int), 17, 4, 607, 109, 606, 0),
  (⟨"java/lang/StringUTF16", "getChar", "([BI)C"⟩, prog_24_method_5_code, 2, (some .char), 17, 2, 610, 109, 609, 0),
  (⟨"java/lang/StringUTF16", "indexOfSupplementary", "([BIII)I"⟩, prog_24_method_49_code, 7, (some .int), 17, 4, 619, 109, 618, 0),
  (⟨"java/lang/Character", "isValidCodePoint", "(I)Z"⟩, prog_16_method_11_code, 2, (some .boolean), 21, 1, 622, 111, 621, 0),
  (⟨"java/lang/Character", "highSurrogate", "(I)C"⟩, prog_16_method_28_code, 1, (some .char), 21, 1, 625, 111, 624, 0),
  (⟨"java/lang/Character", "lowSurrogate", "(I)C"⟩, prog_16_method_29_code, 1, (some .char), 21, 1, 629, 111, 628, 0)]
def sd_ms1 : List sd_M := [(⟨"SwornDays$CountryReader", "readItems", "(I)Z"⟩, prog_3_method_5_code, 8, (some .boolean), 1, 1, 636, 96, 635, 1),
  (⟨"SwornDays$CountryReader", "itemsOf", "(I)Ljava/lang/String;"⟩, prog_3_method_2_code, 1, (some (.object "java/lang/String")), 1, 1, 644, 96, 643, 0),
  (⟨"SwornDays$Tape", "readNumber", "(III)I"⟩, prog_8_method_6_code, 6, (some .int), 6, 3, 656, 95, 654, 655),
  (⟨"SwornDays$Tape", "atDigit", "()Z"⟩, prog_8_method_5_code, 1, (some .boolean), 6, 0, 661, 95, 659, 660),
  (⟨"SwornDays$CountryReader", "readPerson", "(LSwornDays$Country;)Z"⟩, prog_3_method_6_code, 3, (some .boolean), 1, 1, 665, 96, 664, 2),
  (⟨"SwornDays$Tape", "take", "(C)Z"⟩, prog_8_method_4_code, 2, (some .boolean), 6, 1, 669, 95, 667, 668),
  (⟨"SwornDays$Tape", "readRow", "([II)I"⟩, prog_8_method_7_code, 4, (some .int), 6, 2, 673, 95, 671, 672),
  (⟨"SwornDays$Tape", "atRowLetter", "()Z"⟩, prog_8_method_8_code, 2, (some .boolean), 6, 0, 677, 95, 676, 3),
  (⟨"SwornDays$Country", "isWhole", "()Z"⟩, prog_2_method_3_code, 3, (some .boolean), 0, 0, 681, 99, 679, 680),
  (⟨"SwornDays$State", "isAboutVow", "(I)Z"⟩, prog_7_method_4_code, 2, (some .boolean), 5, 1, 685, 100, 683, 684),
  (⟨"SwornDays$TasteReader", "read", "()I"⟩, prog_9_method_2_code, 2, (some .int), 7, 0, 689, 98, 687, 688),
  (⟨"SwornDays$TasteReader", "readClause", "()Z"⟩, prog_9_method_4_code, 3, (some .boolean), 7, 0, 693, 98, 692, 4),
  (⟨"SwornDays$TasteReader", "readSum", "(I)Z"⟩, prog_9_method_10_code, 4, (some .boolean), 7, 1, 699, 98, 698, 5),
  (⟨"SwornDays$TasteReader", "readTerm", "(I)Z"⟩, prog_9_method_11_code, 4, (some .boolean), 7, 1, 703, 98, 702, 6),
  (⟨"SwornDays$TasteReader", "readAtom", "(I)Z"⟩, prog_9_method_12_code, 5, (some .boolean), 7, 1, 707, 98, 706, 7),
  (⟨"SwornDays$TasteReader", "write", "(I)V"⟩, prog_9_method_3_code, 4, none, 7, 1, 713, 98, 712, 8),
  (⟨"SwornDays$TasteReader", "isComparison", "(I)Z"⟩, prog_9_method_5_code, 1, (some .boolean), 7, 1, 717, 98, 716, 0),
  (⟨"SwornDays$TasteReader", "readCondition", "(IZ)Z"⟩, prog_9_method_6_code, 4, (some .boolean), 7, 2, 721, 98, 720, 9),
  (⟨"SwornDays$TasteReader", "readTruth", "(IZ)Z"⟩, prog_9_method_7_code, 4, (some .boolean), 7, 2, 725, 98, 724, 10),
  (⟨"SwornDays$TasteReader", "readComparison", "(I)Z"⟩, prog_9_method_9_code, 3, (some .boolean), 7, 1, 729, 98, 728, 11),
  (⟨"SwornDays$TasteReader", "readUnit", "(I)Z"⟩, prog_9_method_8_code, 3, (some .boolean), 7, 1, 733, 98, 732, 12),
  (⟨"SwornDays$Told", "read", "(LSwornDays$Tape;)I"⟩, prog_11_method_2_code, 3, (some .int), 9, 1, 737, 103, 735, 736),
  (⟨"SwornDays", "text", "(I)I"⟩, prog_1_method_5_code, 2, (some .int), 10, 1, 744, 94, 742, 743),
  (⟨"SwornDays", "settleIn", "()I"⟩, prog_1_method_6_code, 2, (some .int), 10, 0, 749, 94, 748, 13),
  (⟨"SwornDays$Past", "forget", "()V"⟩, prog_5_method_4_code, 1, none, 3, 0, 753, 101, 751, 752),
  (⟨"SwornDays", "deed", "(II)I"⟩, prog_1_method_8_code, 3, (some .int), 10, 2, 757, 94, 755, 756),
  (⟨"SwornDays", "isCountry", "()Z"⟩, prog_1_method_54_code, 1, (some .boolean), 10, 0, 761, 94, 760, 14),
  (⟨"SwornDays", "isDeed", "(I)Z"⟩, prog_1_method_58_code, 1, (some .boolean), 10, 1, 764, 94, 763, 0),
  (⟨"SwornDays", "vow", "(II)I"⟩, prog_1_method_9_code, 3, (some .int), 10, 2, 768, 94, 766, 767),
  (⟨"SwornDays", "isVow", "(I)Z"⟩, prog_1_method_57_code, 2, (some .boolean), 10, 1, 772, 94, 771, 15),
  (⟨"SwornDays", "eye", "(II)I"⟩, prog_1_method_10_code, 3, (some .int), 10, 2, 776, 94, 774, 775),
  (⟨"SwornDays", "row", "(II)I"⟩, prog_1_method_11_code, 3, (some .int), 10, 2, 780, 94, 778, 779),
  (⟨"SwornDays", "isRow", "(I)Z"⟩, prog_1_method_56_code, 2, (some .boolean), 10, 1, 784, 94, 783, 16),
  (⟨"SwornDays", "taste", "(I)Z"⟩, prog_1_method_12_code, 2, (some .boolean), 10, 1, 788, 94, 786, 787),
  (⟨"SwornDays", "tempted", "(I)Z"⟩, prog_1_method_13_code, 2, (some .boolean), 10, 1, 792, 94, 790, 791),
  (⟨"SwornDays", "broken", "(II)I"⟩, prog_1_method_14_code, 3, (some .int), 10, 2, 796, 94, 794, 795),
  (⟨"SwornDays", "placeBroken", "([II[III)I"⟩, prog_1_method_64_code, 10, (some .int), 10, 5, 801, 94, 800, 0),
  (⟨"SwornDays", "breaks", "([IIIIIIZ)Z"⟩, prog_1_method_63_code, 9, (some .boolean), 10, 7, 804, 94, 803, 0),
  (⟨"SwornDays", "fares", "(I)I"⟩, prog_1_method_15_code, 2, (some .int), 10, 1, 808, 94, 806, 807),
  (⟨"SwornDays$State", "inForce", "(I)Z"⟩, prog_7_method_3_code, 2, (some .boolean), 5, 1, 812, 100, 810, 811)]
def sd_ms2 : List sd_M := [(⟨"SwornDays$Judge", "setRows", "(LSwornDays$State;)V"⟩, prog_4_method_2_code, 2, none, 2, 1, 816, 102, 814, 815),
  (⟨"SwornDays$Judge", "decide", "(LSwornDays$State;)V"⟩, prog_4_method_5_code, 4, none, 2, 1, 821, 102, 819, 820),
  (⟨"SwornDays$Judge", "decideVowsAboutVows", "(LSwornDays$State;)V"⟩, prog_4_method_6_code, 4, none, 2, 1, 828, 102, 827, 17),
  (⟨"SwornDays$Judge", "isOpen", "(LSwornDays$State;I)Z"⟩, prog_4_method_7_code, 2, (some .boolean), 2, 2, 831, 102, 830, 0),
  (⟨"SwornDays$Judge", "fateByChain", "(LSwornDays$State;I)I"⟩, prog_4_method_8_code, 6, (some .int), 2, 2, 835, 102, 834, 18),
  (⟨"SwornDays$Judge", "isOddRing", "(LSwornDays$State;I)Z"⟩, prog_4_method_9_code, 5, (some .boolean), 2, 2, 838, 102, 837, 0),
  (⟨"SwornDays", "lives", "(II)I"⟩, prog_1_method_16_code, 4, (some .int), 10, 2, 842, 94, 840, 841),
  (⟨"SwornDays", "isPerson", "(I)Z"⟩, prog_1_method_55_code, 2, (some .boolean), 10, 1, 846, 94, 845, 19),
  (⟨"SwornDays$Past", "keep", "(LSwornDays$State;)V"⟩, prog_5_method_2_code, 2, none, 3, 1, 850, 101, 848, 849),
  (⟨"SwornDays$State", "copyFrom", "(LSwornDays$State;)V"⟩, prog_7_method_2_code, 2, none, 5, 1, 854, 100, 852, 853),
  (⟨"SwornDays", "change", "(III)I"⟩, prog_1_method_17_code, 6, (some .int), 10, 3, 860, 94, 858, 859),
  (⟨"SwornDays", "swear", "(III)I"⟩, prog_1_method_18_code, 6, (some .int), 10, 3, 864, 94, 862, 863),
  (⟨"SwornDays", "isPlainVow", "(I)Z"⟩, prog_1_method_61_code, 1, (some .boolean), 10, 1, 867, 94, 866, 0),
  (⟨"SwornDays", "putVow", "([III)V"⟩, prog_1_method_62_code, 3, none, 10, 3, 870, 94, 869, 0),
  (⟨"SwornDays", "pardon", "(I)Z"⟩, prog_1_method_19_code, 3, (some .boolean), 10, 1, 874, 94, 872, 873),
  (⟨"SwornDays", "amnesty", "()I"⟩, prog_1_method_20_code, 4, (some .int), 10, 0, 878, 94, 876, 877),
  (⟨"SwornDays$State", "inForceTotal", "()I"⟩, prog_7_method_6_code, 3, (some .int), 5, 0, 882, 100, 880, 881),
  (⟨"SwornDays", "days", "(I)I"⟩, prog_1_method_21_code, 3, (some .int), 10, 1, 887, 94, 885, 886),
  (⟨"SwornDays", "passDay", "()V"⟩, prog_1_method_23_code, 2, none, 10, 0, 891, 94, 890, 20),
  (⟨"SwornDays$Judge", "carryOut", "(LSwornDays$Country;LSwornDays$State;)V"⟩, prog_4_method_10_code, 5, none, 2, 2, 895, 102, 893, 894),
  (⟨"SwornDays$Judge", "punish", "(LSwornDays$Country;LSwornDays$State;I)V"⟩, prog_4_method_11_code, 6, none, 2, 3, 899, 102, 898, 21),
  (⟨"SwornDays$Country", "isWatched", "(II)Z"⟩, prog_2_method_6_code, 3, (some .boolean), 0, 2, 903, 99, 901, 902),
  (⟨"SwornDays$Country", "watchedPlaces", "(I)I"⟩, prog_2_method_5_code, 4, (some .int), 0, 1, 907, 99, 905, 906),
  (⟨"SwornDays$Country", "span", "(I)I"⟩, prog_2_method_7_code, 3, (some .int), 0, 1, 911, 99, 910, 22),
  (⟨"SwornDays", "decades", "(IJ)I"⟩, prog_1_method_22_code, 5, (some .int), 10, 2, 916, 94, 914, 915),
  (⟨"SwornDays$Judge", "tempt", "(LSwornDays$Country;I)V"⟩, prog_4_method_4_code, 6, none, 2, 2, 920, 102, 918, 919),
  (⟨"SwornDays$Judge", "draw", "(I)I"⟩, prog_4_method_3_code, 2, (some .int), 2, 1, 924, 102, 923, 23),
  (⟨"SwornDays", "undo", "()I"⟩, prog_1_method_24_code, 1, (some .int), 10, 0, 930, 94, 928, 929),
  (⟨"SwornDays$Past", "bringBack", "(LSwornDays$State;)Z"⟩, prog_5_method_3_code, 2, (some .boolean), 3, 1, 934, 101, 932, 933),
  (⟨"SwornDays", "log", "(II)I"⟩, prog_1_method_25_code, 4, (some .int), 10, 2, 938, 94, 936, 937),
  (⟨"SwornDays", "logDays", "()I"⟩, prog_1_method_26_code, 1, (some .int), 10, 0, 942, 94, 941, 24),
  (⟨"SwornDays", "can", "(III)I"⟩, prog_1_method_27_code, 4, (some .int), 10, 3, 946, 94, 944, 945),
  (⟨"SwornDays", "loopholes", "(IIII)I"⟩, prog_1_method_35_code, 5, (some .int), 10, 4, 950, 94, 948, 949),
  (⟨"SwornDays", "isLength", "(I)Z"⟩, prog_1_method_59_code, 1, (some .boolean), 10, 1, 953, 94, 952, 0),
  (⟨"SwornDays$Search", "clear", "(LSwornDays$Country;)V"⟩, prog_6_method_2_code, 2, none, 4, 1, 957, 104, 955, 956),
  (⟨"SwornDays$Search", "addVowsOf", "(LSwornDays$State;I)V"⟩, prog_6_method_3_code, 4, none, 4, 2, 962, 104, 960, 961),
  (⟨"SwornDays$State", "binds", "(II)Z"⟩, prog_7_method_5_code, 3, (some .boolean), 5, 2, 966, 100, 964, 965),
  (⟨"SwornDays$Search", "run", "(III)V"⟩, prog_6_method_7_code, 4, none, 4, 3, 971, 104, 969, 970),
  (⟨"SwornDays$Search", "begin", "(I)V"⟩, prog_6_method_9_code, 2, none, 4, 1, 975, 104, 974, 25),
  (⟨"SwornDays$Search", "descend", "(IIIII)V"⟩, prog_6_method_10_code, 10, none, 4, 5, 979, 104, 978, 26)]
def sd_ms3 : List sd_M := [(⟨"SwornDays$Search", "arrive", "(IIII)V"⟩, prog_6_method_13_code, 6, none, 4, 4, 983, 104, 982, 27),
  (⟨"SwornDays", "within", "(II)I"⟩, prog_1_method_65_code, 2, (some .int), 10, 2, 986, 94, 985, 0),
  (⟨"SwornDays$Search", "struckBehind", "(IIII)I"⟩, prog_6_method_11_code, 8, (some .int), 4, 4, 990, 104, 989, 28),
  (⟨"SwornDays$Search", "isHopeless", "(I)Z"⟩, prog_6_method_12_code, 3, (some .boolean), 4, 1, 995, 104, 994, 29),
  (⟨"java/lang/Integer", "bitCount", "(I)I"⟩, prog_19_method_49_code, 1, (some .int), 13, 1, 998, 117, 997, 0),
  (⟨"SwornDays$Search", "worthAt", "(III)I"⟩, prog_6_method_6_code, 3, (some .int), 4, 3, 1004, 104, 1003, 0),
  (⟨"SwornDays", "strike", "(II)I"⟩, prog_1_method_28_code, 3, (some .int), 10, 2, 1008, 94, 1006, 1007),
  (⟨"SwornDays$Search", "leastStruck", "(I)I"⟩, prog_6_method_8_code, 2, (some .int), 4, 1, 1012, 104, 1010, 1011),
  (⟨"SwornDays", "together", "(III)I"⟩, prog_1_method_29_code, 4, (some .int), 10, 3, 1016, 94, 1014, 1015),
  (⟨"SwornDays", "joy", "(II)I"⟩, prog_1_method_30_code, 3, (some .int), 10, 2, 1020, 94, 1018, 1019),
  (⟨"SwornDays$Tastes", "joyOf", "(LSwornDays$Country;I[III)I"⟩, prog_10_method_3_code, 9, (some .int), 8, 5, 1024, 97, 1022, 1023),
  (⟨"SwornDays$Tastes", "worthOf", "(LSwornDays$Country;IIII)I"⟩, prog_10_method_2_code, 6, (some .int), 8, 5, 1028, 97, 1026, 1027),
  (⟨"SwornDays$Tastes", "run", "([II)I"⟩, prog_10_method_4_code, 6, (some .int), 8, 2, 1032, 97, 1031, 30),
  (⟨"SwornDays$Tastes", "push", "(I)V"⟩, prog_10_method_8_code, 2, none, 8, 1, 1036, 97, 1035, 31),
  (⟨"SwornDays$Tastes", "pop", "()I"⟩, prog_10_method_9_code, 1, (some .int), 8, 0, 1040, 97, 1039, 32),
  (⟨"SwornDays$Tastes", "clauseEnd", "([III)I"⟩, prog_10_method_5_code, 4, (some .int), 8, 3, 1043, 97, 1042, 0),
  (⟨"SwornDays$Tastes", "join", "(III)I"⟩, prog_10_method_6_code, 3, (some .int), 8, 3, 1046, 97, 1045, 0),
  (⟨"SwornDays$Tastes", "times", "(II)I"⟩, prog_10_method_7_code, 4, (some .int), 8, 2, 1051, 97, 1050, 0),
  (⟨"SwornDays", "best", "(III)I"⟩, prog_1_method_31_code, 4, (some .int), 10, 3, 1058, 94, 1056, 1057),
  (⟨"SwornDays$Search", "weigh", "(LSwornDays$Country;LSwornDays$Tastes;I)V"⟩, prog_6_method_5_code, 7, none, 4, 3, 1062, 104, 1060, 1061),
  (⟨"SwornDays", "cost", "(II)I"⟩, prog_1_method_32_code, 4, (some .int), 10, 2, 1067, 94, 1065, 1066),
  (⟨"SwornDays", "sentence", "(IIII)I"⟩, prog_1_method_33_code, 8, (some .int), 10, 4, 1072, 94, 1070, 1071),
  (⟨"SwornDays$Search", "addVow", "(I)V"⟩, prog_6_method_4_code, 2, none, 4, 1, 1076, 104, 1074, 1075),
  (⟨"SwornDays", "hasDeed", "(III)Z"⟩, prog_1_method_34_code, 5, (some .boolean), 10, 3, 1080, 94, 1079, 0),
  (⟨"SwornDays", "harm", "(I)I"⟩, prog_1_method_36_code, 4, (some .int), 10, 1, 1085, 94, 1083, 1084),
  (⟨"SwornDays", "safe", "(I)I"⟩, prog_1_method_37_code, 3, (some .int), 10, 1, 1089, 94, 1087, 1088),
  (⟨"SwornDays", "cover", "(I)I"⟩, prog_1_method_38_code, 5, (some .int), 10, 1, 1094, 94, 1092, 1093),
  (⟨"SwornDays$Country", "placesOf", "(II)I"⟩, prog_2_method_4_code, 5, (some .int), 0, 2, 1098, 99, 1096, 1097),
  (⟨"SwornDays", "bold", "(III)I"⟩, prog_1_method_39_code, 8, (some .int), 10, 3, 1103, 94, 1101, 1102),
  (⟨"SwornDays", "joyWithWant", "(II)I"⟩, prog_1_method_40_code, 4, (some .int), 10, 2, 1107, 94, 1106, 33),
  (⟨"SwornDays", "fails", "(II)I"⟩, prog_1_method_41_code, 7, (some .int), 10, 2, 1112, 94, 1110, 1111),
  (⟨"SwornDays", "placeBrokenNow", "(II)I"⟩, prog_1_method_42_code, 4, (some .int), 10, 2, 1116, 94, 1115, 34),
  (⟨"SwornDays", "length", "(I)I"⟩, prog_1_method_43_code, 3, (some .int), 10, 1, 1121, 94, 1119, 1120),
  (⟨"SwornDays$State", "isFree", "(I)Z"⟩, prog_7_method_8_code, 2, (some .boolean), 5, 1, 1126, 100, 1124, 1125),
  (⟨"SwornDays$State", "termsOf", "(I)I"⟩, prog_7_method_7_code, 4, (some .int), 5, 1, 1130, 100, 1128, 1129),
  (⟨"SwornDays", "see", "(II)I"⟩, prog_1_method_44_code, 3, (some .int), 10, 2, 1134, 94, 1132, 1133),
  (⟨"SwornDays", "promised", "(II)I"⟩, prog_1_method_45_code, 3, (some .int), 10, 2, 1138, 94, 1136, 1137),
  (⟨"SwornDays$Told", "gather", "(I)V"⟩, prog_11_method_3_code, 4, none, 9, 1, 1142, 103, 1140, 1141),
  (⟨"SwornDays$Told", "gatherOf", "(III)V"⟩, prog_11_method_4_code, 9, none, 9, 3, 1146, 103, 1145, 35),
  (⟨"SwornDays$Told", "isKeptBySeenDays", "(II)Z"⟩, prog_11_method_5_code, 4, (some .boolean), 9, 2, 1150, 103, 1149, 36)]
def sd_ms4 : List sd_M := [(⟨"SwornDays$Told", "isBroken", "(II)Z"⟩, prog_11_method_6_code, 3, (some .boolean), 9, 2, 1154, 103, 1153, 37),
  (⟨"SwornDays", "tells", "(II)I"⟩, prog_1_method_46_code, 3, (some .int), 10, 2, 1160, 94, 1158, 1159),
  (⟨"SwornDays$Told", "brokenPromises", "(I)I"⟩, prog_11_method_7_code, 4, (some .int), 9, 1, 1164, 103, 1162, 1163),
  (⟨"SwornDays", "tempting", "(I)I"⟩, prog_1_method_47_code, 6, (some .int), 10, 1, 1168, 94, 1166, 1167),
  (⟨"SwornDays", "huts", "(I)I"⟩, prog_1_method_48_code, 5, (some .int), 10, 1, 1175, 94, 1173, 1174),
  (⟨"SwornDays$State", "clash", "(II)Z"⟩, prog_7_method_9_code, 5, (some .boolean), 5, 2, 1179, 100, 1177, 1178),
  (⟨"SwornDays$State", "forbids", "(II)Z"⟩, prog_7_method_10_code, 5, (some .boolean), 5, 2, 1184, 100, 1183, 38),
  (⟨"SwornDays", "easy", "()I"⟩, prog_1_method_49_code, 3, (some .int), 10, 0, 1188, 94, 1186, 1187),
  (⟨"SwornDays", "left", "(I)I"⟩, prog_1_method_50_code, 2, (some .int), 10, 1, 1193, 94, 1191, 1192),
  (⟨"SwornDays", "image", "()I"⟩, prog_1_method_51_code, 1, (some .int), 10, 0, 1198, 94, 1196, 1197),
  (⟨"SwornDays", "back", "()I"⟩, prog_1_method_52_code, 1, (some .int), 10, 0, 1202, 94, 1200, 1201),
  (⟨"SwornDays", "count", "(I)I"⟩, prog_1_method_53_code, 2, (some .int), 10, 1, 1206, 94, 1204, 1205),
  (⟨"SwornDays", "person", "(II)I"⟩, prog_1_method_7_code, 4, (some .int), 10, 2, 1214, 94, 1212, 1213),
  (⟨"SwornDaysModel", "<init>", "()V"⟩, prog_13_method_1_code, 1, none, 11, 0, 1285, 105, 1284, 0),
  (⟨"SwornDaysModel", "thrown", "()I"⟩, prog_13_method_2_code, 1, (some .int), 11, 0, 1470, 105, 1468, 1469),
  (⟨"SwornDaysModel", "feed", "(IIIII)I"⟩, prog_13_method_8_code, 6, (some .int), 11, 5, 1474, 105, 1472, 1473),
  (⟨"SwornDaysModel", "bytesIn", "(I)I"⟩, prog_13_method_6_code, 3, (some .int), 11, 1, 1477, 105, 1476, 0),
  (⟨"SwornDaysModel", "put", "(I)V"⟩, prog_13_method_7_code, 3, none, 11, 1, 1481, 105, 1480, 40),
  (⟨"SwornDaysModel", "end", "(I)Z"⟩, prog_13_method_9_code, 2, (some .boolean), 11, 1, 1485, 105, 1483, 1484),
  (⟨"SwornDaysModel", "fault", "(I)I"⟩, prog_13_method_38_code, 2, (some .int), 11, 1, 1489, 105, 1487, 1488),
  (⟨"SwornDaysModel", "isIn", "(JJJ)Z"⟩, prog_13_method_3_code, 6, (some .boolean), 11, 3, 1493, 105, 1492, 0),
  (⟨"SwornDaysModel", "readCountry", "()V"⟩, prog_13_method_37_code, 2, none, 11, 0, 1497, 105, 1496, 41),
  (⟨"SwornDaysModel", "starts", "([BII)V"⟩, prog_13_method_25_code, 4, none, 11, 3, 1501, 105, 1500, 42),
  (⟨"SwornDaysModel", "readClause", "()V"⟩, prog_13_method_35_code, 4, none, 11, 0, 1505, 105, 1504, 43),
  (⟨"SwornDaysModel", "look", "()I"⟩, prog_13_method_10_code, 1, (some .int), 11, 0, 1509, 105, 1508, 44),
  (⟨"SwornDaysModel", "fails", "()Z"⟩, prog_13_method_11_code, 1, (some .boolean), 11, 0, 1513, 105, 1512, 45),
  (⟨"SwornDaysModel", "readItems", "(I[IILjava/lang/String;)V"⟩, prog_13_method_33_code, 7, none, 11, 4, 1518, 105, 1517, 46),
  (⟨"SwornDaysModel", "usual", "(II)I"⟩, prog_13_method_32_code, 2, (some .int), 11, 2, 1522, 105, 1521, 0),
  (⟨"SwornDaysModel", "spotOf", "(Ljava/lang/String;I)I"⟩, prog_13_method_28_code, 3, (some .int), 11, 2, 1525, 105, 1524, 0),
  (⟨"java/lang/String", "charAt", "(I)C"⟩, prog_22_method_56_code, 2, (some .char), 15, 1, 1529, 106, 1527, 1528),
  (⟨"java/lang/StringLatin1", "charAt", "([BI)C"⟩, prog_23_method_2_code, 2, (some .char), 16, 2, 1532, 107, 1531, 0),
  (⟨"java/lang/String", "checkIndex", "(II)V"⟩, prog_22_method_155_code, 2, none, 15, 2, 1535, 106, 1534, 0),
  (⟨"jdk/internal/util/Preconditions", "checkIndex", "(IILjava/util/function/BiFunction;)I"⟩, prog_30_method_11_code, 3, (some .int), 18, 3, 1538, 110, 1537, 0),
  (⟨"java/lang/StringUTF16", "charAt", "([BI)C"⟩, prog_24_method_83_code, 2, (some .char), 17, 2, 1541, 109, 1540, 0),
  (⟨"java/lang/StringUTF16", "checkIndex", "(I[B)V"⟩, prog_24_method_91_code, 2, none, 17, 2, 1544, 109, 1543, 0),
  (⟨"SwornDaysModel", "has", "(II)Z"⟩, prog_13_method_4_code, 2, (some .boolean), 11, 2, 1548, 105, 1547, 0),
  (⟨"SwornDaysModel", "leastOf", "(II)I"⟩, prog_13_method_31_code, 2, (some .int), 11, 2, 1551, 105, 1550, 0),
  (⟨"SwornDaysModel", "mostOf", "(II)I"⟩, prog_13_method_30_code, 2, (some .int), 11, 2, 1554, 105, 1553, 0),
  (⟨"SwornDaysModel", "readItem", "([IIII)V"⟩, prog_13_method_29_code, 7, none, 11, 4, 1558, 105, 1557, 47),
  (⟨"SwornDaysModel", "isDigit", "()Z"⟩, prog_13_method_14_code, 1, (some .boolean), 11, 0, 1562, 105, 1561, 48)]
def sd_ms5 : List sd_M := [(⟨"SwornDaysModel", "here", "()I"⟩, prog_13_method_27_code, 1, (some .int), 11, 0, 1566, 105, 1565, 49),
  (⟨"SwornDaysModel", "readRow", "([II)V"⟩, prog_13_method_34_code, 6, none, 11, 2, 1570, 105, 1569, 50),
  (⟨"SwornDaysModel", "isWhole", "()Z"⟩, prog_13_method_36_code, 3, (some .boolean), 11, 0, 1579, 105, 1578, 51),
  (⟨"SwornDaysModel", "goThrough", "([BII)V"⟩, prog_13_method_26_code, 4, none, 11, 3, 1583, 105, 1582, 52),
  (⟨"SwornDaysModel", "clause", "()V"⟩, prog_13_method_24_code, 5, none, 11, 0, 1587, 105, 1586, 53),
  (⟨"SwornDaysModel", "isAmong", "(Ljava/lang/String;I)Z"⟩, prog_13_method_5_code, 3, (some .boolean), 11, 2, 1590, 105, 1589, 0),
  (⟨"SwornDaysModel", "takes", "(I)Z"⟩, prog_13_method_13_code, 2, (some .boolean), 11, 1, 1594, 105, 1593, 54),
  (⟨"SwornDaysModel", "condition", "(ZI)Z"⟩, prog_13_method_23_code, 5, (some .boolean), 11, 2, 1598, 105, 1597, 55),
  (⟨"SwornDaysModel", "part", "(ZI)Z"⟩, prog_13_method_22_code, 5, (some .boolean), 11, 2, 1602, 105, 1601, 56),
  (⟨"SwornDaysModel", "compares", "(ZI)Z"⟩, prog_13_method_20_code, 6, (some .boolean), 11, 2, 1606, 105, 1605, 57),
  (⟨"SwornDaysModel", "sum", "()I"⟩, prog_13_method_18_code, 5, (some .int), 11, 0, 1610, 105, 1609, 58),
  (⟨"SwornDaysModel", "term", "()I"⟩, prog_13_method_17_code, 5, (some .int), 11, 0, 1614, 105, 1613, 59),
  (⟨"SwornDaysModel", "atom", "()I"⟩, prog_13_method_16_code, 4, (some .int), 11, 0, 1618, 105, 1617, 60),
  (⟨"SwornDaysModel", "goesIn", "()Z"⟩, prog_13_method_12_code, 1, (some .boolean), 11, 0, 1622, 105, 1621, 61),
  (⟨"SwornDaysModel", "within", "(J)I"⟩, prog_13_method_15_code, 2, (some .int), 11, 1, 1625, 105, 1624, 0),
  (⟨"SwornDaysModel", "isSign", "(I)Z"⟩, prog_13_method_19_code, 1, (some .boolean), 11, 1, 1636, 105, 1635, 0),
  (⟨"SwornDaysModel", "unit", "()Z"⟩, prog_13_method_21_code, 3, (some .boolean), 11, 0, 1640, 105, 1639, 62),
  (⟨"SwornDaysModel", "text", "(I)I"⟩, prog_13_method_39_code, 5, (some .int), 11, 1, 1644, 105, 1642, 1643),
  (⟨"SwornDaysModel", "person", "(II)I"⟩, prog_13_method_54_code, 3, (some .int), 11, 2, 1649, 105, 1647, 1648),
  (⟨"SwornDaysModel", "isPerson", "(I)Z"⟩, prog_13_method_41_code, 2, (some .boolean), 11, 1, 1653, 105, 1652, 63),
  (⟨"SwornDaysModel", "deed", "(II)I"⟩, prog_13_method_55_code, 3, (some .int), 11, 2, 1659, 105, 1657, 1658),
  (⟨"SwornDaysModel", "vow", "(II)I"⟩, prog_13_method_56_code, 3, (some .int), 11, 2, 1664, 105, 1662, 1663),
  (⟨"SwornDaysModel", "eye", "(II)I"⟩, prog_13_method_57_code, 3, (some .int), 11, 2, 1669, 105, 1667, 1668),
  (⟨"SwornDaysModel", "row", "(II)I"⟩, prog_13_method_60_code, 3, (some .int), 11, 2, 1674, 105, 1672, 1673),
  (⟨"SwornDaysModel", "isRow", "(I)Z"⟩, prog_13_method_42_code, 2, (some .boolean), 11, 1, 1678, 105, 1677, 64),
  (⟨"SwornDaysModel", "rowLong", "(I)I"⟩, prog_13_method_58_code, 2, (some .int), 11, 1, 1682, 105, 1681, 65),
  (⟨"SwornDaysModel", "rowFrom", "(I)I"⟩, prog_13_method_59_code, 1, (some .int), 11, 1, 1685, 105, 1684, 0),
  (⟨"SwornDaysModel", "taste", "(I)Z"⟩, prog_13_method_61_code, 2, (some .boolean), 11, 1, 1689, 105, 1687, 1688),
  (⟨"SwornDaysModel", "tempted", "(I)Z"⟩, prog_13_method_62_code, 2, (some .boolean), 11, 1, 1693, 105, 1691, 1692),
  (⟨"SwornDaysModel", "broken", "(II)I"⟩, prog_13_method_63_code, 3, (some .int), 11, 2, 1698, 105, 1696, 1697),
  (⟨"SwornDaysModel", "isPlain", "([II)Z"⟩, prog_13_method_47_code, 2, (some .boolean), 11, 2, 1701, 105, 1700, 0),
  (⟨"SwornDaysModel", "vowBreaks", "([II[III)I"⟩, prog_13_method_45_code, 7, (some .int), 11, 5, 1706, 105, 1705, 66),
  (⟨"SwornDaysModel", "breaksAt", "([IIIIIII)I"⟩, prog_13_method_44_code, 10, (some .int), 11, 7, 1709, 105, 1708, 0),
  (⟨"SwornDaysModel", "fares", "(I)I"⟩, prog_13_method_64_code, 2, (some .int), 11, 1, 1713, 105, 1711, 1712),
  (⟨"SwornDaysModel", "isForce", "([II)Z"⟩, prog_13_method_43_code, 3, (some .boolean), 11, 2, 1717, 105, 1716, 67),
  (⟨"SwornDaysModel", "layFates", "([I)V"⟩, prog_13_method_50_code, 6, none, 11, 1, 1721, 105, 1720, 68),
  (⟨"SwornDaysModel", "ownBreaks", "([II)I"⟩, prog_13_method_46_code, 4, (some .int), 11, 2, 1725, 105, 1724, 69),
  (⟨"SwornDaysModel", "isWay", "([II)Z"⟩, prog_13_method_49_code, 8, (some .boolean), 11, 2, 1729, 105, 1728, 70),
  (⟨"SwornDaysModel", "numberAbout", "(I)I"⟩, prog_13_method_48_code, 3, (some .int), 11, 1, 1733, 105, 1732, 71),
  (⟨"SwornDaysModel", "lives", "(II)I"⟩, prog_13_method_66_code, 4, (some .int), 11, 2, 1737, 105, 1735, 1736)]
def sd_ms6 : List sd_M := [(⟨"SwornDaysModel", "remember", "()V"⟩, prog_13_method_65_code, 2, none, 11, 0, 1741, 105, 1740, 72),
  (⟨"SwornDaysModel", "change", "(III)I"⟩, prog_13_method_67_code, 4, (some .int), 11, 3, 1745, 105, 1743, 1744),
  (⟨"SwornDaysModel", "swear", "(III)I"⟩, prog_13_method_68_code, 8, (some .int), 11, 3, 1749, 105, 1747, 1748),
  (⟨"SwornDaysModel", "pardon", "(I)Z"⟩, prog_13_method_69_code, 2, (some .boolean), 11, 1, 1753, 105, 1751, 1752),
  (⟨"SwornDaysModel", "amnesty", "()I"⟩, prog_13_method_71_code, 2, (some .int), 11, 0, 1757, 105, 1755, 1756),
  (⟨"SwornDaysModel", "inForce", "()I"⟩, prog_13_method_70_code, 3, (some .int), 11, 0, 1761, 105, 1760, 73),
  (⟨"SwornDaysModel", "days", "(I)I"⟩, prog_13_method_72_code, 3, (some .int), 11, 1, 1765, 105, 1763, 1764),
  (⟨"SwornDaysModel", "goDay", "([I)V"⟩, prog_13_method_52_code, 4, none, 11, 1, 1770, 105, 1769, 74),
  (⟨"SwornDaysModel", "dues", "([III)V"⟩, prog_13_method_53_code, 6, none, 11, 3, 1774, 105, 1773, 75),
  (⟨"SwornDaysModel", "isSpanned", "(II)Z"⟩, prog_13_method_51_code, 4, (some .boolean), 11, 2, 1778, 105, 1777, 76),
  (⟨"SwornDaysModel", "decades", "(IJ)I"⟩, prog_13_method_74_code, 6, (some .int), 11, 2, 1782, 105, 1780, 1781),
  (⟨"SwornDaysModel", "draw", "(I)I"⟩, prog_13_method_73_code, 2, (some .int), 11, 1, 1786, 105, 1785, 77),
  (⟨"SwornDaysModel", "undo", "()I"⟩, prog_13_method_75_code, 2, (some .int), 11, 0, 1792, 105, 1790, 1791),
  (⟨"SwornDaysModel", "log", "(II)I"⟩, prog_13_method_76_code, 3, (some .int), 11, 2, 1796, 105, 1794, 1795),
  (⟨"SwornDaysModel", "can", "(III)I"⟩, prog_13_method_82_code, 7, (some .int), 11, 3, 1800, 105, 1798, 1799),
  (⟨"SwornDaysModel", "vowsOf", "(I)I"⟩, prog_13_method_79_code, 4, (some .int), 11, 1, 1804, 105, 1803, 78),
  (⟨"SwornDaysModel", "size", "(I)I"⟩, prog_13_method_81_code, 1, (some .int), 11, 1, 1807, 105, 1806, 0),
  (⟨"SwornDaysModel", "lay", "(II)V"⟩, prog_13_method_77_code, 4, none, 11, 2, 1811, 105, 1810, 79),
  (⟨"SwornDaysModel", "keepsAll", "(II)Z"⟩, prog_13_method_80_code, 4, (some .boolean), 11, 2, 1815, 105, 1814, 80),
  (⟨"SwornDaysModel", "digits", "(I)I"⟩, prog_13_method_78_code, 4, (some .int), 11, 1, 1819, 105, 1818, 81),
  (⟨"SwornDaysModel", "strike", "(II)I"⟩, prog_13_method_84_code, 6, (some .int), 11, 2, 1823, 105, 1821, 1822),
  (⟨"SwornDaysModel", "hasRow", "(II)Z"⟩, prog_13_method_83_code, 4, (some .boolean), 11, 2, 1828, 105, 1827, 82),
  (⟨"SwornDaysModel", "together", "(III)I"⟩, prog_13_method_85_code, 7, (some .int), 11, 3, 1832, 105, 1830, 1831),
  (⟨"SwornDaysModel", "joy", "(II)I"⟩, prog_13_method_88_code, 3, (some .int), 11, 2, 1836, 105, 1834, 1835),
  (⟨"SwornDaysModel", "joyBy", "(I[III)I"⟩, prog_13_method_87_code, 8, (some .int), 11, 4, 1840, 105, 1839, 83),
  (⟨"SwornDaysModel", "joyOne", "(IIII)I"⟩, prog_13_method_86_code, 7, (some .int), 11, 4, 1844, 105, 1843, 84),
  (⟨"SwornDaysModel", "best", "(III)I"⟩, prog_13_method_90_code, 4, (some .int), 11, 3, 1848, 105, 1846, 1847),
  (⟨"SwornDaysModel", "layBest", "(III)Z"⟩, prog_13_method_89_code, 6, (some .boolean), 11, 3, 1852, 105, 1851, 85),
  (⟨"SwornDaysModel", "cost", "(II)I"⟩, prog_13_method_91_code, 5, (some .int), 11, 2, 1856, 105, 1854, 1855),
  (⟨"SwornDaysModel", "sentence", "(IIII)I"⟩, prog_13_method_92_code, 12, (some .int), 11, 4, 1860, 105, 1858, 1859),
  (⟨"SwornDaysModel", "loopholes", "(IIII)I"⟩, prog_13_method_94_code, 8, (some .int), 11, 4, 1864, 105, 1862, 1863),
  (⟨"SwornDaysModel", "harmBy", "([III)I"⟩, prog_13_method_93_code, 6, (some .int), 11, 3, 1868, 105, 1867, 86),
  (⟨"SwornDaysModel", "harm", "(I)I"⟩, prog_13_method_95_code, 2, (some .int), 11, 1, 1872, 105, 1870, 1871),
  (⟨"SwornDaysModel", "safe", "(I)I"⟩, prog_13_method_96_code, 4, (some .int), 11, 1, 1876, 105, 1874, 1875),
  (⟨"SwornDaysModel", "cover", "(I)I"⟩, prog_13_method_98_code, 6, (some .int), 11, 1, 1880, 105, 1878, 1879),
  (⟨"SwornDaysModel", "spanOf", "(I)I"⟩, prog_13_method_97_code, 5, (some .int), 11, 1, 1884, 105, 1883, 87),
  (⟨"SwornDaysModel", "bold", "(III)I"⟩, prog_13_method_99_code, 8, (some .int), 11, 3, 1888, 105, 1886, 1887),
  (⟨"SwornDaysModel", "copy", "([I[I)V"⟩, prog_13_method_40_code, 3, none, 11, 2, 1891, 105, 1890, 0),
  (⟨"SwornDaysModel", "fails", "(II)I"⟩, prog_13_method_100_code, 8, (some .int), 11, 2, 1895, 105, 1893, 1894),
  (⟨"SwornDaysModel", "length", "(I)I"⟩, prog_13_method_102_code, 3, (some .int), 11, 1, 1899, 105, 1897, 1898)]
def sd_ms7 : List sd_M := [(⟨"SwornDaysModel", "isBound", "([II)Z"⟩, prog_13_method_101_code, 3, (some .boolean), 11, 2, 1902, 105, 1901, 0),
  (⟨"SwornDaysModel", "see", "(II)I"⟩, prog_13_method_103_code, 3, (some .int), 11, 2, 1906, 105, 1904, 1905),
  (⟨"SwornDaysModel", "promised", "(II)I"⟩, prog_13_method_107_code, 5, (some .int), 11, 2, 1910, 105, 1908, 1909),
  (⟨"SwornDaysModel", "isPromise", "(I)Z"⟩, prog_13_method_104_code, 5, (some .boolean), 11, 1, 1913, 105, 1912, 0),
  (⟨"SwornDaysModel", "keepsSeen", "(II)Z"⟩, prog_13_method_105_code, 4, (some .boolean), 11, 2, 1917, 105, 1916, 88),
  (⟨"SwornDaysModel", "rowBreaks", "(II)Z"⟩, prog_13_method_106_code, 3, (some .boolean), 11, 2, 1921, 105, 1920, 89),
  (⟨"SwornDaysModel", "tells", "(II)I"⟩, prog_13_method_109_code, 3, (some .int), 11, 2, 1925, 105, 1923, 1924),
  (⟨"SwornDaysModel", "brokenOf", "(II)I"⟩, prog_13_method_108_code, 5, (some .int), 11, 2, 1929, 105, 1928, 90),
  (⟨"SwornDaysModel", "tempting", "(I)I"⟩, prog_13_method_110_code, 7, (some .int), 11, 1, 1933, 105, 1931, 1932),
  (⟨"SwornDaysModel", "huts", "(I)I"⟩, prog_13_method_113_code, 5, (some .int), 11, 1, 1939, 105, 1937, 1938),
  (⟨"SwornDaysModel", "areHuts", "(II)Z"⟩, prog_13_method_112_code, 6, (some .boolean), 11, 2, 1943, 105, 1942, 91),
  (⟨"SwornDaysModel", "areAgainst", "(II)Z"⟩, prog_13_method_111_code, 5, (some .boolean), 11, 2, 1947, 105, 1946, 92),
  (⟨"SwornDaysModel", "easy", "()I"⟩, prog_13_method_114_code, 3, (some .int), 11, 0, 1951, 105, 1949, 1950),
  (⟨"SwornDaysModel", "left", "(I)I"⟩, prog_13_method_115_code, 4, (some .int), 11, 1, 1956, 105, 1954, 1955),
  (⟨"SwornDaysModel", "image", "()I"⟩, prog_13_method_116_code, 1, (some .int), 11, 0, 1960, 105, 1958, 1959),
  (⟨"SwornDaysModel", "back", "()I"⟩, prog_13_method_117_code, 1, (some .int), 11, 0, 1964, 105, 1962, 1963),
  (⟨"SwornDaysModel", "count", "(I)I"⟩, prog_13_method_118_code, 2, (some .int), 11, 1, 1968, 105, 1966, 1967)]
def sd_ms : List sd_M := sd_ms0 ++ (sd_ms1 ++ (sd_ms2 ++ (sd_ms3 ++ (sd_ms4 ++ (sd_ms5 ++ (sd_ms6 ++ (sd_ms7)))))))
def sd_law : sd_M := (x, code, 7, some .boolean, 12, 1, 0, 0, 0, 0)
def sd_m (y : Nat) : sd_M := sd_ms.getD y sd_law
def sd_find {α : Type} : List (Nat × α) → Nat → Option α
  | [], _ => none
  | (k, v) :: l, n => if k = n then some v else sd_find l n
/-- by class and index: the method, 0 virtual 1 static 2 constructor, 1 a nest mate's, place of the word -/
def sd_lkL : List (Nat × (Nat × Nat × Nat × Nat)) := [
  (786447, (0, 2, 0, 120)), (655369, (1, 2, 1, 128)), (655378, (2, 2, 0, 150)), (655387, (3, 2, 1, 166)), (655394, (4, 2, 0, 204)), (655403, (5, 2, 1, 217)),
  (33, (6, 2, 1, 223)), (655413, (7, 2, 0, 311)), (196632, (6, 2, 1, 317)), (655424, (6, 2, 1, 330)), (655444, (8, 2, 1, 333)), (655451, (9, 2, 1, 358)),
  (655458, (10, 2, 1, 400)), (786451, (11, 0, 0, 509)), (655467, (12, 1, 0, 513)), (655474, (13, 0, 0, 516)), (786456, (14, 0, 0, 520)), (786461, (15, 0, 0, 524)),
  (655478, (16, 0, 0, 528)), (65566, (17, 0, 0, 532)), (65577, (18, 0, 0, 536)), (65581, (19, 0, 0, 540)), (65598, (20, 0, 0, 545)), (983673, (21, 0, 0, 549)),
  (983532, (22, 0, 0, 553)), (983545, (23, 0, 0, 559)), (983375, (24, 0, 0, 563)), (983677, (25, 1, 0, 567)), (1048664, (26, 1, 0, 570)), (1048671, (27, 1, 0, 579)),
  (983680, (28, 1, 0, 582)), (1114340, (29, 1, 0, 588)), (1114208, (30, 1, 0, 591)), (1114160, (31, 1, 0, 594)), (1114353, (32, 1, 0, 597)), (984102, (33, 1, 0, 602)),
  (1114356, (34, 1, 0, 605)), (1114183, (35, 1, 0, 608)), (1114344, (36, 1, 0, 617)), (1114276, (37, 1, 0, 620)), (1114269, (38, 1, 0, 623)), (1114273, (39, 1, 0, 627)),
  (65607, (40, 0, 0, 633)), (65647, (41, 1, 0, 642)), (65657, (42, 0, 0, 653)), (393238, (19, 0, 0, 657)), (393242, (43, 0, 0, 658)), (65611, (44, 0, 0, 662)),
  (65592, (45, 0, 0, 666)), (65667, (46, 0, 0, 670)), (393246, (47, 0, 0, 674)), (65585, (48, 0, 0, 678)), (47, (49, 0, 0, 682)), (655482, (50, 0, 0, 686)),
  (458786, (51, 0, 0, 690)), (458794, (45, 0, 0, 694)), (458790, (19, 0, 0, 695)), (458802, (52, 0, 0, 696)), (458826, (53, 0, 0, 700)), (458829, (54, 0, 0, 704)),
  (458834, (20, 0, 0, 709)), (458813, (55, 0, 0, 710)), (458840, (42, 0, 0, 714)), (458806, (56, 1, 0, 715)), (458809, (57, 0, 0, 718)), (458817, (58, 0, 0, 722)),
  (458820, (59, 0, 0, 726)), (458823, (60, 0, 0, 730)), (655485, (61, 0, 0, 734)), (589869, (46, 0, 0, 738)), (589873, (19, 0, 0, 739)), (786466, (62, 0, 0, 741)),
  (655492, (15, 0, 0, 745)), (655495, (63, 0, 0, 746)), (655498, (64, 0, 0, 750)), (786480, (65, 0, 0, 754)), (655535, (66, 0, 0, 758)), (655539, (67, 1, 0, 762)),
  (786484, (68, 0, 0, 765)), (655548, (69, 0, 0, 769)), (786488, (70, 0, 0, 773)), (786492, (71, 0, 0, 777)), (655560, (72, 0, 0, 781)), (786496, (73, 0, 0, 785)),
  (786500, (74, 0, 0, 789)), (786504, (75, 0, 0, 793)), (655568, (49, 0, 0, 797)), (655572, (76, 1, 0, 799)), (655756, (77, 1, 0, 802)), (786508, (78, 0, 0, 805)),
  (655576, (79, 0, 0, 809)), (655579, (80, 0, 0, 813)), (655583, (81, 0, 0, 818)), (131136, (79, 0, 0, 822)), (131140, (49, 0, 0, 823)), (131146, (76, 1, 1, 824)),
  (131150, (82, 0, 0, 825)), (131154, (83, 1, 0, 829)), (131158, (84, 0, 0, 832)), (131162, (85, 1, 0, 836)), (786512, (86, 0, 0, 839)), (655507, (87, 0, 0, 843)),
  (655589, (88, 0, 0, 847)), (196633, (89, 0, 0, 851)), (786516, (90, 0, 0, 857)), (786521, (91, 0, 0, 861)), (655599, (92, 1, 0, 865)), (655605, (93, 1, 0, 868)),
  (786525, (94, 0, 0, 871)), (786529, (95, 0, 0, 875)), (655609, (96, 0, 0, 879)), (327717, (79, 0, 0, 883)), (786533, (97, 0, 0, 884)), (655612, (98, 0, 0, 888)),
  (655626, (99, 0, 0, 892)), (131165, (100, 0, 0, 896)), (131169, (101, 0, 0, 900)), (55, (102, 0, 0, 904)), (51, (103, 0, 0, 908)), (786539, (104, 0, 0, 913)),
  (655622, (105, 0, 0, 917)), (131129, (106, 0, 0, 921)), (786544, (107, 0, 0, 927)), (655633, (108, 0, 0, 931)), (786548, (109, 0, 0, 935)), (655637, (110, 0, 0, 939)),
  (786552, (111, 0, 0, 943)), (655640, (112, 0, 0, 947)), (655644, (113, 1, 0, 951)), (655647, (114, 0, 0, 954)), (655651, (115, 0, 0, 959)), (262220, (116, 0, 0, 963)),
  (327721, (49, 0, 0, 967)), (655658, (117, 0, 0, 968)), (262239, (118, 0, 0, 972)), (262243, (119, 0, 0, 976)), (262247, (120, 0, 0, 980)), (262269, (121, 1, 1, 984)),
  (262251, (122, 0, 0, 987)), (262259, (77, 1, 1, 991)), (262255, (123, 0, 0, 992)), (262263, (124, 1, 0, 996)), (262229, (125, 1, 0, 1002)), (786556, (126, 0, 0, 1005)),
  (655655, (127, 0, 0, 1009)), (786560, (128, 0, 0, 1013)), (786564, (129, 0, 0, 1017)), (655665, (130, 0, 0, 1021)), (524339, (131, 0, 0, 1025)), (524335, (132, 0, 0, 1029)),
  (524347, (133, 0, 0, 1033)), (524351, (134, 0, 0, 1037)), (524355, (135, 1, 0, 1041)), (524359, (136, 1, 0, 1044)), (524343, (121, 1, 1, 1048)), (524364, (137, 1, 0, 1049)),
  (786568, (138, 0, 0, 1055)), (655669, (139, 0, 0, 1059)), (262233, (131, 0, 0, 1063)), (786572, (140, 0, 0, 1064)), (655679, (138, 0, 0, 1068)), (786576, (141, 0, 0, 1069)),
  (655683, (142, 0, 0, 1073)), (262225, (93, 1, 1, 1077)), (655686, (143, 1, 0, 1078)), (786581, (112, 0, 0, 1081)), (786585, (144, 0, 0, 1082)), (786589, (145, 0, 0, 1086)),
  (655693, (102, 0, 0, 1090)), (786593, (146, 0, 0, 1091)), (655696, (147, 0, 0, 1095)), (655700, (124, 1, 0, 1099)), (786597, (148, 0, 0, 1100)), (655705, (149, 0, 0, 1104)),
  (655708, (101, 0, 0, 1108)), (786601, (150, 0, 0, 1109)), (655712, (151, 0, 0, 1113)), (655715, (116, 0, 0, 1117)), (786605, (152, 0, 0, 1118)), (655718, (89, 0, 0, 1122)),
  (655721, (153, 0, 0, 1123)), (327724, (154, 0, 0, 1127)), (786609, (155, 0, 0, 1131)), (786613, (156, 0, 0, 1135)), (655730, (157, 0, 0, 1139)), (589877, (158, 0, 0, 1143)),
  (589881, (159, 0, 0, 1147)), (589885, (160, 0, 0, 1151)), (589888, (93, 1, 1, 1155)), (589892, (76, 1, 1, 1156)), (786617, (161, 0, 0, 1157)), (655739, (162, 0, 0, 1161)),
  (786621, (163, 0, 0, 1165)), (786625, (164, 0, 0, 1172)), (655747, (165, 0, 0, 1176)), (327728, (116, 0, 0, 1180)), (327732, (166, 0, 0, 1181)), (786629, (167, 0, 0, 1185)),
  (655750, (150, 0, 0, 1189)), (786633, (168, 0, 0, 1190)), (655753, (154, 0, 0, 1194)), (786637, (169, 0, 0, 1195)), (786641, (170, 0, 0, 1199)), (786645, (171, 0, 0, 1203)),
  (786439, (172, 0, 0, 1211)), (786450, (173, 2, 0, 1283)), (786476, (174, 0, 0, 1467)), (786455, (175, 0, 0, 1471)), (721027, (176, 1, 0, 1475)), (721031, (177, 0, 0, 1478)),
  (786460, (178, 0, 0, 1482)), (786465, (179, 0, 0, 1486)), (721133, (180, 1, 0, 1491)), (721199, (181, 0, 0, 1494)), (721123, (182, 0, 0, 1498)), (721191, (183, 0, 0, 1502)),
  (721054, (184, 0, 0, 1506)), (721050, (185, 0, 0, 1510)), (721177, (186, 0, 0, 1515)), (721015, (23, 0, 0, 1519)), (721137, (187, 1, 0, 1520)), (721141, (188, 1, 0, 1523)),
  (721021, (189, 0, 0, 1526)), (983535, (190, 1, 0, 1530)), (1048585, (191, 1, 0, 1533)), (984099, (192, 1, 0, 1536)), (983538, (193, 1, 0, 1539)), (1114179, (194, 1, 0, 1542)),
  (1114526, (191, 1, 0, 1545)), (721145, (195, 1, 0, 1546)), (721149, (196, 1, 0, 1549)), (721152, (197, 1, 0, 1552)), (721155, (198, 0, 0, 1555)), (721084, (199, 0, 0, 1559)),
  (721130, (200, 0, 0, 1563)), (721181, (201, 0, 0, 1567)), (721194, (202, 0, 0, 1576)), (721202, (203, 0, 0, 1580)), (721127, (204, 0, 0, 1584)), (721070, (205, 1, 0, 1588)),
  (721080, (206, 0, 0, 1591)), (721103, (207, 0, 0, 1595)), (721110, (208, 0, 0, 1599)), (721107, (209, 0, 0, 1603)), (721077, (210, 0, 0, 1607)), (721094, (211, 0, 0, 1611)),
  (721087, (212, 0, 0, 1615)), (721074, (213, 0, 0, 1619)), (721090, (214, 1, 0, 1623)), (721097, (215, 1, 0, 1634)), (721100, (216, 0, 0, 1637)), (786469, (217, 0, 0, 1641)),
  (721211, (179, 0, 0, 1645)), (786475, (218, 0, 0, 1646)), (721269, (219, 0, 0, 1650)), (786483, (220, 0, 0, 1656)), (786487, (221, 0, 0, 1661)), (786491, (222, 0, 0, 1666)),
  (786495, (223, 0, 0, 1671)), (721280, (224, 0, 0, 1675)), (721283, (225, 0, 0, 1679)), (721286, (226, 1, 0, 1683)), (786499, (227, 0, 0, 1686)), (786503, (228, 0, 0, 1690)),
  (786507, (229, 0, 0, 1695)), (721246, (230, 1, 0, 1699)), (721232, (231, 0, 0, 1703)), (721228, (232, 1, 0, 1707)), (786511, (233, 0, 0, 1710)), (721242, (234, 0, 0, 1714)),
  (721256, (235, 0, 0, 1718)), (721249, (236, 0, 0, 1722)), (721253, (237, 0, 0, 1726)), (721239, (238, 0, 0, 1730)), (786515, (239, 0, 0, 1734)), (721295, (240, 0, 0, 1738)),
  (786520, (241, 0, 0, 1742)), (786524, (242, 0, 0, 1746)), (786528, (243, 0, 0, 1750)), (786532, (244, 0, 0, 1754)), (721298, (245, 0, 0, 1758)), (786536, (246, 0, 0, 1762)),
  (721303, (247, 0, 0, 1767)), (721260, (248, 0, 0, 1771)), (721264, (249, 0, 0, 1775)), (786543, (250, 0, 0, 1779)), (721314, (251, 0, 0, 1783)), (786547, (252, 0, 0, 1789)),
  (786551, (253, 0, 0, 1793)), (786555, (254, 0, 0, 1797)), (721317, (255, 0, 0, 1801)), (721320, (256, 1, 0, 1805)), (721323, (257, 0, 0, 1808)), (721327, (258, 0, 0, 1812)),
  (721330, (259, 0, 0, 1816)), (786559, (260, 0, 0, 1820)), (721333, (124, 1, 0, 1824)), (721338, (261, 0, 0, 1825)), (786563, (262, 0, 0, 1829)), (786567, (263, 0, 0, 1833)),
  (721345, (264, 0, 0, 1837)), (721341, (265, 0, 0, 1841)), (786571, (266, 0, 0, 1845)), (721355, (267, 0, 0, 1849)), (786575, (268, 0, 0, 1853)), (786580, (269, 0, 0, 1857)),
  (786584, (270, 0, 0, 1861)), (721359, (271, 0, 0, 1865)), (786588, (272, 0, 0, 1869)), (786592, (273, 0, 0, 1873)), (786596, (274, 0, 0, 1877)), (721363, (275, 0, 0, 1881)),
  (786600, (276, 0, 0, 1885)), (721366, (277, 1, 0, 1889)), (786604, (278, 0, 0, 1892)), (786608, (279, 0, 0, 1896)), (721370, (280, 1, 0, 1900)), (786612, (281, 0, 0, 1903)),
  (786616, (282, 0, 0, 1907)), (721376, (283, 1, 0, 1911)), (721379, (284, 0, 0, 1914)), (721373, (285, 0, 0, 1918)), (786620, (286, 0, 0, 1922)), (721382, (287, 0, 0, 1926)),
  (786624, (288, 0, 0, 1930)), (721385, (282, 0, 0, 1934)), (786628, (289, 0, 0, 1936)), (721394, (290, 0, 0, 1940)), (721391, (291, 0, 0, 1944)), (786632, (292, 0, 0, 1948)),
  (721397, (278, 0, 0, 1952)), (786636, (293, 0, 0, 1953)), (786640, (294, 0, 0, 1957)), (786644, (295, 0, 0, 1961)), (786648, (296, 0, 0, 1965))]
def sd_lk (o i : Nat) : Option (Nat × Nat × Nat × Nat) := if i < 65536 then sd_find sd_lkL (o * 65536 + i) else none
/-- by class and index: class and slot of the field, place of the word -/
def sd_flL : List (Nat × (Nat × Nat × Nat)) := [
  (393225, (6, 0, 132)), (393231, (6, 1, 133)), (655471, (6, 1, 134)), (65589, (6, 1, 135)), (393235, (6, 2, 136)), (589864, (6, 2, 137)),
  (458781, (6, 2, 138)), (65571, (6, 2, 139)), (65554, (1, 0, 154)), (65547, (1, 1, 155)), (65551, (1, 2, 156)), (524299, (8, 0, 172)),
  (458798, (8, 0, 173)), (524304, (8, 1, 174)), (458771, (8, 1, 175)), (524308, (8, 2, 176)), (458777, (8, 2, 177)), (655488, (8, 2, 178)),
  (524312, (8, 3, 179)), (655565, (8, 3, 180)), (524315, (8, 4, 181)), (524318, (8, 5, 182)), (524321, (8, 6, 183)), (524324, (8, 7, 184)),
  (458761, (7, 0, 208)), (458767, (7, 1, 209)), (327689, (5, 0, 227)), (131100, (5, 0, 228)), (65661, (5, 0, 229)), (655532, (5, 0, 230)),
  (327695, (5, 1, 231)), (131126, (5, 1, 232)), (65677, (5, 1, 233)), (655527, (5, 1, 234)), (327698, (5, 2, 235)), (65674, (5, 2, 236)),
  (655524, (5, 2, 237)), (131173, (5, 2, 238)), (327701, (5, 3, 239)), (262224, (5, 3, 240)), (44, (5, 3, 241)), (65624, (5, 3, 242)),
  (131143, (5, 3, 243)), (655551, (5, 3, 244)), (327704, (5, 4, 245)), (38, (5, 4, 246)), (262215, (5, 4, 247)), (65629, (5, 4, 248)),
  (131133, (5, 4, 249)), (655602, (5, 4, 250)), (327708, (5, 5, 251)), (41, (5, 5, 252)), (655615, (5, 5, 253)), (9, (0, 0, 267)),
  (131113, (0, 0, 268)), (65664, (0, 0, 269)), (655504, (0, 0, 270)), (15, (0, 1, 271)), (131119, (0, 1, 272)), (65671, (0, 1, 273)),
  (655521, (0, 1, 274)), (19, (0, 2, 275)), (524327, (0, 2, 276)), (65614, (0, 2, 277)), (655542, (0, 2, 278)), (22, (0, 3, 279)),
  (262206, (0, 3, 280)), (524332, (0, 3, 281)), (65617, (0, 3, 282)), (655545, (0, 3, 283)), (25, (0, 4, 284)), (65638, (0, 4, 285)),
  (655557, (0, 4, 286)), (28, (0, 5, 287)), (65641, (0, 5, 288)), (655554, (0, 5, 289)), (34, (0, 6, 290)), (131122, (0, 6, 291)),
  (65620, (0, 6, 292)), (655518, (0, 6, 293)), (196619, (3, 0, 318)), (196625, (3, 1, 319)), (196629, (3, 2, 320)), (655598, (3, 2, 321)),
  (131081, (2, 0, 337)), (131087, (2, 1, 338)), (655586, (2, 1, 339)), (131090, (2, 2, 340)), (131093, (2, 3, 341)), (655630, (2, 3, 342)),
  (131096, (2, 4, 343)), (655618, (2, 4, 344)), (589833, (9, 0, 362)), (655564, (9, 0, 363)), (589839, (9, 1, 364)), (655563, (9, 1, 365)),
  (589842, (9, 2, 366)), (655491, (9, 2, 367)), (589846, (9, 3, 368)), (655724, (9, 3, 369)), (589849, (9, 4, 370)), (655727, (9, 4, 371)),
  (589852, (9, 5, 372)), (655501, (9, 5, 373)), (589855, (9, 6, 374)), (655736, (9, 6, 375)), (589858, (9, 7, 376)), (655733, (9, 7, 377)),
  (589861, (9, 8, 378)), (262153, (4, 0, 404)), (262159, (4, 1, 405)), (262162, (4, 2, 406)), (262166, (4, 3, 407)), (262169, (4, 4, 408)),
  (262172, (4, 5, 409)), (262175, (4, 6, 410)), (262178, (4, 7, 411)), (262181, (4, 8, 412)), (262184, (4, 9, 413)), (262188, (4, 10, 414)),
  (262191, (4, 11, 415)), (262194, (4, 12, 416)), (655662, (4, 12, 417)), (262197, (4, 13, 418)), (655690, (4, 13, 419)), (262200, (4, 14, 420)),
  (655673, (4, 14, 421)), (262203, (4, 15, 422)), (655676, (4, 15, 423)), (655370, (10, 0, 457)), (655381, (10, 1, 458)), (655388, (10, 2, 459)),
  (655397, (10, 3, 460)), (655404, (10, 4, 461)), (655408, (10, 5, 462)), (655414, (10, 6, 463)), (655418, (10, 7, 464)), (655425, (10, 8, 465)),
  (655429, (10, 9, 466)), (655432, (10, 10, 467)), (655436, (10, 11, 468)), (655439, (10, 12, 469)), (655445, (10, 13, 470)), (655452, (10, 14, 471)),
  (655459, (10, 15, 472)), (655463, (10, 16, 473)), (721012, (11, 0, 1289)), (720905, (11, 1, 1290)), (720909, (11, 2, 1291)), (720912, (11, 3, 1292)),
  (720916, (11, 4, 1293)), (720919, (11, 5, 1294)), (721025, (11, 6, 1295)), (721205, (11, 7, 1296)), (721041, (11, 8, 1297)), (721038, (11, 9, 1298)),
  (721035, (11, 10, 1299)), (721044, (11, 11, 1300)), (721047, (11, 12, 1301)), (721117, (11, 13, 1302)), (721120, (11, 14, 1303)), (720924, (11, 15, 1304)),
  (720930, (11, 16, 1305)), (721113, (11, 17, 1306)), (720933, (11, 18, 1307)), (720936, (11, 19, 1308)), (720939, (11, 20, 1309)), (720942, (11, 21, 1310)),
  (720945, (11, 22, 1311)), (720948, (11, 23, 1312)), (720951, (11, 24, 1313)), (720954, (11, 25, 1314)), (720957, (11, 26, 1315)), (721213, (11, 27, 1316)),
  (721216, (11, 28, 1317)), (721208, (11, 29, 1318)), (721163, (11, 30, 1319)), (721166, (11, 31, 1320)), (721169, (11, 32, 1321)), (721172, (11, 33, 1322)),
  (720960, (11, 34, 1323)), (720963, (11, 35, 1324)), (720966, (11, 36, 1325)), (721291, (11, 37, 1326)), (720970, (11, 38, 1327)), (720973, (11, 39, 1328)),
  (720976, (11, 40, 1329)), (721236, (11, 41, 1330)), (720979, (11, 42, 1331)), (721222, (11, 43, 1332)), (721306, (11, 44, 1333)), (720982, (11, 45, 1334)),
  (720985, (11, 46, 1335)), (720988, (11, 47, 1336)), (720991, (11, 48, 1337)), (720994, (11, 49, 1338)), (720997, (11, 50, 1339)), (721349, (11, 51, 1340)),
  (721352, (11, 52, 1341)), (721000, (11, 53, 1342)), (721003, (11, 54, 1343)), (721006, (11, 55, 1344)), (721219, (11, 56, 1345)), (721009, (11, 57, 1346)),
  (721225, (11, 58, 1347))]
def sd_fl (o i : Nat) : Option (Nat × Nat × Nat) := if i < 65536 then sd_find sd_flL (o * 65536 + i) else none
def sd_cstL : List (Nat × (Int32 × Nat)) := [(1114339, (65536, 587)), (1376366, (55232, 626)), (1376332, (56320, 630)), (655571, (-1000000, 798)), (852233, (1431655765, 999)), (852234, (858993459, 1000)), (852235, (252645135, 1001)), (524363, (1000000, 1047)), (524371, (-1000000, 1054)), (721294, (-1000000, 1702))]
def sd_cst (o i : Nat) : Option (Int32 × Nat) := if i < 65536 then sd_find sd_cstL (o * 65536 + i) else none
def sd_cslL : List (Nat × (Int64 × Nat)) := [(131109, (6364136223846793005, 925)), (131111, (1442695040888963407, 926)), (524367, (1000000, 1052)), (524369, (-1000000, 1053)), (721197, (2, 1490)), (721159, (97, 1571)), (721161, (104, 1572)), (721057, (-1000000, 1626)), (721059, (1000000, 1627)), (721274, (7, 1660)), (721276, (5, 1665)), (721278, (3, 1670)), (721289, (99, 1694)), (721301, (60, 1766)), (721310, (6364136223846793005, 1787)), (721312, (1442695040888963407, 1788)), (786537, (4294967295, 1969))]
def sd_csl (o i : Nat) : Option (Int64 × Nat) := if i < 65536 then sd_find sd_cslL (o * 65536 + i) else none
def sd_acL : List (Nat × Nat) := [(65632, 639), (131103, 817), (327711, 855), (655592, 856), (262209, 958)]
def sd_ac (o i : Nat) : Option Nat := if i < 65536 then sd_find sd_acL (o * 65536 + i) else none
/-- Math: 0 max, 1 min, 2 abs, 3 max of longs, 4 min of longs; place of the word -/
def sd_mtL : List (Nat × (Nat × Nat)) := [(1048668, (0, 573)), (1048614, (1, 576)), (1114336, (0, 585)), (1114295, (1, 586)), (131176, (1, 912)), (655742, (2, 1169)), (721061, (4, 1628)), (721067, (3, 1631)), (721267, (1, 1654)), (721272, (0, 1655)), (721388, (2, 1935))]
def sd_mt (o i : Nat) : Option (Nat × Nat) := if i < 65536 then sd_find sd_mtL (o * 65536 + i) else none
/-- statics: 0 to 3 arrays of CountryReader, 4 COMPACT_STRINGS, 5 SIOOBE_FORMATTER -/
def sd_gsN (t : Nat) : String × String × String := match t with
  | 0 => ("SwornDays$CountryReader", "MOST_CLAUSES", "[I")
  | 1 => ("SwornDays$CountryReader", "WITHOUT", "[I")
  | 2 => ("SwornDays$CountryReader", "LEAST", "[I")
  | 3 => ("SwornDays$CountryReader", "MOST", "[I")
  | 4 => ("java/lang/String", "COMPACT_STRINGS", "Z")
  | _ => ("jdk/internal/util/Preconditions", "SIOOBE_FORMATTER", "Ljava/util/function/BiFunction;")
def sd_gsL : List (Nat × (Nat × Nat)) := [(983078, (4, 557)), (984093, (5, 600)), (65604, (0, 631)), (65644, (1, 637)), (65651, (2, 649)), (65654, (3, 651))]
def sd_gs (o i : Nat) : Option (Nat × Nat) := if i < 65536 then sd_find sd_gsL (o * 65536 + i) else none
/-- fields of a String: 0 value, 1 coder -/
def sd_sfL : List (Nat × (Nat × Nat)) := [(983055, (1, 1987)), (983049, (0, 1988))]
def sd_sf (o i : Nat) : Option (Nat × Nat) := if i < 65536 then sd_find sd_sfL (o * 65536 + i) else none
/-- String constants: which text, place of the word -/
def sd_txt (i : Nat) : String := match i with
  | 0 => "pdve"
  | 1 => "ws"
  | 2 => "ajh"
  | 3 => "pkabnt"
  | 4 => "poft"
  | 5 => "jhirxq"
  | 6 => "y"
  | 7 => "no such person"
  | _ => "no such place"
def sd_scL : List (Nat × (Nat × Nat)) := [(65596, (0, 544)), (65558, (1, 645)), (65560, (2, 646)), (65562, (3, 647)), (65564, (4, 648)), (458832, (5, 708)), (655513, (7, 1254)), (655530, (8, 1280)), (720922, (6, 1287)), (720928, (5, 1288)), (721175, (1, 1514)), (721185, (2, 1573)), (721187, (3, 1574)), (721189, (4, 1575))]
def sd_sc (o i : Nat) : Option (Nat × Nat) := if i < 65536 then sd_find sd_scL (o * 65536 + i) else none
def sd_slen : List Nat := [4, 2, 3, 6, 4, 6, 1, 14, 13]
def sd_sbyt : List (List Int32) := [[112, 100, 118, 101], [119, 115], [97, 106, 104], [112, 107, 97, 98, 110, 116], [112, 111, 102, 116], [106, 104, 105, 114, 120, 113], [121], [110, 111, 32, 115, 117, 99, 104, 32, 112, 101, 114, 115, 111, 110], [110, 111, 32, 115, 117, 99, 104, 32, 112, 108, 97, 99, 101]]
/-- the cells in the order in which they are made: an object of a class; an array (0 int, 1 byte, 2 long, 3 State[], 4 int[][]) and its length -/
abbrev sd_S : Type := Nat ⊕ (Nat × Nat)
def sd_shL : List sd_S := [
  .inl 10, .inl 6, .inr (0, 240), .inl 1, .inr (0, 6), .inr (0, 4), .inl 8, .inr (4, 5), .inr (0, 240), .inr (0, 240), .inr (0, 240), .inr (0, 240),
  .inr (0, 240), .inr (0, 5), .inr (0, 6), .inr (0, 240), .inr (0, 8), .inl 7, .inl 0, .inr (0, 5), .inr (0, 8), .inr (0, 8), .inr (0, 32), .inl 5,
  .inr (0, 60), .inr (0, 5), .inr (0, 5), .inr (0, 72), .inl 0, .inr (0, 5), .inr (0, 8), .inr (0, 8), .inr (0, 32), .inl 5, .inr (0, 60), .inr (0, 5),
  .inr (0, 5), .inr (0, 72), .inl 3, .inr (3, 40), .inl 5, .inr (0, 60), .inr (0, 5), .inr (0, 5), .inr (0, 72), .inl 5, .inr (0, 60), .inr (0, 5),
  .inr (0, 5), .inr (0, 72), .inl 5, .inr (0, 60), .inr (0, 5), .inr (0, 5), .inr (0, 72), .inl 5, .inr (0, 60), .inr (0, 5), .inr (0, 5), .inr (0, 72),
  .inl 5, .inr (0, 60), .inr (0, 5), .inr (0, 5), .inr (0, 72), .inl 5, .inr (0, 60), .inr (0, 5), .inr (0, 5), .inr (0, 72), .inl 5, .inr (0, 60),
  .inr (0, 5), .inr (0, 5), .inr (0, 72), .inl 5, .inr (0, 60), .inr (0, 5), .inr (0, 5), .inr (0, 72), .inl 5, .inr (0, 60), .inr (0, 5), .inr (0, 5),
  .inr (0, 72), .inl 5, .inr (0, 60), .inr (0, 5), .inr (0, 5), .inr (0, 72), .inl 5, .inr (0, 60), .inr (0, 5), .inr (0, 5), .inr (0, 72), .inl 5,
  .inr (0, 60), .inr (0, 5), .inr (0, 5), .inr (0, 72), .inl 5, .inr (0, 60), .inr (0, 5), .inr (0, 5), .inr (0, 72), .inl 5, .inr (0, 60), .inr (0, 5),
  .inr (0, 5), .inr (0, 72), .inl 5, .inr (0, 60), .inr (0, 5), .inr (0, 5), .inr (0, 72), .inl 5, .inr (0, 60), .inr (0, 5), .inr (0, 5), .inr (0, 72),
  .inl 5, .inr (0, 60), .inr (0, 5), .inr (0, 5), .inr (0, 72), .inl 5, .inr (0, 60), .inr (0, 5), .inr (0, 5), .inr (0, 72), .inl 5, .inr (0, 60),
  .inr (0, 5), .inr (0, 5), .inr (0, 72), .inl 5, .inr (0, 60), .inr (0, 5), .inr (0, 5), .inr (0, 72), .inl 5, .inr (0, 60), .inr (0, 5), .inr (0, 5),
  .inr (0, 72), .inl 5, .inr (0, 60), .inr (0, 5), .inr (0, 5), .inr (0, 72), .inl 5, .inr (0, 60), .inr (0, 5), .inr (0, 5), .inr (0, 72), .inl 5,
  .inr (0, 60), .inr (0, 5), .inr (0, 5), .inr (0, 72), .inl 5, .inr (0, 60), .inr (0, 5), .inr (0, 5), .inr (0, 72), .inl 5, .inr (0, 60), .inr (0, 5),
  .inr (0, 5), .inr (0, 72), .inl 5, .inr (0, 60), .inr (0, 5), .inr (0, 5), .inr (0, 72), .inl 5, .inr (0, 60), .inr (0, 5), .inr (0, 5), .inr (0, 72),
  .inl 5, .inr (0, 60), .inr (0, 5), .inr (0, 5), .inr (0, 72), .inl 5, .inr (0, 60), .inr (0, 5), .inr (0, 5), .inr (0, 72), .inl 5, .inr (0, 60),
  .inr (0, 5), .inr (0, 5), .inr (0, 72), .inl 5, .inr (0, 60), .inr (0, 5), .inr (0, 5), .inr (0, 72), .inl 5, .inr (0, 60), .inr (0, 5), .inr (0, 5),
  .inr (0, 72), .inl 5, .inr (0, 60), .inr (0, 5), .inr (0, 5), .inr (0, 72), .inl 5, .inr (0, 60), .inr (0, 5), .inr (0, 5), .inr (0, 72), .inl 5,
  .inr (0, 60), .inr (0, 5), .inr (0, 5), .inr (0, 72), .inl 5, .inr (0, 60), .inr (0, 5), .inr (0, 5), .inr (0, 72), .inl 5, .inr (0, 60), .inr (0, 5),
  .inr (0, 5), .inr (0, 72), .inl 5, .inr (0, 60), .inr (0, 5), .inr (0, 5), .inr (0, 72), .inl 5, .inr (0, 60), .inr (0, 5), .inr (0, 5), .inr (0, 72),
  .inr (0, 512), .inl 5, .inr (0, 60), .inr (0, 5), .inr (0, 5), .inr (0, 72), .inr (0, 512), .inl 5, .inr (0, 60), .inr (0, 5), .inr (0, 5), .inr (0, 72),
  .inr (0, 12), .inl 2, .inr (0, 60), .inr (0, 12), .inr (0, 12), .inr (0, 4), .inl 9, .inr (0, 84), .inr (0, 7), .inr (0, 8), .inr (0, 8), .inr (0, 240),
  .inr (0, 6), .inl 4, .inr (0, 72), .inr (0, 12), .inr (0, 8), .inr (0, 200), .inr (0, 8), .inl 11, .inr (1, 240), .inr (1, 960), .inr (0, 4), .inr (0, 128),
  .inr (0, 75), .inr (0, 75), .inr (0, 16), .inr (0, 16), .inr (0, 48), .inr (0, 32), .inr (0, 32), .inr (0, 91), .inr (0, 6), .inr (0, 385), .inr (0, 385), .inr (0, 12),
  .inr (0, 12), .inr (0, 12), .inr (0, 15400), .inr (0, 5), .inr (0, 5), .inr (0, 5), .inr (0, 8), .inr (0, 5760), .inr (0, 5760), .inr (0, 512), .inr (0, 8), .inr (0, 8),
  .inr (0, 385), .inr (2, 1)]
def sd_sh (k : Nat) : sd_S := sd_shL.getD k (.inr (9, 0))
def sd_n : Nat := 302
/-- what the final references hold once the constructors have ended -/
def sd_ftL : List (List (Option Nat)) := [
  [some 1, some 3, some 6, some 17, none, none, some 38, some 240, some 241, some 246, none, some 247, some 252, some 253, some 258, some 265, none],
  [some 2, none, none],
  [],
  [some 1, some 4, some 5],
  [],
  [],
  [some 7, some 13, none, none, some 14, some 15, none, some 16],
  [some 8, some 9, some 10, some 11, some 12],
  [],
  [],
  [],
  [],
  [],
  [],
  [],
  [],
  [],
  [some 1, some 6],
  [none, some 19, some 20, some 21, some 22, none, some 23],
  [],
  [],
  [],
  [],
  [some 24, some 25, some 26, some 27, none, none],
  [],
  [],
  [],
  [],
  [none, some 29, some 30, some 31, some 32, none, some 33],
  [],
  [],
  [],
  [],
  [some 34, some 35, some 36, some 37, none, none],
  [],
  [],
  [],
  [],
  [some 39, none, none],
  [some 40, some 45, some 50, some 55, some 60, some 65, some 70, some 75, some 80, some 85, some 90, some 95, some 100, some 105, some 110, some 115, some 120, some 125, some 130, some 135, some 140, some 145, some 150, some 155, some 160, some 165, some 170, some 175, some 180, some 185, some 190, some 195, some 200, some 205, some 210, some 215, some 220, some 225, some 230, some 235],
  [some 41, some 42, some 43, some 44, none, none],
  [],
  [],
  [],
  [],
  [some 46, some 47, some 48, some 49, none, none],
  [],
  [],
  [],
  [],
  [some 51, some 52, some 53, some 54, none, none],
  [],
  [],
  [],
  [],
  [some 56, some 57, some 58, some 59, none, none],
  [],
  [],
  [],
  [],
  [some 61, some 62, some 63, some 64, none, none],
  [],
  [],
  [],
  [],
  [some 66, some 67, some 68, some 69, none, none],
  [],
  [],
  [],
  [],
  [some 71, some 72, some 73, some 74, none, none],
  [],
  [],
  [],
  [],
  [some 76, some 77, some 78, some 79, none, none],
  [],
  [],
  [],
  [],
  [some 81, some 82, some 83, some 84, none, none],
  [],
  [],
  [],
  [],
  [some 86, some 87, some 88, some 89, none, none],
  [],
  [],
  [],
  [],
  [some 91, some 92, some 93, some 94, none, none],
  [],
  [],
  [],
  [],
  [some 96, some 97, some 98, some 99, none, none],
  [],
  [],
  [],
  [],
  [some 101, some 102, some 103, some 104, none, none],
  [],
  [],
  [],
  [],
  [some 106, some 107, some 108, some 109, none, none],
  [],
  [],
  [],
  [],
  [some 111, some 112, some 113, some 114, none, none],
  [],
  [],
  [],
  [],
  [some 116, some 117, some 118, some 119, none, none],
  [],
  [],
  [],
  [],
  [some 121, some 122, some 123, some 124, none, none],
  [],
  [],
  [],
  [],
  [some 126, some 127, some 128, some 129, none, none],
  [],
  [],
  [],
  [],
  [some 131, some 132, some 133, some 134, none, none],
  [],
  [],
  [],
  [],
  [some 136, some 137, some 138, some 139, none, none],
  [],
  [],
  [],
  [],
  [some 141, some 142, some 143, some 144, none, none],
  [],
  [],
  [],
  [],
  [some 146, some 147, some 148, some 149, none, none],
  [],
  [],
  [],
  [],
  [some 151, some 152, some 153, some 154, none, none],
  [],
  [],
  [],
  [],
  [some 156, some 157, some 158, some 159, none, none],
  [],
  [],
  [],
  [],
  [some 161, some 162, some 163, some 164, none, none],
  [],
  [],
  [],
  [],
  [some 166, some 167, some 168, some 169, none, none],
  [],
  [],
  [],
  [],
  [some 171, some 172, some 173, some 174, none, none],
  [],
  [],
  [],
  [],
  [some 176, some 177, some 178, some 179, none, none],
  [],
  [],
  [],
  [],
  [some 181, some 182, some 183, some 184, none, none],
  [],
  [],
  [],
  [],
  [some 186, some 187, some 188, some 189, none, none],
  [],
  [],
  [],
  [],
  [some 191, some 192, some 193, some 194, none, none],
  [],
  [],
  [],
  [],
  [some 196, some 197, some 198, some 199, none, none],
  [],
  [],
  [],
  [],
  [some 201, some 202, some 203, some 204, none, none],
  [],
  [],
  [],
  [],
  [some 206, some 207, some 208, some 209, none, none],
  [],
  [],
  [],
  [],
  [some 211, some 212, some 213, some 214, none, none],
  [],
  [],
  [],
  [],
  [some 216, some 217, some 218, some 219, none, none],
  [],
  [],
  [],
  [],
  [some 221, some 222, some 223, some 224, none, none],
  [],
  [],
  [],
  [],
  [some 226, some 227, some 228, some 229, none, none],
  [],
  [],
  [],
  [],
  [some 231, some 232, some 233, some 234, none, none],
  [],
  [],
  [],
  [],
  [some 236, some 237, some 238, some 239, none, none],
  [],
  [],
  [],
  [],
  [],
  [some 242, some 243, some 244, some 245, none, none],
  [],
  [],
  [],
  [],
  [],
  [some 248, some 249, some 250, some 251, none, none],
  [],
  [],
  [],
  [],
  [],
  [some 254, some 255, some 256, some 257, none],
  [],
  [],
  [],
  [],
  [some 259, some 260, none, some 261, some 262, none, some 263, none, some 264],
  [],
  [],
  [],
  [],
  [],
  [],
  [some 266, some 267, none, some 268, some 269, some 270, none, none, none, none, none, none, none, none, none, none],
  [],
  [],
  [],
  [],
  [],
  [none, some 272, some 273, some 274, some 275, none, none, none, none, none, none, none, none, none, none, some 416, some 415, none, some 276, some 277, some 278, some 279, some 280, some 281, some 282, some 283, some 284, none, none, none, none, none, none, none, some 285, some 286, none, none, some 287, some 288, some 289, none, some 290, none, none, some 291, some 292, some 293, some 294, some 295, some 296, none, none, some 297, some 298, some 299, none, some 300, none],
  [],
  [],
  [],
  [],
  [],
  [],
  [],
  [],
  [],
  [],
  [],
  [],
  [],
  [],
  [],
  [],
  [],
  [],
  [],
  [],
  [],
  [],
  [],
  [],
  [],
  [],
  [],
  [],
  [],
  []]
def sd_ft (k i : Nat) : Option Nat := (sd_ftL.getD k []).getD i none
theorem sd_tA {a b : List Cond} {w : Cond} (h : w ∈ a) : w ∈ a ++ b := List.mem_append_left _ h
theorem sd_tB {a b : List Cond} {w : Cond} (h : w ∈ b) : w ∈ a ++ b := List.mem_append_right _ h
theorem sd_t1 {w : Cond} (h : w ∈ tables_1_1) : w ∈ lw_tbl := List.mem_append_right _ (show w ∈ tables_1 from sd_tA h)
theorem sd_t2 {w : Cond} (h : w ∈ tables_1_2) : w ∈ lw_tbl := List.mem_append_right _ (show w ∈ tables_1 from sd_tB (sd_tA h))
theorem sd_t3 {w : Cond} (h : w ∈ tables_1_3) : w ∈ lw_tbl := List.mem_append_right _ (show w ∈ tables_1 from sd_tB (sd_tB (sd_tA h)))
theorem sd_t4 {w : Cond} (h : w ∈ tables_1_4) : w ∈ lw_tbl := List.mem_append_right _ (show w ∈ tables_1 from sd_tB (sd_tB (sd_tB (sd_tA h))))
theorem sd_t5 {w : Cond} (h : w ∈ tables_1_5) : w ∈ lw_tbl := List.mem_append_right _ (show w ∈ tables_1 from sd_tB (sd_tB (sd_tB (sd_tB (sd_tA h)))))
theorem sd_t6 {w : Cond} (h : w ∈ tables_1_6) : w ∈ lw_tbl := List.mem_append_right _ (show w ∈ tables_1 from sd_tB (sd_tB (sd_tB (sd_tB (sd_tB (sd_tA h))))))
theorem sd_t7 {w : Cond} (h : w ∈ tables_1_7) : w ∈ lw_tbl := List.mem_append_right _ (show w ∈ tables_1 from sd_tB (sd_tB (sd_tB (sd_tB (sd_tB (sd_tB (sd_tA h)))))))
theorem sd_t8 {w : Cond} (h : w ∈ tables_1_8) : w ∈ lw_tbl := List.mem_append_right _ (show w ∈ tables_1 from sd_tB (sd_tB (sd_tB (sd_tB (sd_tB (sd_tB (sd_tB (h))))))))
theorem sd_w0 : Cond.code ⟨"SwornDays", "<init>", "()V"⟩ prog_1_method_1_code 1 none ∈ lw_tbl := sd_t1 (List.mem_of_getElem? (i := 29) rfl)
theorem sd_w1 : Cond.code ⟨"SwornDays$Tape", "<init>", "()V"⟩ prog_8_method_1_code 1 none ∈ lw_tbl := sd_t1 (List.mem_of_getElem? (i := 37) rfl)
theorem sd_w2 : Cond.code ⟨"SwornDays$CountryReader", "<init>", "(LSwornDays$Tape;)V"⟩ prog_3_method_1_code 2 none ∈ lw_tbl := sd_t1 (List.mem_of_getElem? (i := 59) rfl)
theorem sd_w3 : Cond.code ⟨"SwornDays$Tastes", "<init>", "()V"⟩ prog_10_method_1_code 1 none ∈ lw_tbl := sd_t1 (List.mem_of_getElem? (i := 75) rfl)
theorem sd_w4 : Cond.code ⟨"SwornDays$TasteReader", "<init>", "(LSwornDays$Tape;LSwornDays$Tastes;)V"⟩ prog_9_method_1_code 3 none ∈ lw_tbl := sd_t1 (List.mem_of_getElem? (i := 113) rfl)
theorem sd_w5 : Cond.code ⟨"SwornDays$Country", "<init>", "()V"⟩ prog_2_method_1_code 1 none ∈ lw_tbl := sd_t1 (List.mem_of_getElem? (i := 126) rfl)
theorem sd_w6 : Cond.code ⟨"SwornDays$State", "<init>", "()V"⟩ prog_7_method_1_code 1 none ∈ lw_tbl := sd_t1 (List.mem_of_getElem? (i := 132) rfl)
theorem sd_w7 : Cond.code ⟨"SwornDays$Past", "<init>", "()V"⟩ prog_5_method_1_code 2 none ∈ lw_tbl := sd_t1 (List.mem_of_getElem? (i := 220) rfl)
theorem sd_w8 : Cond.code ⟨"SwornDays$Judge", "<init>", "()V"⟩ prog_4_method_1_code 1 none ∈ lw_tbl := sd_t2 (List.mem_of_getElem? (i := 2) rfl)
theorem sd_w9 : Cond.code ⟨"SwornDays$Told", "<init>", "()V"⟩ prog_11_method_1_code 1 none ∈ lw_tbl := sd_t2 (List.mem_of_getElem? (i := 27) rfl)
theorem sd_w10 : Cond.code ⟨"SwornDays$Search", "<init>", "()V"⟩ prog_6_method_1_code 1 none ∈ lw_tbl := sd_t2 (List.mem_of_getElem? (i := 69) rfl)
theorem sd_w11 : Cond.code ⟨"SwornDays", "feed", "(IIIII)I"⟩ prog_1_method_2_code 7 (some .int) ∈ lw_tbl := sd_t2 (List.mem_of_getElem? (i := 179) rfl)
theorem sd_w12 : Cond.code ⟨"SwornDays", "bytesOf", "(I)I"⟩ prog_1_method_60_code 3 (some .int) ∈ lw_tbl := sd_t2 (List.mem_of_getElem? (i := 182) rfl)
theorem sd_w13 : Cond.code ⟨"SwornDays$Tape", "put", "(I)V"⟩ prog_8_method_2_code 4 none ∈ lw_tbl := sd_t2 (List.mem_of_getElem? (i := 186) rfl)
theorem sd_w14 : Cond.code ⟨"SwornDays", "end", "(I)Z"⟩ prog_1_method_3_code 2 (some .boolean) ∈ lw_tbl := sd_t2 (List.mem_of_getElem? (i := 190) rfl)
theorem sd_w15 : Cond.code ⟨"SwornDays", "fault", "(I)I"⟩ prog_1_method_4_code 2 (some .int) ∈ lw_tbl := sd_t2 (List.mem_of_getElem? (i := 194) rfl)
theorem sd_w16 : Cond.code ⟨"SwornDays$CountryReader", "read", "(LSwornDays$Country;)I"⟩ prog_3_method_3_code 3 (some .int) ∈ lw_tbl := sd_t2 (List.mem_of_getElem? (i := 198) rfl)
theorem sd_w17 : Cond.code ⟨"SwornDays$Country", "clear", "()V"⟩ prog_2_method_2_code 2 none ∈ lw_tbl := sd_t2 (List.mem_of_getElem? (i := 202) rfl)
theorem sd_w18 : Cond.code ⟨"SwornDays$CountryReader", "readClause", "(LSwornDays$Country;)Z"⟩ prog_3_method_4_code 4 (some .boolean) ∈ lw_tbl := sd_t2 (List.mem_of_getElem? (i := 206) rfl)
theorem sd_w19 : Cond.code ⟨"SwornDays$Tape", "peek", "()I"⟩ prog_8_method_3_code 1 (some .int) ∈ lw_tbl := sd_t2 (List.mem_of_getElem? (i := 210) rfl)
theorem sd_w20 : Cond.code ⟨"java/lang/String", "indexOf", "(I)I"⟩ prog_22_method_79_code 2 (some .int) ∈ lw_tbl := sd_t2 (List.mem_of_getElem? (i := 215) rfl)
theorem sd_w21 : Cond.code ⟨"java/lang/String", "indexOf", "(II)I"⟩ prog_22_method_80_code 3 (some .int) ∈ lw_tbl := sd_t2 (List.mem_of_getElem? (i := 219) rfl)
theorem sd_w22 : Cond.code ⟨"java/lang/String", "isLatin1", "()Z"⟩ prog_22_method_154_code 1 (some .boolean) ∈ lw_tbl := sd_t2 (List.mem_of_getElem? (i := 223) rfl)
theorem sd_w23 : Cond.code ⟨"java/lang/String", "length", "()I"⟩ prog_22_method_54_code 1 (some .int) ∈ lw_tbl := sd_t2 (List.mem_of_getElem? (i := 229) rfl)
theorem sd_w24 : Cond.code ⟨"java/lang/String", "coder", "()B"⟩ prog_22_method_152_code 1 (some .byte) ∈ lw_tbl := sd_t2 (List.mem_of_getElem? (i := 233) rfl)
theorem sd_w25 : Cond.code ⟨"java/lang/StringLatin1", "indexOf", "([BIII)I"⟩ prog_23_method_22_code 4 (some .int) ∈ lw_tbl := sd_t2 (List.mem_of_getElem? (i := 236) rfl)
theorem sd_w26 : Cond.code ⟨"java/lang/StringLatin1", "canEncode", "(I)Z"⟩ prog_23_method_4_code 1 (some .boolean) ∈ lw_tbl := sd_t2 (List.mem_of_getElem? (i := 239) rfl)
theorem sd_w27 : Cond.code ⟨"java/lang/StringLatin1", "indexOfChar", "([BIII)I"⟩ prog_23_method_23_code 6 (some .int) ∈ lw_tbl := sd_t3 (List.mem_of_getElem? (i := 8) rfl)
theorem sd_w28 : Cond.code ⟨"java/lang/StringUTF16", "indexOf", "([BIII)I"⟩ prog_24_method_40_code 4 (some .int) ∈ lw_tbl := sd_t3 (List.mem_of_getElem? (i := 11) rfl)
theorem sd_w29 : Cond.code ⟨"java/lang/StringUTF16", "indexOfChar", "([BIII)I"⟩ prog_24_method_47_code 4 (some .int) ∈ lw_tbl := sd_t3 (List.mem_of_getElem? (i := 17) rfl)
theorem sd_w30 : Cond.code ⟨"java/lang/StringUTF16", "checkBoundsBeginEnd", "(II[B)V"⟩ prog_24_method_93_code 3 none ∈ lw_tbl := sd_t3 (List.mem_of_getElem? (i := 20) rfl)
theorem sd_w31 : Cond.code ⟨"java/lang/StringUTF16", "length", "([B)I"⟩ prog_24_method_6_code 1 (some .int) ∈ lw_tbl := sd_t3 (List.mem_of_getElem? (i := 23) rfl)
theorem sd_w32 : Cond.code ⟨"java/lang/String", "checkBoundsBeginEnd", "(III)V"⟩ prog_22_method_158_code 3 none ∈ lw_tbl := sd_t3 (List.mem_of_getElem? (i := 26) rfl)
theorem sd_w33 : Cond.code ⟨"jdk/internal/util/Preconditions", "checkFromToIndex", "(IIILjava/util/function/BiFunction;)I"⟩ prog_30_method_12_code 4 (some .int) ∈ lw_tbl := sd_t3 (List.mem_of_getElem? (i := 31) rfl)
theorem sd_w34 : Cond.code ⟨"java/lang/StringUTF16", "indexOfCharUnsafe", "([BIII)I"⟩ prog_24_method_48_code 5 (some .int) ∈ lw_tbl := sd_t3 (List.mem_of_getElem? (i := 34) rfl)
theorem sd_w35 : Cond.code ⟨"java/lang/StringUTF16", "getChar", "([BI)C"⟩ prog_24_method_5_code 2 (some .char) ∈ lw_tbl := sd_t3 (List.mem_of_getElem? (i := 37) rfl)
theorem sd_w36 : Cond.code ⟨"java/lang/StringUTF16", "indexOfSupplementary", "([BIII)I"⟩ prog_24_method_49_code 7 (some .int) ∈ lw_tbl := sd_t3 (List.mem_of_getElem? (i := 46) rfl)
theorem sd_w37 : Cond.code ⟨"java/lang/Character", "isValidCodePoint", "(I)Z"⟩ prog_16_method_11_code 2 (some .boolean) ∈ lw_tbl := sd_t3 (List.mem_of_getElem? (i := 49) rfl)
theorem sd_w38 : Cond.code ⟨"java/lang/Character", "highSurrogate", "(I)C"⟩ prog_16_method_28_code 1 (some .char) ∈ lw_tbl := sd_t3 (List.mem_of_getElem? (i := 52) rfl)
theorem sd_w39 : Cond.code ⟨"java/lang/Character", "lowSurrogate", "(I)C"⟩ prog_16_method_29_code 1 (some .char) ∈ lw_tbl := sd_t3 (List.mem_of_getElem? (i := 56) rfl)
theorem sd_w40 : Cond.code ⟨"SwornDays$CountryReader", "readItems", "(I)Z"⟩ prog_3_method_5_code 8 (some .boolean) ∈ lw_tbl := sd_t3 (List.mem_of_getElem? (i := 63) rfl)
theorem sd_w41 : Cond.code ⟨"SwornDays$CountryReader", "itemsOf", "(I)Ljava/lang/String;"⟩ prog_3_method_2_code 1 (some (.object "java/lang/String")) ∈ lw_tbl := sd_t3 (List.mem_of_getElem? (i := 71) rfl)
theorem sd_w42 : Cond.code ⟨"SwornDays$Tape", "readNumber", "(III)I"⟩ prog_8_method_6_code 6 (some .int) ∈ lw_tbl := sd_t3 (List.mem_of_getElem? (i := 83) rfl)
theorem sd_w43 : Cond.code ⟨"SwornDays$Tape", "atDigit", "()Z"⟩ prog_8_method_5_code 1 (some .boolean) ∈ lw_tbl := sd_t3 (List.mem_of_getElem? (i := 88) rfl)
theorem sd_w44 : Cond.code ⟨"SwornDays$CountryReader", "readPerson", "(LSwornDays$Country;)Z"⟩ prog_3_method_6_code 3 (some .boolean) ∈ lw_tbl := sd_t3 (List.mem_of_getElem? (i := 92) rfl)
theorem sd_w45 : Cond.code ⟨"SwornDays$Tape", "take", "(C)Z"⟩ prog_8_method_4_code 2 (some .boolean) ∈ lw_tbl := sd_t3 (List.mem_of_getElem? (i := 96) rfl)
theorem sd_w46 : Cond.code ⟨"SwornDays$Tape", "readRow", "([II)I"⟩ prog_8_method_7_code 4 (some .int) ∈ lw_tbl := sd_t3 (List.mem_of_getElem? (i := 100) rfl)
theorem sd_w47 : Cond.code ⟨"SwornDays$Tape", "atRowLetter", "()Z"⟩ prog_8_method_8_code 2 (some .boolean) ∈ lw_tbl := sd_t3 (List.mem_of_getElem? (i := 104) rfl)
theorem sd_w48 : Cond.code ⟨"SwornDays$Country", "isWhole", "()Z"⟩ prog_2_method_3_code 3 (some .boolean) ∈ lw_tbl := sd_t3 (List.mem_of_getElem? (i := 108) rfl)
theorem sd_w49 : Cond.code ⟨"SwornDays$State", "isAboutVow", "(I)Z"⟩ prog_7_method_4_code 2 (some .boolean) ∈ lw_tbl := sd_t3 (List.mem_of_getElem? (i := 112) rfl)
theorem sd_w50 : Cond.code ⟨"SwornDays$TasteReader", "read", "()I"⟩ prog_9_method_2_code 2 (some .int) ∈ lw_tbl := sd_t3 (List.mem_of_getElem? (i := 116) rfl)
theorem sd_w51 : Cond.code ⟨"SwornDays$TasteReader", "readClause", "()Z"⟩ prog_9_method_4_code 3 (some .boolean) ∈ lw_tbl := sd_t3 (List.mem_of_getElem? (i := 120) rfl)
theorem sd_w52 : Cond.code ⟨"SwornDays$TasteReader", "readSum", "(I)Z"⟩ prog_9_method_10_code 4 (some .boolean) ∈ lw_tbl := sd_t3 (List.mem_of_getElem? (i := 126) rfl)
theorem sd_w53 : Cond.code ⟨"SwornDays$TasteReader", "readTerm", "(I)Z"⟩ prog_9_method_11_code 4 (some .boolean) ∈ lw_tbl := sd_t3 (List.mem_of_getElem? (i := 130) rfl)
theorem sd_w54 : Cond.code ⟨"SwornDays$TasteReader", "readAtom", "(I)Z"⟩ prog_9_method_12_code 5 (some .boolean) ∈ lw_tbl := sd_t3 (List.mem_of_getElem? (i := 134) rfl)
theorem sd_w55 : Cond.code ⟨"SwornDays$TasteReader", "write", "(I)V"⟩ prog_9_method_3_code 4 none ∈ lw_tbl := sd_t3 (List.mem_of_getElem? (i := 140) rfl)
theorem sd_w56 : Cond.code ⟨"SwornDays$TasteReader", "isComparison", "(I)Z"⟩ prog_9_method_5_code 1 (some .boolean) ∈ lw_tbl := sd_t3 (List.mem_of_getElem? (i := 144) rfl)
theorem sd_w57 : Cond.code ⟨"SwornDays$TasteReader", "readCondition", "(IZ)Z"⟩ prog_9_method_6_code 4 (some .boolean) ∈ lw_tbl := sd_t3 (List.mem_of_getElem? (i := 148) rfl)
theorem sd_w58 : Cond.code ⟨"SwornDays$TasteReader", "readTruth", "(IZ)Z"⟩ prog_9_method_7_code 4 (some .boolean) ∈ lw_tbl := sd_t3 (List.mem_of_getElem? (i := 152) rfl)
theorem sd_w59 : Cond.code ⟨"SwornDays$TasteReader", "readComparison", "(I)Z"⟩ prog_9_method_9_code 3 (some .boolean) ∈ lw_tbl := sd_t3 (List.mem_of_getElem? (i := 156) rfl)
theorem sd_w60 : Cond.code ⟨"SwornDays$TasteReader", "readUnit", "(I)Z"⟩ prog_9_method_8_code 3 (some .boolean) ∈ lw_tbl := sd_t3 (List.mem_of_getElem? (i := 160) rfl)
theorem sd_w61 : Cond.code ⟨"SwornDays$Told", "read", "(LSwornDays$Tape;)I"⟩ prog_11_method_2_code 3 (some .int) ∈ lw_tbl := sd_t3 (List.mem_of_getElem? (i := 164) rfl)
theorem sd_w62 : Cond.code ⟨"SwornDays", "text", "(I)I"⟩ prog_1_method_5_code 2 (some .int) ∈ lw_tbl := sd_t3 (List.mem_of_getElem? (i := 171) rfl)
theorem sd_w63 : Cond.code ⟨"SwornDays", "settleIn", "()I"⟩ prog_1_method_6_code 2 (some .int) ∈ lw_tbl := sd_t3 (List.mem_of_getElem? (i := 176) rfl)
theorem sd_w64 : Cond.code ⟨"SwornDays$Past", "forget", "()V"⟩ prog_5_method_4_code 1 none ∈ lw_tbl := sd_t3 (List.mem_of_getElem? (i := 180) rfl)
theorem sd_w65 : Cond.code ⟨"SwornDays", "deed", "(II)I"⟩ prog_1_method_8_code 3 (some .int) ∈ lw_tbl := sd_t3 (List.mem_of_getElem? (i := 184) rfl)
theorem sd_w66 : Cond.code ⟨"SwornDays", "isCountry", "()Z"⟩ prog_1_method_54_code 1 (some .boolean) ∈ lw_tbl := sd_t3 (List.mem_of_getElem? (i := 188) rfl)
theorem sd_w67 : Cond.code ⟨"SwornDays", "isDeed", "(I)Z"⟩ prog_1_method_58_code 1 (some .boolean) ∈ lw_tbl := sd_t3 (List.mem_of_getElem? (i := 191) rfl)
theorem sd_w68 : Cond.code ⟨"SwornDays", "vow", "(II)I"⟩ prog_1_method_9_code 3 (some .int) ∈ lw_tbl := sd_t3 (List.mem_of_getElem? (i := 195) rfl)
theorem sd_w69 : Cond.code ⟨"SwornDays", "isVow", "(I)Z"⟩ prog_1_method_57_code 2 (some .boolean) ∈ lw_tbl := sd_t3 (List.mem_of_getElem? (i := 199) rfl)
theorem sd_w70 : Cond.code ⟨"SwornDays", "eye", "(II)I"⟩ prog_1_method_10_code 3 (some .int) ∈ lw_tbl := sd_t3 (List.mem_of_getElem? (i := 203) rfl)
theorem sd_w71 : Cond.code ⟨"SwornDays", "row", "(II)I"⟩ prog_1_method_11_code 3 (some .int) ∈ lw_tbl := sd_t3 (List.mem_of_getElem? (i := 207) rfl)
theorem sd_w72 : Cond.code ⟨"SwornDays", "isRow", "(I)Z"⟩ prog_1_method_56_code 2 (some .boolean) ∈ lw_tbl := sd_t3 (List.mem_of_getElem? (i := 211) rfl)
theorem sd_w73 : Cond.code ⟨"SwornDays", "taste", "(I)Z"⟩ prog_1_method_12_code 2 (some .boolean) ∈ lw_tbl := sd_t3 (List.mem_of_getElem? (i := 215) rfl)
theorem sd_w74 : Cond.code ⟨"SwornDays", "tempted", "(I)Z"⟩ prog_1_method_13_code 2 (some .boolean) ∈ lw_tbl := sd_t3 (List.mem_of_getElem? (i := 219) rfl)
theorem sd_w75 : Cond.code ⟨"SwornDays", "broken", "(II)I"⟩ prog_1_method_14_code 3 (some .int) ∈ lw_tbl := sd_t3 (List.mem_of_getElem? (i := 223) rfl)
theorem sd_w76 : Cond.code ⟨"SwornDays", "placeBroken", "([II[III)I"⟩ prog_1_method_64_code 10 (some .int) ∈ lw_tbl := sd_t3 (List.mem_of_getElem? (i := 228) rfl)
theorem sd_w77 : Cond.code ⟨"SwornDays", "breaks", "([IIIIIIZ)Z"⟩ prog_1_method_63_code 9 (some .boolean) ∈ lw_tbl := sd_t3 (List.mem_of_getElem? (i := 231) rfl)
theorem sd_w78 : Cond.code ⟨"SwornDays", "fares", "(I)I"⟩ prog_1_method_15_code 2 (some .int) ∈ lw_tbl := sd_t3 (List.mem_of_getElem? (i := 235) rfl)
theorem sd_w79 : Cond.code ⟨"SwornDays$State", "inForce", "(I)Z"⟩ prog_7_method_3_code 2 (some .boolean) ∈ lw_tbl := sd_t3 (List.mem_of_getElem? (i := 239) rfl)
theorem sd_w80 : Cond.code ⟨"SwornDays$Judge", "setRows", "(LSwornDays$State;)V"⟩ prog_4_method_2_code 2 none ∈ lw_tbl := sd_t4 (List.mem_of_getElem? (i := 3) rfl)
theorem sd_w81 : Cond.code ⟨"SwornDays$Judge", "decide", "(LSwornDays$State;)V"⟩ prog_4_method_5_code 4 none ∈ lw_tbl := sd_t4 (List.mem_of_getElem? (i := 8) rfl)
theorem sd_w82 : Cond.code ⟨"SwornDays$Judge", "decideVowsAboutVows", "(LSwornDays$State;)V"⟩ prog_4_method_6_code 4 none ∈ lw_tbl := sd_t4 (List.mem_of_getElem? (i := 15) rfl)
theorem sd_w83 : Cond.code ⟨"SwornDays$Judge", "isOpen", "(LSwornDays$State;I)Z"⟩ prog_4_method_7_code 2 (some .boolean) ∈ lw_tbl := sd_t4 (List.mem_of_getElem? (i := 18) rfl)
theorem sd_w84 : Cond.code ⟨"SwornDays$Judge", "fateByChain", "(LSwornDays$State;I)I"⟩ prog_4_method_8_code 6 (some .int) ∈ lw_tbl := sd_t4 (List.mem_of_getElem? (i := 22) rfl)
theorem sd_w85 : Cond.code ⟨"SwornDays$Judge", "isOddRing", "(LSwornDays$State;I)Z"⟩ prog_4_method_9_code 5 (some .boolean) ∈ lw_tbl := sd_t4 (List.mem_of_getElem? (i := 25) rfl)
theorem sd_w86 : Cond.code ⟨"SwornDays", "lives", "(II)I"⟩ prog_1_method_16_code 4 (some .int) ∈ lw_tbl := sd_t4 (List.mem_of_getElem? (i := 29) rfl)
theorem sd_w87 : Cond.code ⟨"SwornDays", "isPerson", "(I)Z"⟩ prog_1_method_55_code 2 (some .boolean) ∈ lw_tbl := sd_t4 (List.mem_of_getElem? (i := 33) rfl)
theorem sd_w88 : Cond.code ⟨"SwornDays$Past", "keep", "(LSwornDays$State;)V"⟩ prog_5_method_2_code 2 none ∈ lw_tbl := sd_t4 (List.mem_of_getElem? (i := 37) rfl)
theorem sd_w89 : Cond.code ⟨"SwornDays$State", "copyFrom", "(LSwornDays$State;)V"⟩ prog_7_method_2_code 2 none ∈ lw_tbl := sd_t4 (List.mem_of_getElem? (i := 41) rfl)
theorem sd_w90 : Cond.code ⟨"SwornDays", "change", "(III)I"⟩ prog_1_method_17_code 6 (some .int) ∈ lw_tbl := sd_t4 (List.mem_of_getElem? (i := 47) rfl)
theorem sd_w91 : Cond.code ⟨"SwornDays", "swear", "(III)I"⟩ prog_1_method_18_code 6 (some .int) ∈ lw_tbl := sd_t4 (List.mem_of_getElem? (i := 51) rfl)
theorem sd_w92 : Cond.code ⟨"SwornDays", "isPlainVow", "(I)Z"⟩ prog_1_method_61_code 1 (some .boolean) ∈ lw_tbl := sd_t4 (List.mem_of_getElem? (i := 54) rfl)
theorem sd_w93 : Cond.code ⟨"SwornDays", "putVow", "([III)V"⟩ prog_1_method_62_code 3 none ∈ lw_tbl := sd_t4 (List.mem_of_getElem? (i := 57) rfl)
theorem sd_w94 : Cond.code ⟨"SwornDays", "pardon", "(I)Z"⟩ prog_1_method_19_code 3 (some .boolean) ∈ lw_tbl := sd_t4 (List.mem_of_getElem? (i := 61) rfl)
theorem sd_w95 : Cond.code ⟨"SwornDays", "amnesty", "()I"⟩ prog_1_method_20_code 4 (some .int) ∈ lw_tbl := sd_t4 (List.mem_of_getElem? (i := 65) rfl)
theorem sd_w96 : Cond.code ⟨"SwornDays$State", "inForceTotal", "()I"⟩ prog_7_method_6_code 3 (some .int) ∈ lw_tbl := sd_t4 (List.mem_of_getElem? (i := 69) rfl)
theorem sd_w97 : Cond.code ⟨"SwornDays", "days", "(I)I"⟩ prog_1_method_21_code 3 (some .int) ∈ lw_tbl := sd_t4 (List.mem_of_getElem? (i := 74) rfl)
theorem sd_w98 : Cond.code ⟨"SwornDays", "passDay", "()V"⟩ prog_1_method_23_code 2 none ∈ lw_tbl := sd_t4 (List.mem_of_getElem? (i := 78) rfl)
theorem sd_w99 : Cond.code ⟨"SwornDays$Judge", "carryOut", "(LSwornDays$Country;LSwornDays$State;)V"⟩ prog_4_method_10_code 5 none ∈ lw_tbl := sd_t4 (List.mem_of_getElem? (i := 82) rfl)
theorem sd_w100 : Cond.code ⟨"SwornDays$Judge", "punish", "(LSwornDays$Country;LSwornDays$State;I)V"⟩ prog_4_method_11_code 6 none ∈ lw_tbl := sd_t4 (List.mem_of_getElem? (i := 86) rfl)
theorem sd_w101 : Cond.code ⟨"SwornDays$Country", "isWatched", "(II)Z"⟩ prog_2_method_6_code 3 (some .boolean) ∈ lw_tbl := sd_t4 (List.mem_of_getElem? (i := 90) rfl)
theorem sd_w102 : Cond.code ⟨"SwornDays$Country", "watchedPlaces", "(I)I"⟩ prog_2_method_5_code 4 (some .int) ∈ lw_tbl := sd_t4 (List.mem_of_getElem? (i := 94) rfl)
theorem sd_w103 : Cond.code ⟨"SwornDays$Country", "span", "(I)I"⟩ prog_2_method_7_code 3 (some .int) ∈ lw_tbl := sd_t4 (List.mem_of_getElem? (i := 98) rfl)
theorem sd_w104 : Cond.code ⟨"SwornDays", "decades", "(IJ)I"⟩ prog_1_method_22_code 5 (some .int) ∈ lw_tbl := sd_t4 (List.mem_of_getElem? (i := 103) rfl)
theorem sd_w105 : Cond.code ⟨"SwornDays$Judge", "tempt", "(LSwornDays$Country;I)V"⟩ prog_4_method_4_code 6 none ∈ lw_tbl := sd_t4 (List.mem_of_getElem? (i := 107) rfl)
theorem sd_w106 : Cond.code ⟨"SwornDays$Judge", "draw", "(I)I"⟩ prog_4_method_3_code 2 (some .int) ∈ lw_tbl := sd_t4 (List.mem_of_getElem? (i := 111) rfl)
theorem sd_w107 : Cond.code ⟨"SwornDays", "undo", "()I"⟩ prog_1_method_24_code 1 (some .int) ∈ lw_tbl := sd_t4 (List.mem_of_getElem? (i := 117) rfl)
theorem sd_w108 : Cond.code ⟨"SwornDays$Past", "bringBack", "(LSwornDays$State;)Z"⟩ prog_5_method_3_code 2 (some .boolean) ∈ lw_tbl := sd_t4 (List.mem_of_getElem? (i := 121) rfl)
theorem sd_w109 : Cond.code ⟨"SwornDays", "log", "(II)I"⟩ prog_1_method_25_code 4 (some .int) ∈ lw_tbl := sd_t4 (List.mem_of_getElem? (i := 125) rfl)
theorem sd_w110 : Cond.code ⟨"SwornDays", "logDays", "()I"⟩ prog_1_method_26_code 1 (some .int) ∈ lw_tbl := sd_t4 (List.mem_of_getElem? (i := 129) rfl)
theorem sd_w111 : Cond.code ⟨"SwornDays", "can", "(III)I"⟩ prog_1_method_27_code 4 (some .int) ∈ lw_tbl := sd_t4 (List.mem_of_getElem? (i := 133) rfl)
theorem sd_w112 : Cond.code ⟨"SwornDays", "loopholes", "(IIII)I"⟩ prog_1_method_35_code 5 (some .int) ∈ lw_tbl := sd_t4 (List.mem_of_getElem? (i := 137) rfl)
theorem sd_w113 : Cond.code ⟨"SwornDays", "isLength", "(I)Z"⟩ prog_1_method_59_code 1 (some .boolean) ∈ lw_tbl := sd_t4 (List.mem_of_getElem? (i := 140) rfl)
theorem sd_w114 : Cond.code ⟨"SwornDays$Search", "clear", "(LSwornDays$Country;)V"⟩ prog_6_method_2_code 2 none ∈ lw_tbl := sd_t4 (List.mem_of_getElem? (i := 144) rfl)
theorem sd_w115 : Cond.code ⟨"SwornDays$Search", "addVowsOf", "(LSwornDays$State;I)V"⟩ prog_6_method_3_code 4 none ∈ lw_tbl := sd_t4 (List.mem_of_getElem? (i := 149) rfl)
theorem sd_w116 : Cond.code ⟨"SwornDays$State", "binds", "(II)Z"⟩ prog_7_method_5_code 3 (some .boolean) ∈ lw_tbl := sd_t4 (List.mem_of_getElem? (i := 153) rfl)
theorem sd_w117 : Cond.code ⟨"SwornDays$Search", "run", "(III)V"⟩ prog_6_method_7_code 4 none ∈ lw_tbl := sd_t4 (List.mem_of_getElem? (i := 158) rfl)
theorem sd_w118 : Cond.code ⟨"SwornDays$Search", "begin", "(I)V"⟩ prog_6_method_9_code 2 none ∈ lw_tbl := sd_t4 (List.mem_of_getElem? (i := 162) rfl)
theorem sd_w119 : Cond.code ⟨"SwornDays$Search", "descend", "(IIIII)V"⟩ prog_6_method_10_code 10 none ∈ lw_tbl := sd_t4 (List.mem_of_getElem? (i := 166) rfl)
theorem sd_w120 : Cond.code ⟨"SwornDays$Search", "arrive", "(IIII)V"⟩ prog_6_method_13_code 6 none ∈ lw_tbl := sd_t4 (List.mem_of_getElem? (i := 170) rfl)
theorem sd_w121 : Cond.code ⟨"SwornDays", "within", "(II)I"⟩ prog_1_method_65_code 2 (some .int) ∈ lw_tbl := sd_t4 (List.mem_of_getElem? (i := 173) rfl)
theorem sd_w122 : Cond.code ⟨"SwornDays$Search", "struckBehind", "(IIII)I"⟩ prog_6_method_11_code 8 (some .int) ∈ lw_tbl := sd_t4 (List.mem_of_getElem? (i := 177) rfl)
theorem sd_w123 : Cond.code ⟨"SwornDays$Search", "isHopeless", "(I)Z"⟩ prog_6_method_12_code 3 (some .boolean) ∈ lw_tbl := sd_t4 (List.mem_of_getElem? (i := 182) rfl)
theorem sd_w124 : Cond.code ⟨"java/lang/Integer", "bitCount", "(I)I"⟩ prog_19_method_49_code 1 (some .int) ∈ lw_tbl := sd_t4 (List.mem_of_getElem? (i := 185) rfl)
theorem sd_w125 : Cond.code ⟨"SwornDays$Search", "worthAt", "(III)I"⟩ prog_6_method_6_code 3 (some .int) ∈ lw_tbl := sd_t4 (List.mem_of_getElem? (i := 191) rfl)
theorem sd_w126 : Cond.code ⟨"SwornDays", "strike", "(II)I"⟩ prog_1_method_28_code 3 (some .int) ∈ lw_tbl := sd_t4 (List.mem_of_getElem? (i := 195) rfl)
theorem sd_w127 : Cond.code ⟨"SwornDays$Search", "leastStruck", "(I)I"⟩ prog_6_method_8_code 2 (some .int) ∈ lw_tbl := sd_t4 (List.mem_of_getElem? (i := 199) rfl)
theorem sd_w128 : Cond.code ⟨"SwornDays", "together", "(III)I"⟩ prog_1_method_29_code 4 (some .int) ∈ lw_tbl := sd_t4 (List.mem_of_getElem? (i := 203) rfl)
theorem sd_w129 : Cond.code ⟨"SwornDays", "joy", "(II)I"⟩ prog_1_method_30_code 3 (some .int) ∈ lw_tbl := sd_t4 (List.mem_of_getElem? (i := 207) rfl)
theorem sd_w130 : Cond.code ⟨"SwornDays$Tastes", "joyOf", "(LSwornDays$Country;I[III)I"⟩ prog_10_method_3_code 9 (some .int) ∈ lw_tbl := sd_t4 (List.mem_of_getElem? (i := 211) rfl)
theorem sd_w131 : Cond.code ⟨"SwornDays$Tastes", "worthOf", "(LSwornDays$Country;IIII)I"⟩ prog_10_method_2_code 6 (some .int) ∈ lw_tbl := sd_t4 (List.mem_of_getElem? (i := 215) rfl)
theorem sd_w132 : Cond.code ⟨"SwornDays$Tastes", "run", "([II)I"⟩ prog_10_method_4_code 6 (some .int) ∈ lw_tbl := sd_t4 (List.mem_of_getElem? (i := 219) rfl)
theorem sd_w133 : Cond.code ⟨"SwornDays$Tastes", "push", "(I)V"⟩ prog_10_method_8_code 2 none ∈ lw_tbl := sd_t4 (List.mem_of_getElem? (i := 223) rfl)
theorem sd_w134 : Cond.code ⟨"SwornDays$Tastes", "pop", "()I"⟩ prog_10_method_9_code 1 (some .int) ∈ lw_tbl := sd_t4 (List.mem_of_getElem? (i := 227) rfl)
theorem sd_w135 : Cond.code ⟨"SwornDays$Tastes", "clauseEnd", "([III)I"⟩ prog_10_method_5_code 4 (some .int) ∈ lw_tbl := sd_t4 (List.mem_of_getElem? (i := 230) rfl)
theorem sd_w136 : Cond.code ⟨"SwornDays$Tastes", "join", "(III)I"⟩ prog_10_method_6_code 3 (some .int) ∈ lw_tbl := sd_t4 (List.mem_of_getElem? (i := 233) rfl)
theorem sd_w137 : Cond.code ⟨"SwornDays$Tastes", "times", "(II)I"⟩ prog_10_method_7_code 4 (some .int) ∈ lw_tbl := sd_t4 (List.mem_of_getElem? (i := 238) rfl)
theorem sd_w138 : Cond.code ⟨"SwornDays", "best", "(III)I"⟩ prog_1_method_31_code 4 (some .int) ∈ lw_tbl := sd_t5 (List.mem_of_getElem? (i := 5) rfl)
theorem sd_w139 : Cond.code ⟨"SwornDays$Search", "weigh", "(LSwornDays$Country;LSwornDays$Tastes;I)V"⟩ prog_6_method_5_code 7 none ∈ lw_tbl := sd_t5 (List.mem_of_getElem? (i := 9) rfl)
theorem sd_w140 : Cond.code ⟨"SwornDays", "cost", "(II)I"⟩ prog_1_method_32_code 4 (some .int) ∈ lw_tbl := sd_t5 (List.mem_of_getElem? (i := 14) rfl)
theorem sd_w141 : Cond.code ⟨"SwornDays", "sentence", "(IIII)I"⟩ prog_1_method_33_code 8 (some .int) ∈ lw_tbl := sd_t5 (List.mem_of_getElem? (i := 19) rfl)
theorem sd_w142 : Cond.code ⟨"SwornDays$Search", "addVow", "(I)V"⟩ prog_6_method_4_code 2 none ∈ lw_tbl := sd_t5 (List.mem_of_getElem? (i := 23) rfl)
theorem sd_w143 : Cond.code ⟨"SwornDays", "hasDeed", "(III)Z"⟩ prog_1_method_34_code 5 (some .boolean) ∈ lw_tbl := sd_t5 (List.mem_of_getElem? (i := 27) rfl)
theorem sd_w144 : Cond.code ⟨"SwornDays", "harm", "(I)I"⟩ prog_1_method_36_code 4 (some .int) ∈ lw_tbl := sd_t5 (List.mem_of_getElem? (i := 32) rfl)
theorem sd_w145 : Cond.code ⟨"SwornDays", "safe", "(I)I"⟩ prog_1_method_37_code 3 (some .int) ∈ lw_tbl := sd_t5 (List.mem_of_getElem? (i := 36) rfl)
theorem sd_w146 : Cond.code ⟨"SwornDays", "cover", "(I)I"⟩ prog_1_method_38_code 5 (some .int) ∈ lw_tbl := sd_t5 (List.mem_of_getElem? (i := 41) rfl)
theorem sd_w147 : Cond.code ⟨"SwornDays$Country", "placesOf", "(II)I"⟩ prog_2_method_4_code 5 (some .int) ∈ lw_tbl := sd_t5 (List.mem_of_getElem? (i := 45) rfl)
theorem sd_w148 : Cond.code ⟨"SwornDays", "bold", "(III)I"⟩ prog_1_method_39_code 8 (some .int) ∈ lw_tbl := sd_t5 (List.mem_of_getElem? (i := 50) rfl)
theorem sd_w149 : Cond.code ⟨"SwornDays", "joyWithWant", "(II)I"⟩ prog_1_method_40_code 4 (some .int) ∈ lw_tbl := sd_t5 (List.mem_of_getElem? (i := 54) rfl)
theorem sd_w150 : Cond.code ⟨"SwornDays", "fails", "(II)I"⟩ prog_1_method_41_code 7 (some .int) ∈ lw_tbl := sd_t5 (List.mem_of_getElem? (i := 59) rfl)
theorem sd_w151 : Cond.code ⟨"SwornDays", "placeBrokenNow", "(II)I"⟩ prog_1_method_42_code 4 (some .int) ∈ lw_tbl := sd_t5 (List.mem_of_getElem? (i := 63) rfl)
theorem sd_w152 : Cond.code ⟨"SwornDays", "length", "(I)I"⟩ prog_1_method_43_code 3 (some .int) ∈ lw_tbl := sd_t5 (List.mem_of_getElem? (i := 68) rfl)
theorem sd_w153 : Cond.code ⟨"SwornDays$State", "isFree", "(I)Z"⟩ prog_7_method_8_code 2 (some .boolean) ∈ lw_tbl := sd_t5 (List.mem_of_getElem? (i := 73) rfl)
theorem sd_w154 : Cond.code ⟨"SwornDays$State", "termsOf", "(I)I"⟩ prog_7_method_7_code 4 (some .int) ∈ lw_tbl := sd_t5 (List.mem_of_getElem? (i := 77) rfl)
theorem sd_w155 : Cond.code ⟨"SwornDays", "see", "(II)I"⟩ prog_1_method_44_code 3 (some .int) ∈ lw_tbl := sd_t5 (List.mem_of_getElem? (i := 81) rfl)
theorem sd_w156 : Cond.code ⟨"SwornDays", "promised", "(II)I"⟩ prog_1_method_45_code 3 (some .int) ∈ lw_tbl := sd_t5 (List.mem_of_getElem? (i := 85) rfl)
theorem sd_w157 : Cond.code ⟨"SwornDays$Told", "gather", "(I)V"⟩ prog_11_method_3_code 4 none ∈ lw_tbl := sd_t5 (List.mem_of_getElem? (i := 89) rfl)
theorem sd_w158 : Cond.code ⟨"SwornDays$Told", "gatherOf", "(III)V"⟩ prog_11_method_4_code 9 none ∈ lw_tbl := sd_t5 (List.mem_of_getElem? (i := 93) rfl)
theorem sd_w159 : Cond.code ⟨"SwornDays$Told", "isKeptBySeenDays", "(II)Z"⟩ prog_11_method_5_code 4 (some .boolean) ∈ lw_tbl := sd_t5 (List.mem_of_getElem? (i := 97) rfl)
theorem sd_w160 : Cond.code ⟨"SwornDays$Told", "isBroken", "(II)Z"⟩ prog_11_method_6_code 3 (some .boolean) ∈ lw_tbl := sd_t5 (List.mem_of_getElem? (i := 101) rfl)
theorem sd_w161 : Cond.code ⟨"SwornDays", "tells", "(II)I"⟩ prog_1_method_46_code 3 (some .int) ∈ lw_tbl := sd_t5 (List.mem_of_getElem? (i := 107) rfl)
theorem sd_w162 : Cond.code ⟨"SwornDays$Told", "brokenPromises", "(I)I"⟩ prog_11_method_7_code 4 (some .int) ∈ lw_tbl := sd_t5 (List.mem_of_getElem? (i := 111) rfl)
theorem sd_w163 : Cond.code ⟨"SwornDays", "tempting", "(I)I"⟩ prog_1_method_47_code 6 (some .int) ∈ lw_tbl := sd_t5 (List.mem_of_getElem? (i := 115) rfl)
theorem sd_w164 : Cond.code ⟨"SwornDays", "huts", "(I)I"⟩ prog_1_method_48_code 5 (some .int) ∈ lw_tbl := sd_t5 (List.mem_of_getElem? (i := 122) rfl)
theorem sd_w165 : Cond.code ⟨"SwornDays$State", "clash", "(II)Z"⟩ prog_7_method_9_code 5 (some .boolean) ∈ lw_tbl := sd_t5 (List.mem_of_getElem? (i := 126) rfl)
theorem sd_w166 : Cond.code ⟨"SwornDays$State", "forbids", "(II)Z"⟩ prog_7_method_10_code 5 (some .boolean) ∈ lw_tbl := sd_t5 (List.mem_of_getElem? (i := 131) rfl)
theorem sd_w167 : Cond.code ⟨"SwornDays", "easy", "()I"⟩ prog_1_method_49_code 3 (some .int) ∈ lw_tbl := sd_t5 (List.mem_of_getElem? (i := 135) rfl)
theorem sd_w168 : Cond.code ⟨"SwornDays", "left", "(I)I"⟩ prog_1_method_50_code 2 (some .int) ∈ lw_tbl := sd_t5 (List.mem_of_getElem? (i := 140) rfl)
theorem sd_w169 : Cond.code ⟨"SwornDays", "image", "()I"⟩ prog_1_method_51_code 1 (some .int) ∈ lw_tbl := sd_t5 (List.mem_of_getElem? (i := 145) rfl)
theorem sd_w170 : Cond.code ⟨"SwornDays", "back", "()I"⟩ prog_1_method_52_code 1 (some .int) ∈ lw_tbl := sd_t5 (List.mem_of_getElem? (i := 149) rfl)
theorem sd_w171 : Cond.code ⟨"SwornDays", "count", "(I)I"⟩ prog_1_method_53_code 2 (some .int) ∈ lw_tbl := sd_t5 (List.mem_of_getElem? (i := 153) rfl)
theorem sd_w172 : Cond.code ⟨"SwornDays", "person", "(II)I"⟩ prog_1_method_7_code 4 (some .int) ∈ lw_tbl := sd_t5 (List.mem_of_getElem? (i := 161) rfl)
theorem sd_w173 : Cond.code ⟨"SwornDaysModel", "<init>", "()V"⟩ prog_13_method_1_code 1 none ∈ lw_tbl := sd_t5 (List.mem_of_getElem? (i := 232) rfl)
theorem sd_w174 : Cond.code ⟨"SwornDaysModel", "thrown", "()I"⟩ prog_13_method_2_code 1 (some .int) ∈ lw_tbl := sd_t6 (List.mem_of_getElem? (i := 177) rfl)
theorem sd_w175 : Cond.code ⟨"SwornDaysModel", "feed", "(IIIII)I"⟩ prog_13_method_8_code 6 (some .int) ∈ lw_tbl := sd_t6 (List.mem_of_getElem? (i := 181) rfl)
theorem sd_w176 : Cond.code ⟨"SwornDaysModel", "bytesIn", "(I)I"⟩ prog_13_method_6_code 3 (some .int) ∈ lw_tbl := sd_t6 (List.mem_of_getElem? (i := 184) rfl)
theorem sd_w177 : Cond.code ⟨"SwornDaysModel", "put", "(I)V"⟩ prog_13_method_7_code 3 none ∈ lw_tbl := sd_t6 (List.mem_of_getElem? (i := 188) rfl)
theorem sd_w178 : Cond.code ⟨"SwornDaysModel", "end", "(I)Z"⟩ prog_13_method_9_code 2 (some .boolean) ∈ lw_tbl := sd_t6 (List.mem_of_getElem? (i := 192) rfl)
theorem sd_w179 : Cond.code ⟨"SwornDaysModel", "fault", "(I)I"⟩ prog_13_method_38_code 2 (some .int) ∈ lw_tbl := sd_t6 (List.mem_of_getElem? (i := 196) rfl)
theorem sd_w180 : Cond.code ⟨"SwornDaysModel", "isIn", "(JJJ)Z"⟩ prog_13_method_3_code 6 (some .boolean) ∈ lw_tbl := sd_t6 (List.mem_of_getElem? (i := 200) rfl)
theorem sd_w181 : Cond.code ⟨"SwornDaysModel", "readCountry", "()V"⟩ prog_13_method_37_code 2 none ∈ lw_tbl := sd_t6 (List.mem_of_getElem? (i := 204) rfl)
theorem sd_w182 : Cond.code ⟨"SwornDaysModel", "starts", "([BII)V"⟩ prog_13_method_25_code 4 none ∈ lw_tbl := sd_t6 (List.mem_of_getElem? (i := 208) rfl)
theorem sd_w183 : Cond.code ⟨"SwornDaysModel", "readClause", "()V"⟩ prog_13_method_35_code 4 none ∈ lw_tbl := sd_t6 (List.mem_of_getElem? (i := 212) rfl)
theorem sd_w184 : Cond.code ⟨"SwornDaysModel", "look", "()I"⟩ prog_13_method_10_code 1 (some .int) ∈ lw_tbl := sd_t6 (List.mem_of_getElem? (i := 216) rfl)
theorem sd_w185 : Cond.code ⟨"SwornDaysModel", "fails", "()Z"⟩ prog_13_method_11_code 1 (some .boolean) ∈ lw_tbl := sd_t6 (List.mem_of_getElem? (i := 220) rfl)
theorem sd_w186 : Cond.code ⟨"SwornDaysModel", "readItems", "(I[IILjava/lang/String;)V"⟩ prog_13_method_33_code 7 none ∈ lw_tbl := sd_t6 (List.mem_of_getElem? (i := 225) rfl)
theorem sd_w187 : Cond.code ⟨"SwornDaysModel", "usual", "(II)I"⟩ prog_13_method_32_code 2 (some .int) ∈ lw_tbl := sd_t6 (List.mem_of_getElem? (i := 229) rfl)
theorem sd_w188 : Cond.code ⟨"SwornDaysModel", "spotOf", "(Ljava/lang/String;I)I"⟩ prog_13_method_28_code 3 (some .int) ∈ lw_tbl := sd_t6 (List.mem_of_getElem? (i := 232) rfl)
theorem sd_w189 : Cond.code ⟨"java/lang/String", "charAt", "(I)C"⟩ prog_22_method_56_code 2 (some .char) ∈ lw_tbl := sd_t6 (List.mem_of_getElem? (i := 236) rfl)
theorem sd_w190 : Cond.code ⟨"java/lang/StringLatin1", "charAt", "([BI)C"⟩ prog_23_method_2_code 2 (some .char) ∈ lw_tbl := sd_t6 (List.mem_of_getElem? (i := 239) rfl)
theorem sd_w191 : Cond.code ⟨"java/lang/String", "checkIndex", "(II)V"⟩ prog_22_method_155_code 2 none ∈ lw_tbl := sd_t7 (List.mem_of_getElem? (i := 2) rfl)
theorem sd_w192 : Cond.code ⟨"jdk/internal/util/Preconditions", "checkIndex", "(IILjava/util/function/BiFunction;)I"⟩ prog_30_method_11_code 3 (some .int) ∈ lw_tbl := sd_t7 (List.mem_of_getElem? (i := 5) rfl)
theorem sd_w193 : Cond.code ⟨"java/lang/StringUTF16", "charAt", "([BI)C"⟩ prog_24_method_83_code 2 (some .char) ∈ lw_tbl := sd_t7 (List.mem_of_getElem? (i := 8) rfl)
theorem sd_w194 : Cond.code ⟨"java/lang/StringUTF16", "checkIndex", "(I[B)V"⟩ prog_24_method_91_code 2 none ∈ lw_tbl := sd_t7 (List.mem_of_getElem? (i := 11) rfl)
theorem sd_w195 : Cond.code ⟨"SwornDaysModel", "has", "(II)Z"⟩ prog_13_method_4_code 2 (some .boolean) ∈ lw_tbl := sd_t7 (List.mem_of_getElem? (i := 15) rfl)
theorem sd_w196 : Cond.code ⟨"SwornDaysModel", "leastOf", "(II)I"⟩ prog_13_method_31_code 2 (some .int) ∈ lw_tbl := sd_t7 (List.mem_of_getElem? (i := 18) rfl)
theorem sd_w197 : Cond.code ⟨"SwornDaysModel", "mostOf", "(II)I"⟩ prog_13_method_30_code 2 (some .int) ∈ lw_tbl := sd_t7 (List.mem_of_getElem? (i := 21) rfl)
theorem sd_w198 : Cond.code ⟨"SwornDaysModel", "readItem", "([IIII)V"⟩ prog_13_method_29_code 7 none ∈ lw_tbl := sd_t7 (List.mem_of_getElem? (i := 25) rfl)
theorem sd_w199 : Cond.code ⟨"SwornDaysModel", "isDigit", "()Z"⟩ prog_13_method_14_code 1 (some .boolean) ∈ lw_tbl := sd_t7 (List.mem_of_getElem? (i := 29) rfl)
theorem sd_w200 : Cond.code ⟨"SwornDaysModel", "here", "()I"⟩ prog_13_method_27_code 1 (some .int) ∈ lw_tbl := sd_t7 (List.mem_of_getElem? (i := 33) rfl)
theorem sd_w201 : Cond.code ⟨"SwornDaysModel", "readRow", "([II)V"⟩ prog_13_method_34_code 6 none ∈ lw_tbl := sd_t7 (List.mem_of_getElem? (i := 37) rfl)
theorem sd_w202 : Cond.code ⟨"SwornDaysModel", "isWhole", "()Z"⟩ prog_13_method_36_code 3 (some .boolean) ∈ lw_tbl := sd_t7 (List.mem_of_getElem? (i := 46) rfl)
theorem sd_w203 : Cond.code ⟨"SwornDaysModel", "goThrough", "([BII)V"⟩ prog_13_method_26_code 4 none ∈ lw_tbl := sd_t7 (List.mem_of_getElem? (i := 50) rfl)
theorem sd_w204 : Cond.code ⟨"SwornDaysModel", "clause", "()V"⟩ prog_13_method_24_code 5 none ∈ lw_tbl := sd_t7 (List.mem_of_getElem? (i := 54) rfl)
theorem sd_w205 : Cond.code ⟨"SwornDaysModel", "isAmong", "(Ljava/lang/String;I)Z"⟩ prog_13_method_5_code 3 (some .boolean) ∈ lw_tbl := sd_t7 (List.mem_of_getElem? (i := 57) rfl)
theorem sd_w206 : Cond.code ⟨"SwornDaysModel", "takes", "(I)Z"⟩ prog_13_method_13_code 2 (some .boolean) ∈ lw_tbl := sd_t7 (List.mem_of_getElem? (i := 61) rfl)
theorem sd_w207 : Cond.code ⟨"SwornDaysModel", "condition", "(ZI)Z"⟩ prog_13_method_23_code 5 (some .boolean) ∈ lw_tbl := sd_t7 (List.mem_of_getElem? (i := 65) rfl)
theorem sd_w208 : Cond.code ⟨"SwornDaysModel", "part", "(ZI)Z"⟩ prog_13_method_22_code 5 (some .boolean) ∈ lw_tbl := sd_t7 (List.mem_of_getElem? (i := 69) rfl)
theorem sd_w209 : Cond.code ⟨"SwornDaysModel", "compares", "(ZI)Z"⟩ prog_13_method_20_code 6 (some .boolean) ∈ lw_tbl := sd_t7 (List.mem_of_getElem? (i := 73) rfl)
theorem sd_w210 : Cond.code ⟨"SwornDaysModel", "sum", "()I"⟩ prog_13_method_18_code 5 (some .int) ∈ lw_tbl := sd_t7 (List.mem_of_getElem? (i := 77) rfl)
theorem sd_w211 : Cond.code ⟨"SwornDaysModel", "term", "()I"⟩ prog_13_method_17_code 5 (some .int) ∈ lw_tbl := sd_t7 (List.mem_of_getElem? (i := 81) rfl)
theorem sd_w212 : Cond.code ⟨"SwornDaysModel", "atom", "()I"⟩ prog_13_method_16_code 4 (some .int) ∈ lw_tbl := sd_t7 (List.mem_of_getElem? (i := 85) rfl)
theorem sd_w213 : Cond.code ⟨"SwornDaysModel", "goesIn", "()Z"⟩ prog_13_method_12_code 1 (some .boolean) ∈ lw_tbl := sd_t7 (List.mem_of_getElem? (i := 89) rfl)
theorem sd_w214 : Cond.code ⟨"SwornDaysModel", "within", "(J)I"⟩ prog_13_method_15_code 2 (some .int) ∈ lw_tbl := sd_t7 (List.mem_of_getElem? (i := 92) rfl)
theorem sd_w215 : Cond.code ⟨"SwornDaysModel", "isSign", "(I)Z"⟩ prog_13_method_19_code 1 (some .boolean) ∈ lw_tbl := sd_t7 (List.mem_of_getElem? (i := 103) rfl)
theorem sd_w216 : Cond.code ⟨"SwornDaysModel", "unit", "()Z"⟩ prog_13_method_21_code 3 (some .boolean) ∈ lw_tbl := sd_t7 (List.mem_of_getElem? (i := 107) rfl)
theorem sd_w217 : Cond.code ⟨"SwornDaysModel", "text", "(I)I"⟩ prog_13_method_39_code 5 (some .int) ∈ lw_tbl := sd_t7 (List.mem_of_getElem? (i := 111) rfl)
theorem sd_w218 : Cond.code ⟨"SwornDaysModel", "person", "(II)I"⟩ prog_13_method_54_code 3 (some .int) ∈ lw_tbl := sd_t7 (List.mem_of_getElem? (i := 116) rfl)
theorem sd_w219 : Cond.code ⟨"SwornDaysModel", "isPerson", "(I)Z"⟩ prog_13_method_41_code 2 (some .boolean) ∈ lw_tbl := sd_t7 (List.mem_of_getElem? (i := 120) rfl)
theorem sd_w220 : Cond.code ⟨"SwornDaysModel", "deed", "(II)I"⟩ prog_13_method_55_code 3 (some .int) ∈ lw_tbl := sd_t7 (List.mem_of_getElem? (i := 126) rfl)
theorem sd_w221 : Cond.code ⟨"SwornDaysModel", "vow", "(II)I"⟩ prog_13_method_56_code 3 (some .int) ∈ lw_tbl := sd_t7 (List.mem_of_getElem? (i := 131) rfl)
theorem sd_w222 : Cond.code ⟨"SwornDaysModel", "eye", "(II)I"⟩ prog_13_method_57_code 3 (some .int) ∈ lw_tbl := sd_t7 (List.mem_of_getElem? (i := 136) rfl)
theorem sd_w223 : Cond.code ⟨"SwornDaysModel", "row", "(II)I"⟩ prog_13_method_60_code 3 (some .int) ∈ lw_tbl := sd_t7 (List.mem_of_getElem? (i := 141) rfl)
theorem sd_w224 : Cond.code ⟨"SwornDaysModel", "isRow", "(I)Z"⟩ prog_13_method_42_code 2 (some .boolean) ∈ lw_tbl := sd_t7 (List.mem_of_getElem? (i := 145) rfl)
theorem sd_w225 : Cond.code ⟨"SwornDaysModel", "rowLong", "(I)I"⟩ prog_13_method_58_code 2 (some .int) ∈ lw_tbl := sd_t7 (List.mem_of_getElem? (i := 149) rfl)
theorem sd_w226 : Cond.code ⟨"SwornDaysModel", "rowFrom", "(I)I"⟩ prog_13_method_59_code 1 (some .int) ∈ lw_tbl := sd_t7 (List.mem_of_getElem? (i := 152) rfl)
theorem sd_w227 : Cond.code ⟨"SwornDaysModel", "taste", "(I)Z"⟩ prog_13_method_61_code 2 (some .boolean) ∈ lw_tbl := sd_t7 (List.mem_of_getElem? (i := 156) rfl)
theorem sd_w228 : Cond.code ⟨"SwornDaysModel", "tempted", "(I)Z"⟩ prog_13_method_62_code 2 (some .boolean) ∈ lw_tbl := sd_t7 (List.mem_of_getElem? (i := 160) rfl)
theorem sd_w229 : Cond.code ⟨"SwornDaysModel", "broken", "(II)I"⟩ prog_13_method_63_code 3 (some .int) ∈ lw_tbl := sd_t7 (List.mem_of_getElem? (i := 165) rfl)
theorem sd_w230 : Cond.code ⟨"SwornDaysModel", "isPlain", "([II)Z"⟩ prog_13_method_47_code 2 (some .boolean) ∈ lw_tbl := sd_t7 (List.mem_of_getElem? (i := 168) rfl)
theorem sd_w231 : Cond.code ⟨"SwornDaysModel", "vowBreaks", "([II[III)I"⟩ prog_13_method_45_code 7 (some .int) ∈ lw_tbl := sd_t7 (List.mem_of_getElem? (i := 173) rfl)
theorem sd_w232 : Cond.code ⟨"SwornDaysModel", "breaksAt", "([IIIIIII)I"⟩ prog_13_method_44_code 10 (some .int) ∈ lw_tbl := sd_t7 (List.mem_of_getElem? (i := 176) rfl)
theorem sd_w233 : Cond.code ⟨"SwornDaysModel", "fares", "(I)I"⟩ prog_13_method_64_code 2 (some .int) ∈ lw_tbl := sd_t7 (List.mem_of_getElem? (i := 180) rfl)
theorem sd_w234 : Cond.code ⟨"SwornDaysModel", "isForce", "([II)Z"⟩ prog_13_method_43_code 3 (some .boolean) ∈ lw_tbl := sd_t7 (List.mem_of_getElem? (i := 184) rfl)
theorem sd_w235 : Cond.code ⟨"SwornDaysModel", "layFates", "([I)V"⟩ prog_13_method_50_code 6 none ∈ lw_tbl := sd_t7 (List.mem_of_getElem? (i := 188) rfl)
theorem sd_w236 : Cond.code ⟨"SwornDaysModel", "ownBreaks", "([II)I"⟩ prog_13_method_46_code 4 (some .int) ∈ lw_tbl := sd_t7 (List.mem_of_getElem? (i := 192) rfl)
theorem sd_w237 : Cond.code ⟨"SwornDaysModel", "isWay", "([II)Z"⟩ prog_13_method_49_code 8 (some .boolean) ∈ lw_tbl := sd_t7 (List.mem_of_getElem? (i := 196) rfl)
theorem sd_w238 : Cond.code ⟨"SwornDaysModel", "numberAbout", "(I)I"⟩ prog_13_method_48_code 3 (some .int) ∈ lw_tbl := sd_t7 (List.mem_of_getElem? (i := 200) rfl)
theorem sd_w239 : Cond.code ⟨"SwornDaysModel", "lives", "(II)I"⟩ prog_13_method_66_code 4 (some .int) ∈ lw_tbl := sd_t7 (List.mem_of_getElem? (i := 204) rfl)
theorem sd_w240 : Cond.code ⟨"SwornDaysModel", "remember", "()V"⟩ prog_13_method_65_code 2 none ∈ lw_tbl := sd_t7 (List.mem_of_getElem? (i := 208) rfl)
theorem sd_w241 : Cond.code ⟨"SwornDaysModel", "change", "(III)I"⟩ prog_13_method_67_code 4 (some .int) ∈ lw_tbl := sd_t7 (List.mem_of_getElem? (i := 212) rfl)
theorem sd_w242 : Cond.code ⟨"SwornDaysModel", "swear", "(III)I"⟩ prog_13_method_68_code 8 (some .int) ∈ lw_tbl := sd_t7 (List.mem_of_getElem? (i := 216) rfl)
theorem sd_w243 : Cond.code ⟨"SwornDaysModel", "pardon", "(I)Z"⟩ prog_13_method_69_code 2 (some .boolean) ∈ lw_tbl := sd_t7 (List.mem_of_getElem? (i := 220) rfl)
theorem sd_w244 : Cond.code ⟨"SwornDaysModel", "amnesty", "()I"⟩ prog_13_method_71_code 2 (some .int) ∈ lw_tbl := sd_t7 (List.mem_of_getElem? (i := 224) rfl)
theorem sd_w245 : Cond.code ⟨"SwornDaysModel", "inForce", "()I"⟩ prog_13_method_70_code 3 (some .int) ∈ lw_tbl := sd_t7 (List.mem_of_getElem? (i := 228) rfl)
theorem sd_w246 : Cond.code ⟨"SwornDaysModel", "days", "(I)I"⟩ prog_13_method_72_code 3 (some .int) ∈ lw_tbl := sd_t7 (List.mem_of_getElem? (i := 232) rfl)
theorem sd_w247 : Cond.code ⟨"SwornDaysModel", "goDay", "([I)V"⟩ prog_13_method_52_code 4 none ∈ lw_tbl := sd_t7 (List.mem_of_getElem? (i := 237) rfl)
theorem sd_w248 : Cond.code ⟨"SwornDaysModel", "dues", "([III)V"⟩ prog_13_method_53_code 6 none ∈ lw_tbl := sd_t8 (List.mem_of_getElem? (i := 1) rfl)
theorem sd_w249 : Cond.code ⟨"SwornDaysModel", "isSpanned", "(II)Z"⟩ prog_13_method_51_code 4 (some .boolean) ∈ lw_tbl := sd_t8 (List.mem_of_getElem? (i := 5) rfl)
theorem sd_w250 : Cond.code ⟨"SwornDaysModel", "decades", "(IJ)I"⟩ prog_13_method_74_code 6 (some .int) ∈ lw_tbl := sd_t8 (List.mem_of_getElem? (i := 9) rfl)
theorem sd_w251 : Cond.code ⟨"SwornDaysModel", "draw", "(I)I"⟩ prog_13_method_73_code 2 (some .int) ∈ lw_tbl := sd_t8 (List.mem_of_getElem? (i := 13) rfl)
theorem sd_w252 : Cond.code ⟨"SwornDaysModel", "undo", "()I"⟩ prog_13_method_75_code 2 (some .int) ∈ lw_tbl := sd_t8 (List.mem_of_getElem? (i := 19) rfl)
theorem sd_w253 : Cond.code ⟨"SwornDaysModel", "log", "(II)I"⟩ prog_13_method_76_code 3 (some .int) ∈ lw_tbl := sd_t8 (List.mem_of_getElem? (i := 23) rfl)
theorem sd_w254 : Cond.code ⟨"SwornDaysModel", "can", "(III)I"⟩ prog_13_method_82_code 7 (some .int) ∈ lw_tbl := sd_t8 (List.mem_of_getElem? (i := 27) rfl)
theorem sd_w255 : Cond.code ⟨"SwornDaysModel", "vowsOf", "(I)I"⟩ prog_13_method_79_code 4 (some .int) ∈ lw_tbl := sd_t8 (List.mem_of_getElem? (i := 31) rfl)
theorem sd_w256 : Cond.code ⟨"SwornDaysModel", "size", "(I)I"⟩ prog_13_method_81_code 1 (some .int) ∈ lw_tbl := sd_t8 (List.mem_of_getElem? (i := 34) rfl)
theorem sd_w257 : Cond.code ⟨"SwornDaysModel", "lay", "(II)V"⟩ prog_13_method_77_code 4 none ∈ lw_tbl := sd_t8 (List.mem_of_getElem? (i := 38) rfl)
theorem sd_w258 : Cond.code ⟨"SwornDaysModel", "keepsAll", "(II)Z"⟩ prog_13_method_80_code 4 (some .boolean) ∈ lw_tbl := sd_t8 (List.mem_of_getElem? (i := 42) rfl)
theorem sd_w259 : Cond.code ⟨"SwornDaysModel", "digits", "(I)I"⟩ prog_13_method_78_code 4 (some .int) ∈ lw_tbl := sd_t8 (List.mem_of_getElem? (i := 46) rfl)
theorem sd_w260 : Cond.code ⟨"SwornDaysModel", "strike", "(II)I"⟩ prog_13_method_84_code 6 (some .int) ∈ lw_tbl := sd_t8 (List.mem_of_getElem? (i := 50) rfl)
theorem sd_w261 : Cond.code ⟨"SwornDaysModel", "hasRow", "(II)Z"⟩ prog_13_method_83_code 4 (some .boolean) ∈ lw_tbl := sd_t8 (List.mem_of_getElem? (i := 55) rfl)
theorem sd_w262 : Cond.code ⟨"SwornDaysModel", "together", "(III)I"⟩ prog_13_method_85_code 7 (some .int) ∈ lw_tbl := sd_t8 (List.mem_of_getElem? (i := 59) rfl)
theorem sd_w263 : Cond.code ⟨"SwornDaysModel", "joy", "(II)I"⟩ prog_13_method_88_code 3 (some .int) ∈ lw_tbl := sd_t8 (List.mem_of_getElem? (i := 63) rfl)
theorem sd_w264 : Cond.code ⟨"SwornDaysModel", "joyBy", "(I[III)I"⟩ prog_13_method_87_code 8 (some .int) ∈ lw_tbl := sd_t8 (List.mem_of_getElem? (i := 67) rfl)
theorem sd_w265 : Cond.code ⟨"SwornDaysModel", "joyOne", "(IIII)I"⟩ prog_13_method_86_code 7 (some .int) ∈ lw_tbl := sd_t8 (List.mem_of_getElem? (i := 71) rfl)
theorem sd_w266 : Cond.code ⟨"SwornDaysModel", "best", "(III)I"⟩ prog_13_method_90_code 4 (some .int) ∈ lw_tbl := sd_t8 (List.mem_of_getElem? (i := 75) rfl)
theorem sd_w267 : Cond.code ⟨"SwornDaysModel", "layBest", "(III)Z"⟩ prog_13_method_89_code 6 (some .boolean) ∈ lw_tbl := sd_t8 (List.mem_of_getElem? (i := 79) rfl)
theorem sd_w268 : Cond.code ⟨"SwornDaysModel", "cost", "(II)I"⟩ prog_13_method_91_code 5 (some .int) ∈ lw_tbl := sd_t8 (List.mem_of_getElem? (i := 83) rfl)
theorem sd_w269 : Cond.code ⟨"SwornDaysModel", "sentence", "(IIII)I"⟩ prog_13_method_92_code 12 (some .int) ∈ lw_tbl := sd_t8 (List.mem_of_getElem? (i := 87) rfl)
theorem sd_w270 : Cond.code ⟨"SwornDaysModel", "loopholes", "(IIII)I"⟩ prog_13_method_94_code 8 (some .int) ∈ lw_tbl := sd_t8 (List.mem_of_getElem? (i := 91) rfl)
theorem sd_w271 : Cond.code ⟨"SwornDaysModel", "harmBy", "([III)I"⟩ prog_13_method_93_code 6 (some .int) ∈ lw_tbl := sd_t8 (List.mem_of_getElem? (i := 95) rfl)
theorem sd_w272 : Cond.code ⟨"SwornDaysModel", "harm", "(I)I"⟩ prog_13_method_95_code 2 (some .int) ∈ lw_tbl := sd_t8 (List.mem_of_getElem? (i := 99) rfl)
theorem sd_w273 : Cond.code ⟨"SwornDaysModel", "safe", "(I)I"⟩ prog_13_method_96_code 4 (some .int) ∈ lw_tbl := sd_t8 (List.mem_of_getElem? (i := 103) rfl)
theorem sd_w274 : Cond.code ⟨"SwornDaysModel", "cover", "(I)I"⟩ prog_13_method_98_code 6 (some .int) ∈ lw_tbl := sd_t8 (List.mem_of_getElem? (i := 107) rfl)
theorem sd_w275 : Cond.code ⟨"SwornDaysModel", "spanOf", "(I)I"⟩ prog_13_method_97_code 5 (some .int) ∈ lw_tbl := sd_t8 (List.mem_of_getElem? (i := 111) rfl)
theorem sd_w276 : Cond.code ⟨"SwornDaysModel", "bold", "(III)I"⟩ prog_13_method_99_code 8 (some .int) ∈ lw_tbl := sd_t8 (List.mem_of_getElem? (i := 115) rfl)
theorem sd_w277 : Cond.code ⟨"SwornDaysModel", "copy", "([I[I)V"⟩ prog_13_method_40_code 3 none ∈ lw_tbl := sd_t8 (List.mem_of_getElem? (i := 118) rfl)
theorem sd_w278 : Cond.code ⟨"SwornDaysModel", "fails", "(II)I"⟩ prog_13_method_100_code 8 (some .int) ∈ lw_tbl := sd_t8 (List.mem_of_getElem? (i := 122) rfl)
theorem sd_w279 : Cond.code ⟨"SwornDaysModel", "length", "(I)I"⟩ prog_13_method_102_code 3 (some .int) ∈ lw_tbl := sd_t8 (List.mem_of_getElem? (i := 126) rfl)
theorem sd_w280 : Cond.code ⟨"SwornDaysModel", "isBound", "([II)Z"⟩ prog_13_method_101_code 3 (some .boolean) ∈ lw_tbl := sd_t8 (List.mem_of_getElem? (i := 129) rfl)
theorem sd_w281 : Cond.code ⟨"SwornDaysModel", "see", "(II)I"⟩ prog_13_method_103_code 3 (some .int) ∈ lw_tbl := sd_t8 (List.mem_of_getElem? (i := 133) rfl)
theorem sd_w282 : Cond.code ⟨"SwornDaysModel", "promised", "(II)I"⟩ prog_13_method_107_code 5 (some .int) ∈ lw_tbl := sd_t8 (List.mem_of_getElem? (i := 137) rfl)
theorem sd_w283 : Cond.code ⟨"SwornDaysModel", "isPromise", "(I)Z"⟩ prog_13_method_104_code 5 (some .boolean) ∈ lw_tbl := sd_t8 (List.mem_of_getElem? (i := 140) rfl)
theorem sd_w284 : Cond.code ⟨"SwornDaysModel", "keepsSeen", "(II)Z"⟩ prog_13_method_105_code 4 (some .boolean) ∈ lw_tbl := sd_t8 (List.mem_of_getElem? (i := 144) rfl)
theorem sd_w285 : Cond.code ⟨"SwornDaysModel", "rowBreaks", "(II)Z"⟩ prog_13_method_106_code 3 (some .boolean) ∈ lw_tbl := sd_t8 (List.mem_of_getElem? (i := 148) rfl)
theorem sd_w286 : Cond.code ⟨"SwornDaysModel", "tells", "(II)I"⟩ prog_13_method_109_code 3 (some .int) ∈ lw_tbl := sd_t8 (List.mem_of_getElem? (i := 152) rfl)
theorem sd_w287 : Cond.code ⟨"SwornDaysModel", "brokenOf", "(II)I"⟩ prog_13_method_108_code 5 (some .int) ∈ lw_tbl := sd_t8 (List.mem_of_getElem? (i := 156) rfl)
theorem sd_w288 : Cond.code ⟨"SwornDaysModel", "tempting", "(I)I"⟩ prog_13_method_110_code 7 (some .int) ∈ lw_tbl := sd_t8 (List.mem_of_getElem? (i := 160) rfl)
theorem sd_w289 : Cond.code ⟨"SwornDaysModel", "huts", "(I)I"⟩ prog_13_method_113_code 5 (some .int) ∈ lw_tbl := sd_t8 (List.mem_of_getElem? (i := 166) rfl)
theorem sd_w290 : Cond.code ⟨"SwornDaysModel", "areHuts", "(II)Z"⟩ prog_13_method_112_code 6 (some .boolean) ∈ lw_tbl := sd_t8 (List.mem_of_getElem? (i := 170) rfl)
theorem sd_w291 : Cond.code ⟨"SwornDaysModel", "areAgainst", "(II)Z"⟩ prog_13_method_111_code 5 (some .boolean) ∈ lw_tbl := sd_t8 (List.mem_of_getElem? (i := 174) rfl)
theorem sd_w292 : Cond.code ⟨"SwornDaysModel", "easy", "()I"⟩ prog_13_method_114_code 3 (some .int) ∈ lw_tbl := sd_t8 (List.mem_of_getElem? (i := 178) rfl)
theorem sd_w293 : Cond.code ⟨"SwornDaysModel", "left", "(I)I"⟩ prog_13_method_115_code 4 (some .int) ∈ lw_tbl := sd_t8 (List.mem_of_getElem? (i := 183) rfl)
theorem sd_w294 : Cond.code ⟨"SwornDaysModel", "image", "()I"⟩ prog_13_method_116_code 1 (some .int) ∈ lw_tbl := sd_t8 (List.mem_of_getElem? (i := 187) rfl)
theorem sd_w295 : Cond.code ⟨"SwornDaysModel", "back", "()I"⟩ prog_13_method_117_code 1 (some .int) ∈ lw_tbl := sd_t8 (List.mem_of_getElem? (i := 191) rfl)
theorem sd_w296 : Cond.code ⟨"SwornDaysModel", "count", "(I)I"⟩ prog_13_method_118_code 2 (some .int) ∈ lw_tbl := sd_t8 (List.mem_of_getElem? (i := 195) rfl)
theorem sd_wc0 : ∀ q ∈ sd_ms0, Cond.code q.1 q.2.1 q.2.2.1 q.2.2.2.1 ∈ lw_tbl := List.forall_mem_cons.mpr ⟨sd_w0, List.forall_mem_cons.mpr ⟨sd_w1, List.forall_mem_cons.mpr ⟨sd_w2, List.forall_mem_cons.mpr ⟨sd_w3, List.forall_mem_cons.mpr ⟨sd_w4, List.forall_mem_cons.mpr ⟨sd_w5, List.forall_mem_cons.mpr ⟨sd_w6, List.forall_mem_cons.mpr ⟨sd_w7, List.forall_mem_cons.mpr ⟨sd_w8, List.forall_mem_cons.mpr ⟨sd_w9, List.forall_mem_cons.mpr ⟨sd_w10, List.forall_mem_cons.mpr ⟨sd_w11, List.forall_mem_cons.mpr ⟨sd_w12, List.forall_mem_cons.mpr ⟨sd_w13, List.forall_mem_cons.mpr ⟨sd_w14, List.forall_mem_cons.mpr ⟨sd_w15, List.forall_mem_cons.mpr ⟨sd_w16, List.forall_mem_cons.mpr ⟨sd_w17, List.forall_mem_cons.mpr ⟨sd_w18, List.forall_mem_cons.mpr ⟨sd_w19, List.forall_mem_cons.mpr ⟨sd_w20, List.forall_mem_cons.mpr ⟨sd_w21, List.forall_mem_cons.mpr ⟨sd_w22, List.forall_mem_cons.mpr ⟨sd_w23, List.forall_mem_cons.mpr ⟨sd_w24, List.forall_mem_cons.mpr ⟨sd_w25, List.forall_mem_cons.mpr ⟨sd_w26, List.forall_mem_cons.mpr ⟨sd_w27, List.forall_mem_cons.mpr ⟨sd_w28, List.forall_mem_cons.mpr ⟨sd_w29, List.forall_mem_cons.mpr ⟨sd_w30, List.forall_mem_cons.mpr ⟨sd_w31, List.forall_mem_cons.mpr ⟨sd_w32, List.forall_mem_cons.mpr ⟨sd_w33, List.forall_mem_cons.mpr ⟨sd_w34, List.forall_mem_cons.mpr ⟨sd_w35, List.forall_mem_cons.mpr ⟨sd_w36, List.forall_mem_cons.mpr ⟨sd_w37, List.forall_mem_cons.mpr ⟨sd_w38, List.forall_mem_cons.mpr ⟨sd_w39, fun _ h => absurd h List.not_mem_nil⟩⟩⟩⟩⟩⟩⟩⟩⟩⟩⟩⟩⟩⟩⟩⟩⟩⟩⟩⟩⟩⟩⟩⟩⟩⟩⟩⟩⟩⟩⟩⟩⟩⟩⟩⟩⟩⟩⟩⟩
theorem sd_wc1 : ∀ q ∈ sd_ms1, Cond.code q.1 q.2.1 q.2.2.1 q.2.2.2.1 ∈ lw_tbl := List.forall_mem_cons.mpr ⟨sd_w40, List.forall_mem_cons.mpr ⟨sd_w41, List.forall_mem_cons.mpr ⟨sd_w42, List.forall_mem_cons.mpr ⟨sd_w43, List.forall_mem_cons.mpr ⟨sd_w44, List.forall_mem_cons.mpr ⟨sd_w45, List.forall_mem_cons.mpr ⟨sd_w46, List.forall_mem_cons.mpr ⟨sd_w47, List.forall_mem_cons.mpr ⟨sd_w48, List.forall_mem_cons.mpr ⟨sd_w49, List.forall_mem_cons.mpr ⟨sd_w50, List.forall_mem_cons.mpr ⟨sd_w51, List.forall_mem_cons.mpr ⟨sd_w52, List.forall_mem_cons.mpr ⟨sd_w53, List.forall_mem_cons.mpr ⟨sd_w54, List.forall_mem_cons.mpr ⟨sd_w55, List.forall_mem_cons.mpr ⟨sd_w56, List.forall_mem_cons.mpr ⟨sd_w57, List.forall_mem_cons.mpr ⟨sd_w58, List.forall_mem_cons.mpr ⟨sd_w59, List.forall_mem_cons.mpr ⟨sd_w60, List.forall_mem_cons.mpr ⟨sd_w61, List.forall_mem_cons.mpr ⟨sd_w62, List.forall_mem_cons.mpr ⟨sd_w63, List.forall_mem_cons.mpr ⟨sd_w64, List.forall_mem_cons.mpr ⟨sd_w65, List.forall_mem_cons.mpr ⟨sd_w66, List.forall_mem_cons.mpr ⟨sd_w67, List.forall_mem_cons.mpr ⟨sd_w68, List.forall_mem_cons.mpr ⟨sd_w69, List.forall_mem_cons.mpr ⟨sd_w70, List.forall_mem_cons.mpr ⟨sd_w71, List.forall_mem_cons.mpr ⟨sd_w72, List.forall_mem_cons.mpr ⟨sd_w73, List.forall_mem_cons.mpr ⟨sd_w74, List.forall_mem_cons.mpr ⟨sd_w75, List.forall_mem_cons.mpr ⟨sd_w76, List.forall_mem_cons.mpr ⟨sd_w77, List.forall_mem_cons.mpr ⟨sd_w78, List.forall_mem_cons.mpr ⟨sd_w79, fun _ h => absurd h List.not_mem_nil⟩⟩⟩⟩⟩⟩⟩⟩⟩⟩⟩⟩⟩⟩⟩⟩⟩⟩⟩⟩⟩⟩⟩⟩⟩⟩⟩⟩⟩⟩⟩⟩⟩⟩⟩⟩⟩⟩⟩⟩
theorem sd_wc2 : ∀ q ∈ sd_ms2, Cond.code q.1 q.2.1 q.2.2.1 q.2.2.2.1 ∈ lw_tbl := List.forall_mem_cons.mpr ⟨sd_w80, List.forall_mem_cons.mpr ⟨sd_w81, List.forall_mem_cons.mpr ⟨sd_w82, List.forall_mem_cons.mpr ⟨sd_w83, List.forall_mem_cons.mpr ⟨sd_w84, List.forall_mem_cons.mpr ⟨sd_w85, List.forall_mem_cons.mpr ⟨sd_w86, List.forall_mem_cons.mpr ⟨sd_w87, List.forall_mem_cons.mpr ⟨sd_w88, List.forall_mem_cons.mpr ⟨sd_w89, List.forall_mem_cons.mpr ⟨sd_w90, List.forall_mem_cons.mpr ⟨sd_w91, List.forall_mem_cons.mpr ⟨sd_w92, List.forall_mem_cons.mpr ⟨sd_w93, List.forall_mem_cons.mpr ⟨sd_w94, List.forall_mem_cons.mpr ⟨sd_w95, List.forall_mem_cons.mpr ⟨sd_w96, List.forall_mem_cons.mpr ⟨sd_w97, List.forall_mem_cons.mpr ⟨sd_w98, List.forall_mem_cons.mpr ⟨sd_w99, List.forall_mem_cons.mpr ⟨sd_w100, List.forall_mem_cons.mpr ⟨sd_w101, List.forall_mem_cons.mpr ⟨sd_w102, List.forall_mem_cons.mpr ⟨sd_w103, List.forall_mem_cons.mpr ⟨sd_w104, List.forall_mem_cons.mpr ⟨sd_w105, List.forall_mem_cons.mpr ⟨sd_w106, List.forall_mem_cons.mpr ⟨sd_w107, List.forall_mem_cons.mpr ⟨sd_w108, List.forall_mem_cons.mpr ⟨sd_w109, List.forall_mem_cons.mpr ⟨sd_w110, List.forall_mem_cons.mpr ⟨sd_w111, List.forall_mem_cons.mpr ⟨sd_w112, List.forall_mem_cons.mpr ⟨sd_w113, List.forall_mem_cons.mpr ⟨sd_w114, List.forall_mem_cons.mpr ⟨sd_w115, List.forall_mem_cons.mpr ⟨sd_w116, List.forall_mem_cons.mpr ⟨sd_w117, List.forall_mem_cons.mpr ⟨sd_w118, List.forall_mem_cons.mpr ⟨sd_w119, fun _ h => absurd h List.not_mem_nil⟩⟩⟩⟩⟩⟩⟩⟩⟩⟩⟩⟩⟩⟩⟩⟩⟩⟩⟩⟩⟩⟩⟩⟩⟩⟩⟩⟩⟩⟩⟩⟩⟩⟩⟩⟩⟩⟩⟩⟩
theorem sd_wc3 : ∀ q ∈ sd_ms3, Cond.code q.1 q.2.1 q.2.2.1 q.2.2.2.1 ∈ lw_tbl := List.forall_mem_cons.mpr ⟨sd_w120, List.forall_mem_cons.mpr ⟨sd_w121, List.forall_mem_cons.mpr ⟨sd_w122, List.forall_mem_cons.mpr ⟨sd_w123, List.forall_mem_cons.mpr ⟨sd_w124, List.forall_mem_cons.mpr ⟨sd_w125, List.forall_mem_cons.mpr ⟨sd_w126, List.forall_mem_cons.mpr ⟨sd_w127, List.forall_mem_cons.mpr ⟨sd_w128, List.forall_mem_cons.mpr ⟨sd_w129, List.forall_mem_cons.mpr ⟨sd_w130, List.forall_mem_cons.mpr ⟨sd_w131, List.forall_mem_cons.mpr ⟨sd_w132, List.forall_mem_cons.mpr ⟨sd_w133, List.forall_mem_cons.mpr ⟨sd_w134, List.forall_mem_cons.mpr ⟨sd_w135, List.forall_mem_cons.mpr ⟨sd_w136, List.forall_mem_cons.mpr ⟨sd_w137, List.forall_mem_cons.mpr ⟨sd_w138, List.forall_mem_cons.mpr ⟨sd_w139, List.forall_mem_cons.mpr ⟨sd_w140, List.forall_mem_cons.mpr ⟨sd_w141, List.forall_mem_cons.mpr ⟨sd_w142, List.forall_mem_cons.mpr ⟨sd_w143, List.forall_mem_cons.mpr ⟨sd_w144, List.forall_mem_cons.mpr ⟨sd_w145, List.forall_mem_cons.mpr ⟨sd_w146, List.forall_mem_cons.mpr ⟨sd_w147, List.forall_mem_cons.mpr ⟨sd_w148, List.forall_mem_cons.mpr ⟨sd_w149, List.forall_mem_cons.mpr ⟨sd_w150, List.forall_mem_cons.mpr ⟨sd_w151, List.forall_mem_cons.mpr ⟨sd_w152, List.forall_mem_cons.mpr ⟨sd_w153, List.forall_mem_cons.mpr ⟨sd_w154, List.forall_mem_cons.mpr ⟨sd_w155, List.forall_mem_cons.mpr ⟨sd_w156, List.forall_mem_cons.mpr ⟨sd_w157, List.forall_mem_cons.mpr ⟨sd_w158, List.forall_mem_cons.mpr ⟨sd_w159, fun _ h => absurd h List.not_mem_nil⟩⟩⟩⟩⟩⟩⟩⟩⟩⟩⟩⟩⟩⟩⟩⟩⟩⟩⟩⟩⟩⟩⟩⟩⟩⟩⟩⟩⟩⟩⟩⟩⟩⟩⟩⟩⟩⟩⟩⟩
theorem sd_wc4 : ∀ q ∈ sd_ms4, Cond.code q.1 q.2.1 q.2.2.1 q.2.2.2.1 ∈ lw_tbl := List.forall_mem_cons.mpr ⟨sd_w160, List.forall_mem_cons.mpr ⟨sd_w161, List.forall_mem_cons.mpr ⟨sd_w162, List.forall_mem_cons.mpr ⟨sd_w163, List.forall_mem_cons.mpr ⟨sd_w164, List.forall_mem_cons.mpr ⟨sd_w165, List.forall_mem_cons.mpr ⟨sd_w166, List.forall_mem_cons.mpr ⟨sd_w167, List.forall_mem_cons.mpr ⟨sd_w168, List.forall_mem_cons.mpr ⟨sd_w169, List.forall_mem_cons.mpr ⟨sd_w170, List.forall_mem_cons.mpr ⟨sd_w171, List.forall_mem_cons.mpr ⟨sd_w172, List.forall_mem_cons.mpr ⟨sd_w173, List.forall_mem_cons.mpr ⟨sd_w174, List.forall_mem_cons.mpr ⟨sd_w175, List.forall_mem_cons.mpr ⟨sd_w176, List.forall_mem_cons.mpr ⟨sd_w177, List.forall_mem_cons.mpr ⟨sd_w178, List.forall_mem_cons.mpr ⟨sd_w179, List.forall_mem_cons.mpr ⟨sd_w180, List.forall_mem_cons.mpr ⟨sd_w181, List.forall_mem_cons.mpr ⟨sd_w182, List.forall_mem_cons.mpr ⟨sd_w183, List.forall_mem_cons.mpr ⟨sd_w184, List.forall_mem_cons.mpr ⟨sd_w185, List.forall_mem_cons.mpr ⟨sd_w186, List.forall_mem_cons.mpr ⟨sd_w187, List.forall_mem_cons.mpr ⟨sd_w188, List.forall_mem_cons.mpr ⟨sd_w189, List.forall_mem_cons.mpr ⟨sd_w190, List.forall_mem_cons.mpr ⟨sd_w191, List.forall_mem_cons.mpr ⟨sd_w192, List.forall_mem_cons.mpr ⟨sd_w193, List.forall_mem_cons.mpr ⟨sd_w194, List.forall_mem_cons.mpr ⟨sd_w195, List.forall_mem_cons.mpr ⟨sd_w196, List.forall_mem_cons.mpr ⟨sd_w197, List.forall_mem_cons.mpr ⟨sd_w198, List.forall_mem_cons.mpr ⟨sd_w199, fun _ h => absurd h List.not_mem_nil⟩⟩⟩⟩⟩⟩⟩⟩⟩⟩⟩⟩⟩⟩⟩⟩⟩⟩⟩⟩⟩⟩⟩⟩⟩⟩⟩⟩⟩⟩⟩⟩⟩⟩⟩⟩⟩⟩⟩⟩
theorem sd_wc5 : ∀ q ∈ sd_ms5, Cond.code q.1 q.2.1 q.2.2.1 q.2.2.2.1 ∈ lw_tbl := List.forall_mem_cons.mpr ⟨sd_w200, List.forall_mem_cons.mpr ⟨sd_w201, List.forall_mem_cons.mpr ⟨sd_w202, List.forall_mem_cons.mpr ⟨sd_w203, List.forall_mem_cons.mpr ⟨sd_w204, List.forall_mem_cons.mpr ⟨sd_w205, List.forall_mem_cons.mpr ⟨sd_w206, List.forall_mem_cons.mpr ⟨sd_w207, List.forall_mem_cons.mpr ⟨sd_w208, List.forall_mem_cons.mpr ⟨sd_w209, List.forall_mem_cons.mpr ⟨sd_w210, List.forall_mem_cons.mpr ⟨sd_w211, List.forall_mem_cons.mpr ⟨sd_w212, List.forall_mem_cons.mpr ⟨sd_w213, List.forall_mem_cons.mpr ⟨sd_w214, List.forall_mem_cons.mpr ⟨sd_w215, List.forall_mem_cons.mpr ⟨sd_w216, List.forall_mem_cons.mpr ⟨sd_w217, List.forall_mem_cons.mpr ⟨sd_w218, List.forall_mem_cons.mpr ⟨sd_w219, List.forall_mem_cons.mpr ⟨sd_w220, List.forall_mem_cons.mpr ⟨sd_w221, List.forall_mem_cons.mpr ⟨sd_w222, List.forall_mem_cons.mpr ⟨sd_w223, List.forall_mem_cons.mpr ⟨sd_w224, List.forall_mem_cons.mpr ⟨sd_w225, List.forall_mem_cons.mpr ⟨sd_w226, List.forall_mem_cons.mpr ⟨sd_w227, List.forall_mem_cons.mpr ⟨sd_w228, List.forall_mem_cons.mpr ⟨sd_w229, List.forall_mem_cons.mpr ⟨sd_w230, List.forall_mem_cons.mpr ⟨sd_w231, List.forall_mem_cons.mpr ⟨sd_w232, List.forall_mem_cons.mpr ⟨sd_w233, List.forall_mem_cons.mpr ⟨sd_w234, List.forall_mem_cons.mpr ⟨sd_w235, List.forall_mem_cons.mpr ⟨sd_w236, List.forall_mem_cons.mpr ⟨sd_w237, List.forall_mem_cons.mpr ⟨sd_w238, List.forall_mem_cons.mpr ⟨sd_w239, fun _ h => absurd h List.not_mem_nil⟩⟩⟩⟩⟩⟩⟩⟩⟩⟩⟩⟩⟩⟩⟩⟩⟩⟩⟩⟩⟩⟩⟩⟩⟩⟩⟩⟩⟩⟩⟩⟩⟩⟩⟩⟩⟩⟩⟩⟩
theorem sd_wc6 : ∀ q ∈ sd_ms6, Cond.code q.1 q.2.1 q.2.2.1 q.2.2.2.1 ∈ lw_tbl := List.forall_mem_cons.mpr ⟨sd_w240, List.forall_mem_cons.mpr ⟨sd_w241, List.forall_mem_cons.mpr ⟨sd_w242, List.forall_mem_cons.mpr ⟨sd_w243, List.forall_mem_cons.mpr ⟨sd_w244, List.forall_mem_cons.mpr ⟨sd_w245, List.forall_mem_cons.mpr ⟨sd_w246, List.forall_mem_cons.mpr ⟨sd_w247, List.forall_mem_cons.mpr ⟨sd_w248, List.forall_mem_cons.mpr ⟨sd_w249, List.forall_mem_cons.mpr ⟨sd_w250, List.forall_mem_cons.mpr ⟨sd_w251, List.forall_mem_cons.mpr ⟨sd_w252, List.forall_mem_cons.mpr ⟨sd_w253, List.forall_mem_cons.mpr ⟨sd_w254, List.forall_mem_cons.mpr ⟨sd_w255, List.forall_mem_cons.mpr ⟨sd_w256, List.forall_mem_cons.mpr ⟨sd_w257, List.forall_mem_cons.mpr ⟨sd_w258, List.forall_mem_cons.mpr ⟨sd_w259, List.forall_mem_cons.mpr ⟨sd_w260, List.forall_mem_cons.mpr ⟨sd_w261, List.forall_mem_cons.mpr ⟨sd_w262, List.forall_mem_cons.mpr ⟨sd_w263, List.forall_mem_cons.mpr ⟨sd_w264, List.forall_mem_cons.mpr ⟨sd_w265, List.forall_mem_cons.mpr ⟨sd_w266, List.forall_mem_cons.mpr ⟨sd_w267, List.forall_mem_cons.mpr ⟨sd_w268, List.forall_mem_cons.mpr ⟨sd_w269, List.forall_mem_cons.mpr ⟨sd_w270, List.forall_mem_cons.mpr ⟨sd_w271, List.forall_mem_cons.mpr ⟨sd_w272, List.forall_mem_cons.mpr ⟨sd_w273, List.forall_mem_cons.mpr ⟨sd_w274, List.forall_mem_cons.mpr ⟨sd_w275, List.forall_mem_cons.mpr ⟨sd_w276, List.forall_mem_cons.mpr ⟨sd_w277, List.forall_mem_cons.mpr ⟨sd_w278, List.forall_mem_cons.mpr ⟨sd_w279, fun _ h => absurd h List.not_mem_nil⟩⟩⟩⟩⟩⟩⟩⟩⟩⟩⟩⟩⟩⟩⟩⟩⟩⟩⟩⟩⟩⟩⟩⟩⟩⟩⟩⟩⟩⟩⟩⟩⟩⟩⟩⟩⟩⟩⟩⟩
theorem sd_wc7 : ∀ q ∈ sd_ms7, Cond.code q.1 q.2.1 q.2.2.1 q.2.2.2.1 ∈ lw_tbl := List.forall_mem_cons.mpr ⟨sd_w280, List.forall_mem_cons.mpr ⟨sd_w281, List.forall_mem_cons.mpr ⟨sd_w282, List.forall_mem_cons.mpr ⟨sd_w283, List.forall_mem_cons.mpr ⟨sd_w284, List.forall_mem_cons.mpr ⟨sd_w285, List.forall_mem_cons.mpr ⟨sd_w286, List.forall_mem_cons.mpr ⟨sd_w287, List.forall_mem_cons.mpr ⟨sd_w288, List.forall_mem_cons.mpr ⟨sd_w289, List.forall_mem_cons.mpr ⟨sd_w290, List.forall_mem_cons.mpr ⟨sd_w291, List.forall_mem_cons.mpr ⟨sd_w292, List.forall_mem_cons.mpr ⟨sd_w293, List.forall_mem_cons.mpr ⟨sd_w294, List.forall_mem_cons.mpr ⟨sd_w295, List.forall_mem_cons.mpr ⟨sd_w296, fun _ h => absurd h List.not_mem_nil⟩⟩⟩⟩⟩⟩⟩⟩⟩⟩⟩⟩⟩⟩⟩⟩⟩
theorem sd_codeIn : ∀ q ∈ sd_ms, Cond.code q.1 q.2.1 q.2.2.1 q.2.2.2.1 ∈ lw_tbl := List.forall_mem_append.mpr ⟨sd_wc0, List.forall_mem_append.mpr ⟨sd_wc1, List.forall_mem_append.mpr ⟨sd_wc2, List.forall_mem_append.mpr ⟨sd_wc3, List.forall_mem_append.mpr ⟨sd_wc4, List.forall_mem_append.mpr ⟨sd_wc5, List.forall_mem_append.mpr ⟨sd_wc6, sd_wc7⟩⟩⟩⟩⟩⟩⟩
