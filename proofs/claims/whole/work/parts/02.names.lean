-- static tables of the claim, written by wip/whole/gen02.py
def zr0 : String := "PursesByLot$Border"
def zt0 : u_T := fun k => match k with
  | 0 => ("PursesByLot$Border", "bestSure", "I", false)
  | 1 => ("PursesByLot$Border", "bestLot", "I", false)
  | 2 => ("PursesByLot$Border", "bestAbove", "I", false)
  | 3 => ("PursesByLot$Border", "bestBelow", "I", false)
  | 4 => ("PursesByLot$Border", "found", "Z", false)
  | _ => ("PursesByLot$Border", "worthBefore", "[I", true)
def zy0 : Nat → FieldType := fun k => match k with
  | 0 => .int
  | 1 => .int
  | 2 => .int
  | 3 => .int
  | 4 => .boolean
  | _ => (.array .int)
theorem zn0 : ∀ a, a < 6 → ∀ b, b < 6 → a ≠ b → (zt0 a).2.1 ≠ (zt0 b).2.1 := by decide +kernel
theorem zp0 : ∀ k, k < 6 → parseFieldDescriptor (zt0 k).2.2.1 = some (zy0 k) := by decide +kernel
def zr1 : String := "PursesByLot$ItemReader"
def zt1 : u_T := fun k => match k with
  | 0 => ("PursesByLot$ItemReader", "letter", "I", false)
  | 1 => ("PursesByLot$ItemReader", "amount", "I", false)
  | 2 => ("PursesByLot$ItemReader", "first", "I", false)
  | 3 => ("PursesByLot$ItemReader", "second", "I", false)
  | _ => ("PursesByLot$ItemReader", "third", "I", false)
def zy1 : Nat → FieldType := fun k => match k with
  | 0 => .int
  | 1 => .int
  | 2 => .int
  | 3 => .int
  | _ => .int
theorem zn1 : ∀ a, a < 5 → ∀ b, b < 5 → a ≠ b → (zt1 a).2.1 ≠ (zt1 b).2.1 := by decide +kernel
theorem zp1 : ∀ k, k < 5 → parseFieldDescriptor (zt1 k).2.2.1 = some (zy1 k) := by decide +kernel
def zr2 : String := "PursesByLot$Ranking"
def zt2 : u_T := fun k => match k with
  | 0 => ("PursesByLot$Ranking", "size", "I", false)
  | 1 => ("PursesByLot$Ranking", "plan", "[I", true)
  | 2 => ("PursesByLot$Ranking", "points", "[I", true)
  | _ => ("PursesByLot$Ranking", "rank", "[I", true)
def zy2 : Nat → FieldType := fun k => match k with
  | 0 => .int
  | 1 => (.array .int)
  | 2 => (.array .int)
  | _ => (.array .int)
theorem zn2 : ∀ a, a < 4 → ∀ b, b < 4 → a ≠ b → (zt2 a).2.1 ≠ (zt2 b).2.1 := by decide +kernel
theorem zp2 : ∀ k, k < 4 → parseFieldDescriptor (zt2 k).2.2.1 = some (zy2 k) := by decide +kernel
def zr3 : String := "PursesByLot$Ratio"
def zt3 : u_T := fun k => match k with
  | 0 => ("PursesByLot$Ratio", "above", "I", false)
  | _ => ("PursesByLot$Ratio", "below", "I", false)
def zy3 : Nat → FieldType := fun k => match k with
  | 0 => .int
  | _ => .int
theorem zn3 : ∀ a, a < 2 → ∀ b, b < 2 → a ≠ b → (zt3 a).2.1 ≠ (zt3 b).2.1 := by decide +kernel
theorem zp3 : ∀ k, k < 2 → parseFieldDescriptor (zt3 k).2.2.1 = some (zy3 k) := by decide +kernel
def zr4 : String := "PursesByLot$Script"
def zt4 : u_T := fun k => match k with
  | 0 => ("PursesByLot$Script", "bytes", "[B", true)
  | _ => ("PursesByLot$Script", "length", "I", false)
def zy4 : Nat → FieldType := fun k => match k with
  | 0 => (.array .byte)
  | _ => .int
theorem zn4 : ∀ a, a < 2 → ∀ b, b < 2 → a ≠ b → (zt4 a).2.1 ≠ (zt4 b).2.1 := by decide +kernel
theorem zp4 : ∀ k, k < 2 → parseFieldDescriptor (zt4 k).2.2.1 = some (zy4 k) := by decide +kernel
def zr5 : String := "PursesByLot$Sheet"
def zt5 : u_T := fun k => match k with
  | 0 => ("PursesByLot$Sheet", "plans", "I", false)
  | 1 => ("PursesByLot$Sheet", "worth", "[I", true)
  | 2 => ("PursesByLot$Sheet", "safe", "[I", true)
  | 3 => ("PursesByLot$Sheet", "author", "[I", true)
  | 4 => ("PursesByLot$Sheet", "judges", "I", false)
  | 5 => ("PursesByLot$Sheet", "lean", "[I", true)
  | 6 => ("PursesByLot$Sheet", "fond", "[I", true)
  | 7 => ("PursesByLot$Sheet", "rough", "[I", true)
  | 8 => ("PursesByLot$Sheet", "sure", "I", false)
  | 9 => ("PursesByLot$Sheet", "inLot", "I", false)
  | 10 => ("PursesByLot$Sheet", "prizes", "I", false)
  | 11 => ("PursesByLot$Sheet", "coinEach", "I", false)
  | 12 => ("PursesByLot$Sheet", "hoursOfWriter", "I", false)
  | 13 => ("PursesByLot$Sheet", "hoursOfJudge", "I", false)
  | 14 => ("PursesByLot$Sheet", "hadAtFirst", "[I", true)
  | _ => ("PursesByLot$Sheet", "patience", "I", false)
def zy5 : Nat → FieldType := fun k => match k with
  | 0 => .int
  | 1 => (.array .int)
  | 2 => (.array .int)
  | 3 => (.array .int)
  | 4 => .int
  | 5 => (.array .int)
  | 6 => (.array .int)
  | 7 => (.array .int)
  | 8 => .int
  | 9 => .int
  | 10 => .int
  | 11 => .int
  | 12 => .int
  | 13 => .int
  | 14 => (.array .int)
  | _ => .int
theorem zn5 : ∀ a, a < 16 → ∀ b, b < 16 → a ≠ b → (zt5 a).2.1 ≠ (zt5 b).2.1 := by decide +kernel
theorem zp5 : ∀ k, k < 16 → parseFieldDescriptor (zt5 k).2.2.1 = some (zy5 k) := by decide +kernel
def zr6 : String := "PursesByLot$Split"
def zt6 : u_T := fun k => match k with
  | 0 => ("PursesByLot$Split", "sure", "I", false)
  | 1 => ("PursesByLot$Split", "inLot", "I", false)
  | 2 => ("PursesByLot$Split", "prizes", "I", false)
  | 3 => ("PursesByLot$Split", "sureWorth", "I", false)
  | 4 => ("PursesByLot$Split", "undrawn", "I", false)
  | 5 => ("PursesByLot$Split", "lot", "[I", true)
  | _ => ("PursesByLot$Split", "worths", "[I", true)
def zy6 : Nat → FieldType := fun k => match k with
  | 0 => .int
  | 1 => .int
  | 2 => .int
  | 3 => .int
  | 4 => .int
  | 5 => (.array .int)
  | _ => (.array .int)
theorem zn6 : ∀ a, a < 7 → ∀ b, b < 7 → a ≠ b → (zt6 a).2.1 ≠ (zt6 b).2.1 := by decide +kernel
theorem zp6 : ∀ k, k < 7 → parseFieldDescriptor (zt6 k).2.2.1 = some (zy6 k) := by decide +kernel
def zr7 : String := "PursesByLot$Stretch"
def zt7 : u_T := fun k => match k with
  | 0 => ("PursesByLot$Stretch", "first", "I", false)
  | _ => ("PursesByLot$Stretch", "longest", "I", false)
def zy7 : Nat → FieldType := fun k => match k with
  | 0 => .int
  | _ => .int
theorem zn7 : ∀ a, a < 2 → ∀ b, b < 2 → a ≠ b → (zt7 a).2.1 ≠ (zt7 b).2.1 := by decide +kernel
theorem zp7 : ∀ k, k < 2 → parseFieldDescriptor (zt7 k).2.2.1 = some (zy7 k) := by decide +kernel
def zr8 : String := "PursesByLot$Times"
def zt8 : u_T := fun k => match k with
  | 0 => ("PursesByLot$Times", "had", "[I", true)
  | 1 => ("PursesByLot$Times", "running", "[I", true)
  | 2 => ("PursesByLot$Times", "gone", "[Z", true)
  | 3 => ("PursesByLot$Times", "yearNumber", "I", false)
  | _ => ("PursesByLot$Times", "brought", "I", false)
def zy8 : Nat → FieldType := fun k => match k with
  | 0 => (.array .int)
  | 1 => (.array .int)
  | 2 => (.array .boolean)
  | 3 => .int
  | _ => .int
theorem zn8 : ∀ a, a < 5 → ∀ b, b < 5 → a ≠ b → (zt8 a).2.1 ≠ (zt8 b).2.1 := by decide +kernel
theorem zp8 : ∀ k, k < 5 → parseFieldDescriptor (zt8 k).2.2.1 = some (zy8 k) := by decide +kernel
def zr9 : String := "PursesByLot"
def zt9 : u_T := fun k => match k with
  | 0 => ("PursesByLot", "script", "LPursesByLot$Script;", true)
  | 1 => ("PursesByLot", "reader", "LPursesByLot$ItemReader;", true)
  | 2 => ("PursesByLot", "laid", "LPursesByLot$Sheet;", false)
  | 3 => ("PursesByLot", "draft", "LPursesByLot$Sheet;", false)
  | 4 => ("PursesByLot", "laterOf", "[I", true)
  | 5 => ("PursesByLot", "times", "LPursesByLot$Times;", true)
  | 6 => ("PursesByLot", "trial", "LPursesByLot$Times;", true)
  | 7 => ("PursesByLot", "keptFirst", "LPursesByLot$Times;", true)
  | 8 => ("PursesByLot", "keptSecond", "LPursesByLot$Times;", true)
  | 9 => ("PursesByLot", "kept", "I", false)
  | 10 => ("PursesByLot", "ranking", "LPursesByLot$Ranking;", true)
  | 11 => ("PursesByLot", "other", "LPursesByLot$Ranking;", true)
  | 12 => ("PursesByLot", "split", "LPursesByLot$Split;", true)
  | 13 => ("PursesByLot", "stretch", "LPursesByLot$Stretch;", true)
  | 14 => ("PursesByLot", "ratio", "LPursesByLot$Ratio;", true)
  | 15 => ("PursesByLot", "border", "LPursesByLot$Border;", true)
  | _ => ("PursesByLot", "paidAhead", "[I", true)
def zy9 : Nat → FieldType := fun k => match k with
  | 0 => (.object "PursesByLot$Script")
  | 1 => (.object "PursesByLot$ItemReader")
  | 2 => (.object "PursesByLot$Sheet")
  | 3 => (.object "PursesByLot$Sheet")
  | 4 => (.array .int)
  | 5 => (.object "PursesByLot$Times")
  | 6 => (.object "PursesByLot$Times")
  | 7 => (.object "PursesByLot$Times")
  | 8 => (.object "PursesByLot$Times")
  | 9 => .int
  | 10 => (.object "PursesByLot$Ranking")
  | 11 => (.object "PursesByLot$Ranking")
  | 12 => (.object "PursesByLot$Split")
  | 13 => (.object "PursesByLot$Stretch")
  | 14 => (.object "PursesByLot$Ratio")
  | 15 => (.object "PursesByLot$Border")
  | _ => (.array .int)
theorem zn9 : ∀ a, a < 17 → ∀ b, b < 17 → a ≠ b → (zt9 a).2.1 ≠ (zt9 b).2.1 := by decide +kernel
theorem zp9 : ∀ k, k < 17 → parseFieldDescriptor (zt9 k).2.2.1 = some (zy9 k) := by decide +kernel
def zr10 : String := "PursesByLotModel"
def zt10 : u_T := fun k => match k with
  | 0 => ("PursesByLotModel", "length", "I", false)
  | 1 => ("PursesByLotModel", "text", "[B", true)
  | 2 => ("PursesByLotModel", "at", "I", false)
  | 3 => ("PursesByLotModel", "readPlans", "I", false)
  | 4 => ("PursesByLotModel", "readPlan", "[I", true)
  | 5 => ("PursesByLotModel", "readJudges", "I", false)
  | 6 => ("PursesByLotModel", "readJudge", "[I", true)
  | 7 => ("PursesByLotModel", "readRest", "[I", true)
  | 8 => ("PursesByLotModel", "readHad", "[I", true)
  | 9 => ("PursesByLotModel", "plans", "I", false)
  | 10 => ("PursesByLotModel", "plan", "[I", true)
  | 11 => ("PursesByLotModel", "judges", "I", false)
  | 12 => ("PursesByLotModel", "judge", "[I", true)
  | 13 => ("PursesByLotModel", "rest", "[I", true)
  | 14 => ("PursesByLotModel", "later", "[I", true)
  | 15 => ("PursesByLotModel", "kept", "I", false)
  | 16 => ("PursesByLotModel", "had", "[I", true)
  | 17 => ("PursesByLotModel", "running", "[I", true)
  | 18 => ("PursesByLotModel", "left", "[Z", true)
  | 19 => ("PursesByLotModel", "year", "[I", true)
  | 20 => ("PursesByLotModel", "brought", "[I", true)
  | 21 => ("PursesByLotModel", "many", "[I", true)
  | 22 => ("PursesByLotModel", "order", "[I", true)
  | 23 => ("PursesByLotModel", "rank", "[I", true)
  | 24 => ("PursesByLotModel", "marks", "[I", true)
  | 25 => ("PursesByLotModel", "sure", "I", false)
  | 26 => ("PursesByLotModel", "lot", "I", false)
  | 27 => ("PursesByLotModel", "draws", "I", false)
  | 28 => ("PursesByLotModel", "waiting", "[I", true)
  | 29 => ("PursesByLotModel", "paid", "[Z", true)
  | 30 => ("PursesByLotModel", "paidAlso", "[Z", true)
  | 31 => ("PursesByLotModel", "above", "J", false)
  | _ => ("PursesByLotModel", "below", "J", false)
def zy10 : Nat → FieldType := fun k => match k with
  | 0 => .int
  | 1 => (.array .byte)
  | 2 => .int
  | 3 => .int
  | 4 => (.array .int)
  | 5 => .int
  | 6 => (.array .int)
  | 7 => (.array .int)
  | 8 => (.array .int)
  | 9 => .int
  | 10 => (.array .int)
  | 11 => .int
  | 12 => (.array .int)
  | 13 => (.array .int)
  | 14 => (.array .int)
  | 15 => .int
  | 16 => (.array .int)
  | 17 => (.array .int)
  | 18 => (.array .boolean)
  | 19 => (.array .int)
  | 20 => (.array .int)
  | 21 => (.array .int)
  | 22 => (.array .int)
  | 23 => (.array .int)
  | 24 => (.array .int)
  | 25 => .int
  | 26 => .int
  | 27 => .int
  | 28 => (.array .int)
  | 29 => (.array .boolean)
  | 30 => (.array .boolean)
  | 31 => .long
  | _ => .long
theorem zn10 : ∀ a, a < 33 → ∀ b, b < 33 → a ≠ b → (zt10 a).2.1 ≠ (zt10 b).2.1 := by decide +kernel
theorem zp10 : ∀ k, k < 33 → parseFieldDescriptor (zt10 k).2.2.1 = some (zy10 k) := by decide +kernel
abbrev zcls : List vw_C := [(zr0, zt0, 6), (zr1, zt1, 5), (zr2, zt2, 4), (zr3, zt3, 2), (zr4, zt4, 2), (zr5, zt5, 16), (zr6, zt6, 7), (zr7, zt7, 2), (zr8, zt8, 5), (zr9, zt9, 17), (zr10, zt10, 33)]
def zty : Nat → Nat → FieldType := fun c => match c with
  | 0 => zy0
  | 1 => zy1
  | 2 => zy2
  | 3 => zy3
  | 4 => zy4
  | 5 => zy5
  | 6 => zy6
  | 7 => zy7
  | 8 => zy8
  | 9 => zy9
  | _ => zy10
/-- the default fields of a new object -/
def zdf : Nat → List Value := fun c => match c with
  | 0 => [.int 0, .int 0, .int 0, .int 0, .int 0, .null]
  | 1 => [.int 0, .int 0, .int 0, .int 0, .int 0]
  | 2 => [.int 0, .null, .null, .null]
  | 3 => [.int 0, .int 0]
  | 4 => [.null, .int 0]
  | 5 => [.int 0, .null, .null, .null, .int 0, .null, .null, .null, .int 0, .int 0, .int 0, .int 0, .int 0, .int 0, .null, .int 0]
  | 6 => [.int 0, .int 0, .int 0, .int 0, .int 0, .null, .null]
  | 7 => [.int 0, .int 0]
  | 8 => [.null, .null, .null, .int 0, .int 0]
  | 9 => [.null, .null, .null, .null, .null, .null, .null, .null, .null, .int 0, .null, .null, .null, .null, .null, .null, .null]
  | _ => [.int 0, .null, .int 0, .int 0, .null, .int 0, .null, .null, .null, .int 0, .null, .int 0, .null, .null, .null, .int 0, .null, .null, .null, .null, .null, .null, .null, .null, .null, .int 0, .int 0, .int 0, .null, .null, .null, .long 0, .long 0]
/-- class names by number -/
def zcn : List String := ["PursesByLot$Border", "PursesByLot$ItemReader", "PursesByLot$Ranking", "PursesByLot$Ratio", "PursesByLot$Script", "PursesByLot$Sheet", "PursesByLot$Split", "PursesByLot$Stretch", "PursesByLot$Times", "PursesByLot", "PursesByLotModel", "PursesByLotLaw", "java/lang/Integer", "java/lang/Math", "java/util/Arrays", "java/lang/Object"]
/-- a method: name, bytes, locals, what it returns, room, locals that hold longs, number of its class, 1 if static, how many parameters, place of its code word -/
abbrev ZM : Type := MethodName × ByteArray × Nat × Option FieldType × Room × List Nat × Nat × Nat × Nat × Nat
def zm0 : ZM := (⟨"PursesByLotLaw", "law", "([I)Z"⟩, code, 4, (some .boolean), { frames := 8, cells := 75, slots := 2047, locals := 276 }, [], 11, 1, 1, 0)
def zm1 : ZM := (⟨"PursesByLot", "<init>", "()V"⟩, prog_1_method_1_code, 1, none, { frames := 2, cells := 52, slots := 1047, locals := 40 }, [], 9, 0, 0, 101)
def zm2 : ZM := (⟨"java/lang/Object", "<init>", "()V"⟩, object_method_1_code, 1, none, { frames := 0, cells := 0, slots := 0, locals := 0 }, [], 15, 0, 0, 104)
def zm3 : ZM := (⟨"PursesByLot$Script", "<init>", "()V"⟩, prog_6_method_1_code, 1, none, { frames := 1, cells := 1, slots := 400, locals := 20 }, [], 4, 0, 0, 109)
def zm4 : ZM := (⟨"PursesByLot$ItemReader", "<init>", "()V"⟩, prog_3_method_1_code, 1, none, { frames := 1, cells := 0, slots := 0, locals := 20 }, [], 1, 0, 0, 125)
def zm5 : ZM := (⟨"PursesByLot$Sheet", "<init>", "()V"⟩, prog_7_method_1_code, 1, none, { frames := 1, cells := 7, slots := 98, locals := 20 }, [], 5, 0, 0, 152)
def zm6 : ZM := (⟨"PursesByLot$Times", "<init>", "()V"⟩, prog_10_method_1_code, 1, none, { frames := 1, cells := 3, slots := 24, locals := 20 }, [], 8, 0, 0, 224)
def zm7 : ZM := (⟨"PursesByLot$Ranking", "<init>", "()V"⟩, prog_4_method_1_code, 1, none, { frames := 1, cells := 3, slots := 72, locals := 20 }, [], 2, 0, 0, 252)
def zm8 : ZM := (⟨"PursesByLot$Split", "<init>", "()V"⟩, prog_8_method_1_code, 1, none, { frames := 1, cells := 2, slots := 48, locals := 20 }, [], 6, 0, 0, 274)
def zm9 : ZM := (⟨"PursesByLot$Stretch", "<init>", "()V"⟩, prog_9_method_1_code, 1, none, { frames := 1, cells := 0, slots := 0, locals := 20 }, [], 7, 0, 0, 306)
def zm10 : ZM := (⟨"PursesByLot$Ratio", "<init>", "()V"⟩, prog_5_method_1_code, 1, none, { frames := 1, cells := 0, slots := 0, locals := 20 }, [], 3, 0, 0, 321)
def zm11 : ZM := (⟨"PursesByLot$Border", "<init>", "()V"⟩, prog_2_method_1_code, 1, none, { frames := 1, cells := 1, slots := 25, locals := 20 }, [], 0, 0, 0, 336)
def zm12 : ZM := (⟨"PursesByLot", "write", "(IJ)I"⟩, prog_1_method_2_code, 4, (some .int), { frames := 1, cells := 0, slots := 0, locals := 24 }, [2], 9, 0, 2, 416)
def zm13 : ZM := (⟨"PursesByLot", "within", "(III)Z"⟩, prog_1_method_27_code, 3, (some .boolean), { frames := 0, cells := 0, slots := 0, locals := 0 }, [], 9, 1, 3, 419)
def zm14 : ZM := (⟨"PursesByLot$Script", "append", "(IJ)V"⟩, prog_6_method_2_code, 5, none, { frames := 0, cells := 0, slots := 0, locals := 0 }, [2], 4, 0, 2, 423)
def zm15 : ZM := (⟨"PursesByLot", "wipe", "()I"⟩, prog_1_method_3_code, 2, (some .int), { frames := 0, cells := 0, slots := 0, locals := 0 }, [], 9, 0, 0, 427)
def zm16 : ZM := (⟨"PursesByLot", "fault", "()I"⟩, prog_1_method_4_code, 1, (some .int), { frames := 4, cells := 0, slots := 0, locals := 98 }, [], 9, 0, 0, 431)
def zm17 : ZM := (⟨"PursesByLot$ItemReader", "readAll", "(LPursesByLot$Script;LPursesByLot$Sheet;)I"⟩, prog_3_method_2_code, 6, (some .int), { frames := 3, cells := 0, slots := 0, locals := 73 }, [], 1, 0, 2, 435)
def zm18 : ZM := (⟨"PursesByLot$Sheet", "clear", "()V"⟩, prog_7_method_2_code, 1, none, { frames := 1, cells := 0, slots := 0, locals := 23 }, [], 5, 0, 0, 439)
def zm19 : ZM := (⟨"java/util/Arrays", "fill", "([II)V"⟩, prog_15_method_103_code, 4, none, { frames := 0, cells := 0, slots := 0, locals := 0 }, [], 14, 1, 2, 442)
def zm20 : ZM := (⟨"PursesByLot$ItemReader", "readItem", "(LPursesByLot$Script;I)I"⟩, prog_3_method_3_code, 6, (some .int), { frames := 2, cells := 0, slots := 0, locals := 48 }, [], 1, 0, 2, 446)
def zm21 : ZM := (⟨"PursesByLot$Script", "byteAt", "(I)I"⟩, prog_6_method_3_code, 2, (some .int), { frames := 0, cells := 0, slots := 0, locals := 0 }, [], 4, 0, 1, 450)
def zm22 : ZM := (⟨"PursesByLot$ItemReader", "readNumber", "(LPursesByLot$Script;I)I"⟩, prog_3_method_4_code, 7, (some .int), { frames := 1, cells := 0, slots := 0, locals := 22 }, [], 1, 0, 2, 454)
def zm23 : ZM := (⟨"PursesByLot$ItemReader", "addNumber", "(I)V"⟩, prog_3_method_5_code, 2, none, { frames := 0, cells := 0, slots := 0, locals := 0 }, [], 1, 0, 1, 459)
def zm24 : ZM := (⟨"PursesByLot$Sheet", "take", "(LPursesByLot$ItemReader;)Z"⟩, prog_7_method_3_code, 2, (some .boolean), { frames := 1, cells := 0, slots := 0, locals := 23 }, [], 5, 0, 1, 463)
def zm25 : ZM := (⟨"PursesByLot$Sheet", "takePlan", "(III)Z"⟩, prog_7_method_4_code, 4, (some .boolean), { frames := 0, cells := 0, slots := 0, locals := 0 }, [], 5, 0, 3, 467)
def zm26 : ZM := (⟨"PursesByLot$Sheet", "takeJudge", "(III)Z"⟩, prog_7_method_5_code, 4, (some .boolean), { frames := 0, cells := 0, slots := 0, locals := 0 }, [], 5, 0, 3, 471)
def zm27 : ZM := (⟨"PursesByLot$Sheet", "takePurse", "(III)Z"⟩, prog_7_method_6_code, 4, (some .boolean), { frames := 0, cells := 0, slots := 0, locals := 0 }, [], 5, 0, 3, 475)
def zm28 : ZM := (⟨"PursesByLot$Sheet", "takeCoin", "(I)Z"⟩, prog_7_method_7_code, 2, (some .boolean), { frames := 0, cells := 0, slots := 0, locals := 0 }, [], 5, 0, 1, 479)
def zm29 : ZM := (⟨"PursesByLot$Sheet", "takeHours", "(II)Z"⟩, prog_7_method_8_code, 3, (some .boolean), { frames := 0, cells := 0, slots := 0, locals := 0 }, [], 5, 0, 2, 483)
def zm30 : ZM := (⟨"PursesByLot$Sheet", "takeHad", "(II)Z"⟩, prog_7_method_9_code, 3, (some .boolean), { frames := 0, cells := 0, slots := 0, locals := 0 }, [], 5, 0, 2, 487)
def zm31 : ZM := (⟨"PursesByLot$Sheet", "takePatience", "(I)Z"⟩, prog_7_method_10_code, 2, (some .boolean), { frames := 0, cells := 0, slots := 0, locals := 0 }, [], 5, 0, 1, 491)
def zm32 : ZM := (⟨"PursesByLot", "lay", "()I"⟩, prog_1_method_5_code, 2, (some .int), { frames := 4, cells := 0, slots := 0, locals := 98 }, [], 9, 0, 0, 495)
def zm33 : ZM := (⟨"PursesByLot$Times", "begin", "(LPursesByLot$Sheet;)V"⟩, prog_10_method_2_code, 3, none, { frames := 0, cells := 0, slots := 0, locals := 0 }, [], 8, 0, 1, 499)
def zm34 : ZM := (⟨"PursesByLot", "mark", "(III)I"⟩, prog_1_method_6_code, 4, (some .int), { frames := 1, cells := 0, slots := 0, locals := 27 }, [], 9, 0, 3, 504)
def zm35 : ZM := (⟨"PursesByLot", "isPlan", "(I)Z"⟩, prog_1_method_28_code, 2, (some .boolean), { frames := 0, cells := 0, slots := 0, locals := 0 }, [], 9, 0, 1, 508)
def zm36 : ZM := (⟨"PursesByLot", "isJudge", "(I)Z"⟩, prog_1_method_29_code, 2, (some .boolean), { frames := 0, cells := 0, slots := 0, locals := 0 }, [], 9, 0, 1, 512)
def zm37 : ZM := (⟨"PursesByLot", "isDraw", "(I)Z"⟩, prog_1_method_31_code, 1, (some .boolean), { frames := 0, cells := 0, slots := 0, locals := 0 }, [], 9, 1, 1, 515)
def zm38 : ZM := (⟨"PursesByLot$Times", "hadBy", "(I)I"⟩, prog_10_method_4_code, 2, (some .int), { frames := 0, cells := 0, slots := 0, locals := 0 }, [], 8, 0, 1, 519)
def zm39 : ZM := (⟨"PursesByLot$Sheet", "markOf", "(IIII)I"⟩, prog_7_method_11_code, 8, (some .int), { frames := 0, cells := 0, slots := 0, locals := 0 }, [], 5, 0, 4, 523)
def zm40 : ZM := (⟨"PursesByLot", "order", "(III)I"⟩, prog_1_method_7_code, 4, (some .int), { frames := 3, cells := 0, slots := 0, locals := 81 }, [], 9, 0, 3, 527)
def zm41 : ZM := (⟨"PursesByLot", "isPanel", "(I)Z"⟩, prog_1_method_30_code, 2, (some .boolean), { frames := 0, cells := 0, slots := 0, locals := 0 }, [], 9, 0, 1, 531)
def zm42 : ZM := (⟨"PursesByLot$Ranking", "arrange", "(LPursesByLot$Sheet;LPursesByLot$Times;IIZ)V"⟩, prog_4_method_2_code, 9, none, { frames := 2, cells := 0, slots := 0, locals := 53 }, [], 2, 0, 5, 535)
def zm43 : ZM := (⟨"PursesByLot$Times", "isHere", "(I)Z"⟩, prog_10_method_5_code, 2, (some .boolean), { frames := 0, cells := 0, slots := 0, locals := 0 }, [], 8, 0, 1, 540)
def zm44 : ZM := (⟨"PursesByLot$Ranking", "panelMark", "(LPursesByLot$Sheet;IIII)I"⟩, prog_4_method_3_code, 7, (some .int), { frames := 1, cells := 0, slots := 0, locals := 27 }, [], 2, 1, 5, 544)
def zm45 : ZM := (⟨"PursesByLot$Ranking", "enter", "(II)V"⟩, prog_4_method_4_code, 4, none, { frames := 0, cells := 0, slots := 0, locals := 0 }, [], 2, 0, 2, 549)
def zm46 : ZM := (⟨"PursesByLot$Ranking", "planAt", "(I)I"⟩, prog_4_method_5_code, 2, (some .int), { frames := 0, cells := 0, slots := 0, locals := 0 }, [], 2, 0, 1, 553)
def zm47 : ZM := (⟨"PursesByLot", "tell", "(IIIII)I"⟩, prog_1_method_8_code, 7, (some .int), { frames := 4, cells := 0, slots := 0, locals := 105 }, [], 9, 0, 5, 557)
def zm48 : ZM := (⟨"PursesByLot", "areTwoOrders", "(IIII)Z"⟩, prog_1_method_32_code, 5, (some .boolean), { frames := 1, cells := 0, slots := 0, locals := 21 }, [], 9, 0, 4, 561)
def zm49 : ZM := (⟨"PursesByLot", "arrangeTwo", "(IIII)V"⟩, prog_1_method_33_code, 5, none, { frames := 3, cells := 0, slots := 0, locals := 81 }, [], 9, 0, 4, 565)
def zm50 : ZM := (⟨"PursesByLot$Stretch", "alikePairs", "(LPursesByLot$Ranking;LPursesByLot$Ranking;)I"⟩, prog_9_method_2_code, 5, (some .int), { frames := 3, cells := 0, slots := 0, locals := 69 }, [], 7, 0, 2, 569)
def zm51 : ZM := (⟨"PursesByLot$Stretch", "alikeWith", "(LPursesByLot$Ranking;LPursesByLot$Ranking;II)I"⟩, prog_9_method_3_code, 7, (some .int), { frames := 2, cells := 0, slots := 0, locals := 43 }, [], 7, 1, 4, 572)
def zm52 : ZM := (⟨"PursesByLot$Ranking", "rankThere", "(LPursesByLot$Ranking;I)I"⟩, prog_4_method_7_code, 3, (some .int), { frames := 1, cells := 0, slots := 0, locals := 21 }, [], 2, 0, 2, 576)
def zm53 : ZM := (⟨"PursesByLot$Ranking", "rankOf", "(I)I"⟩, prog_4_method_6_code, 2, (some .int), { frames := 0, cells := 0, slots := 0, locals := 0 }, [], 2, 0, 1, 581)
def zm54 : ZM := (⟨"PursesByLot", "both", "(IIIIII)I"⟩, prog_1_method_9_code, 8, (some .int), { frames := 4, cells := 0, slots := 0, locals := 105 }, [], 9, 0, 6, 585)
def zm55 : ZM := (⟨"java/lang/Math", "min", "(II)I"⟩, prog_14_method_69_code, 2, (some .int), { frames := 0, cells := 0, slots := 0, locals := 0 }, [], 13, 1, 2, 588)
def zm56 : ZM := (⟨"PursesByLot$Ranking", "inFirstOfBoth", "(LPursesByLot$Ranking;I)I"⟩, prog_4_method_8_code, 5, (some .int), { frames := 2, cells := 0, slots := 0, locals := 43 }, [], 2, 0, 2, 592)
def zm57 : ZM := (⟨"PursesByLot$Ratio", "reduce", "(II)V"⟩, prog_5_method_2_code, 4, none, { frames := 1, cells := 0, slots := 0, locals := 25 }, [], 3, 0, 2, 597)
def zm58 : ZM := (⟨"java/lang/Math", "abs", "(I)I"⟩, prog_14_method_59_code, 1, (some .int), { frames := 0, cells := 0, slots := 0, locals := 0 }, [], 13, 1, 1, 600)
def zm59 : ZM := (⟨"PursesByLot$Ratio", "commonDivisor", "(II)I"⟩, prog_5_method_3_code, 6, (some .int), { frames := 0, cells := 0, slots := 0, locals := 0 }, [], 3, 1, 2, 603)
def zm60 : ZM := (⟨"PursesByLot", "coin", "(IIIII)I"⟩, prog_1_method_10_code, 6, (some .int), { frames := 4, cells := 0, slots := 0, locals := 105 }, [], 9, 0, 5, 607)
def zm61 : ZM := (⟨"PursesByLot$Stretch", "findLongest", "(LPursesByLot$Ranking;LPursesByLot$Ranking;)V"⟩, prog_9_method_4_code, 8, none, { frames := 3, cells := 0, slots := 0, locals := 69 }, [], 7, 0, 2, 611)
def zm62 : ZM := (⟨"PursesByLot", "drawn", "(IIII)I"⟩, prog_1_method_11_code, 7, (some .int), { frames := 4, cells := 0, slots := 0, locals := 103 }, [], 9, 0, 4, 615)
def zm63 : ZM := (⟨"PursesByLot", "splitOrder", "(II)V"⟩, prog_1_method_34_code, 3, none, { frames := 3, cells := 0, slots := 0, locals := 81 }, [], 9, 0, 2, 619)
def zm64 : ZM := (⟨"PursesByLot$Split", "divide", "(LPursesByLot$Sheet;I)V"⟩, prog_8_method_2_code, 3, none, { frames := 1, cells := 0, slots := 0, locals := 21 }, [], 6, 0, 2, 623)
def zm65 : ZM := (⟨"PursesByLot$Split", "fillLot", "(LPursesByLot$Ranking;)V"⟩, prog_8_method_3_code, 3, none, { frames := 1, cells := 0, slots := 0, locals := 21 }, [], 6, 0, 1, 628)
def zm66 : ZM := (⟨"PursesByLot$Split", "takeOne", "(II)I"⟩, prog_8_method_4_code, 6, (some .int), { frames := 1, cells := 0, slots := 0, locals := 22 }, [], 6, 0, 2, 633)
def zm67 : ZM := (⟨"java/lang/Math", "floorMod", "(II)I"⟩, prog_14_method_50_code, 3, (some .int), { frames := 0, cells := 0, slots := 0, locals := 0 }, [], 13, 1, 2, 636)
def zm68 : ZM := (⟨"PursesByLot", "chance", "(IIII)I"⟩, prog_1_method_12_code, 6, (some .int), { frames := 4, cells := 0, slots := 0, locals := 103 }, [], 9, 0, 4, 640)
def zm69 : ZM := (⟨"PursesByLot$Split", "chanceOf", "(ILPursesByLot$Ratio;)V"⟩, prog_8_method_6_code, 3, none, { frames := 2, cells := 0, slots := 0, locals := 48 }, [], 6, 0, 2, 645)
def zm70 : ZM := (⟨"PursesByLot", "brings", "(III)I"⟩, prog_1_method_13_code, 4, (some .int), { frames := 4, cells := 0, slots := 0, locals := 103 }, [], 9, 0, 3, 650)
def zm71 : ZM := (⟨"PursesByLot$Split", "weigh", "(LPursesByLot$Sheet;LPursesByLot$Ranking;)V"⟩, prog_8_method_7_code, 6, none, { frames := 1, cells := 0, slots := 0, locals := 21 }, [], 6, 0, 2, 654)
def zm72 : ZM := (⟨"PursesByLot$Sheet", "worthOf", "(I)I"⟩, prog_7_method_12_code, 2, (some .int), { frames := 0, cells := 0, slots := 0, locals := 0 }, [], 5, 0, 1, 658)
def zm73 : ZM := (⟨"PursesByLot$Split", "lotWorth", "(II)I"⟩, prog_8_method_8_code, 5, (some .int), { frames := 1, cells := 0, slots := 0, locals := 21 }, [], 6, 0, 2, 662)
def zm74 : ZM := (⟨"java/lang/Math", "max", "(II)I"⟩, prog_14_method_65_code, 2, (some .int), { frames := 0, cells := 0, slots := 0, locals := 0 }, [], 13, 1, 2, 665)
def zm75 : ZM := (⟨"PursesByLot$Split", "meanWorth", "(LPursesByLot$Ratio;)V"⟩, prog_8_method_9_code, 3, none, { frames := 2, cells := 0, slots := 0, locals := 48 }, [], 6, 0, 1, 669)
def zm76 : ZM := (⟨"PursesByLot", "cost", "(III)I"⟩, prog_1_method_14_code, 5, (some .int), { frames := 4, cells := 0, slots := 0, locals := 103 }, [], 9, 0, 3, 674)
def zm77 : ZM := (⟨"java/lang/Integer", "bitCount", "(I)I"⟩, prog_13_method_49_code, 1, (some .int), { frames := 0, cells := 0, slots := 0, locals := 0 }, [], 12, 1, 1, 678)
def zm78 : ZM := (⟨"PursesByLot$Sheet", "costOf", "(III)I"⟩, prog_7_method_13_code, 4, (some .int), { frames := 0, cells := 0, slots := 0, locals := 0 }, [], 5, 0, 3, 685)
def zm79 : ZM := (⟨"PursesByLot", "line", "(IIII)I"⟩, prog_1_method_15_code, 5, (some .int), { frames := 3, cells := 0, slots := 0, locals := 81 }, [], 9, 0, 4, 689)
def zm80 : ZM := (⟨"PursesByLot$Border", "findBest", "(LPursesByLot$Sheet;LPursesByLot$Ranking;II)V"⟩, prog_2_method_2_code, 13, none, { frames := 2, cells := 0, slots := 0, locals := 46 }, [], 0, 0, 4, 694)
def zm81 : ZM := (⟨"PursesByLot$Border", "sumWorth", "(LPursesByLot$Sheet;LPursesByLot$Ranking;)V"⟩, prog_2_method_3_code, 4, none, { frames := 1, cells := 0, slots := 0, locals := 23 }, [], 0, 0, 2, 698)
def zm82 : ZM := (⟨"PursesByLot$Border", "worthOfFirst", "(I)I"⟩, prog_2_method_4_code, 2, (some .int), { frames := 0, cells := 0, slots := 0, locals := 0 }, [], 0, 0, 1, 706)
def zm83 : ZM := (⟨"PursesByLot$Border", "offer", "(IIII)V"⟩, prog_2_method_5_code, 5, none, { frames := 0, cells := 0, slots := 0, locals := 0 }, [], 0, 0, 4, 711)
def zm84 : ZM := (⟨"PursesByLot", "even", "(I)I"⟩, prog_1_method_16_code, 5, (some .int), { frames := 2, cells := 0, slots := 0, locals := 44 }, [], 9, 0, 1, 715)
def zm85 : ZM := (⟨"PursesByLot$Times", "takingPart", "(LPursesByLot$Sheet;)I"⟩, prog_10_method_6_code, 4, (some .int), { frames := 1, cells := 0, slots := 0, locals := 21 }, [], 8, 0, 1, 719)
def zm86 : ZM := (⟨"PursesByLot", "later", "(II)I"⟩, prog_1_method_17_code, 4, (some .int), { frames := 1, cells := 0, slots := 0, locals := 22 }, [], 9, 0, 2, 724)
def zm87 : ZM := (⟨"PursesByLot", "hair", "(IIII)I"⟩, prog_1_method_18_code, 5, (some .int), { frames := 3, cells := 0, slots := 0, locals := 81 }, [], 9, 0, 4, 728)
def zm88 : ZM := (⟨"PursesByLot", "laterOfRanks", "(II)I"⟩, prog_1_method_35_code, 6, (some .int), { frames := 1, cells := 0, slots := 0, locals := 21 }, [], 9, 0, 2, 732)
def zm89 : ZM := (⟨"PursesByLot", "golden", "(IIIII)I"⟩, prog_1_method_19_code, 6, (some .int), { frames := 4, cells := 0, slots := 0, locals := 108 }, [], 9, 0, 5, 736)
def zm90 : ZM := (⟨"PursesByLot", "rightDraws", "(IIII)I"⟩, prog_1_method_36_code, 8, (some .int), { frames := 3, cells := 0, slots := 0, locals := 81 }, [], 9, 0, 4, 740)
def zm91 : ZM := (⟨"PursesByLot$Ranking", "firstNotAmong", "(LPursesByLot$Ranking;I)I"⟩, prog_4_method_9_code, 4, (some .int), { frames := 2, cells := 0, slots := 0, locals := 43 }, [], 2, 0, 2, 744)
def zm92 : ZM := (⟨"PursesByLot", "year", "(I)I"⟩, prog_1_method_20_code, 2, (some .int), { frames := 4, cells := 0, slots := 0, locals := 105 }, [], 9, 0, 1, 749)
def zm93 : ZM := (⟨"PursesByLot", "passYear", "(LPursesByLot$Times;IZ)I"⟩, prog_1_method_37_code, 5, (some .int), { frames := 3, cells := 0, slots := 0, locals := 81 }, [], 9, 0, 3, 753)
def zm94 : ZM := (⟨"PursesByLot$Split", "allPaid", "(LPursesByLot$Ranking;I)I"⟩, prog_8_method_5_code, 5, (some .int), { frames := 2, cells := 0, slots := 0, locals := 47 }, [], 6, 0, 2, 757)
def zm95 : ZM := (⟨"PursesByLot$Times", "passWith", "(LPursesByLot$Sheet;I)V"⟩, prog_10_method_8_code, 6, none, { frames := 2, cells := 0, slots := 0, locals := 45 }, [], 8, 0, 2, 763)
def zm96 : ZM := (⟨"PursesByLot$Times", "plansOf", "(LPursesByLot$Sheet;I)I"⟩, prog_10_method_9_code, 5, (some .int), { frames := 1, cells := 0, slots := 0, locals := 21 }, [], 8, 0, 2, 767)
def zm97 : ZM := (⟨"PursesByLot", "writer", "(II)I"⟩, prog_1_method_21_code, 3, (some .int), { frames := 1, cells := 0, slots := 0, locals := 22 }, [], 9, 0, 2, 773)
def zm98 : ZM := (⟨"PursesByLot", "now", "(I)I"⟩, prog_1_method_22_code, 2, (some .int), { frames := 1, cells := 0, slots := 0, locals := 22 }, [], 9, 0, 1, 777)
def zm99 : ZM := (⟨"PursesByLot", "having", "(II)I"⟩, prog_1_method_23_code, 5, (some .int), { frames := 4, cells := 0, slots := 0, locals := 105 }, [], 9, 0, 2, 781)
def zm100 : ZM := (⟨"PursesByLot$Times", "copyFrom", "(LPursesByLot$Times;)V"⟩, prog_10_method_3_code, 3, none, { frames := 0, cells := 0, slots := 0, locals := 0 }, [], 8, 0, 1, 785)
def zm101 : ZM := (⟨"PursesByLot", "keep", "()I"⟩, prog_1_method_24_code, 1, (some .int), { frames := 1, cells := 0, slots := 0, locals := 22 }, [], 9, 0, 0, 789)
def zm102 : ZM := (⟨"PursesByLot", "keptAt", "(I)LPursesByLot$Times;"⟩, prog_1_method_38_code, 2, (some (.object "PursesByLot$Times")), { frames := 0, cells := 0, slots := 0, locals := 0 }, [], 9, 0, 1, 793)
def zm103 : ZM := (⟨"PursesByLot", "back", "()I"⟩, prog_1_method_25_code, 1, (some .int), { frames := 1, cells := 0, slots := 0, locals := 22 }, [], 9, 0, 0, 797)
def zm104 : ZM := (⟨"PursesByLot", "count", "(I)I"⟩, prog_1_method_26_code, 2, (some .int), { frames := 1, cells := 0, slots := 0, locals := 22 }, [], 9, 0, 1, 801)
def zm105 : ZM := (⟨"PursesByLot$Times", "goneWriters", "()I"⟩, prog_10_method_7_code, 3, (some .int), { frames := 0, cells := 0, slots := 0, locals := 0 }, [], 8, 0, 0, 805)
def zm106 : ZM := (⟨"PursesByLotModel", "<init>", "()V"⟩, prog_12_method_1_code, 1, none, { frames := 1, cells := 21, slots := 950, locals := 20 }, [], 10, 0, 0, 810)
def zm107 : ZM := (⟨"PursesByLotModel", "write", "(IJ)I"⟩, prog_12_method_5_code, 5, (some .int), { frames := 1, cells := 0, slots := 0, locals := 25 }, [2], 10, 0, 2, 915)
def zm108 : ZM := (⟨"PursesByLotModel", "in", "(JJJ)Z"⟩, prog_12_method_2_code, 6, (some .boolean), { frames := 0, cells := 0, slots := 0, locals := 0 }, [0, 2, 4], 10, 1, 3, 919)
def zm109 : ZM := (⟨"PursesByLotModel", "wipe", "()I"⟩, prog_12_method_6_code, 2, (some .int), { frames := 0, cells := 0, slots := 0, locals := 0 }, [], 10, 0, 0, 923)
def zm110 : ZM := (⟨"PursesByLotModel", "fault", "()I"⟩, prog_12_method_11_code, 2, (some .int), { frames := 4, cells := 0, slots := 0, locals := 94 }, [], 10, 0, 0, 927)
def zm111 : ZM := (⟨"PursesByLotModel", "isItem", "()Z"⟩, prog_12_method_9_code, 6, (some .boolean), { frames := 3, cells := 0, slots := 0, locals := 69 }, [], 10, 0, 0, 931)
def zm112 : ZM := (⟨"PursesByLotModel", "number", "(I)I"⟩, prog_12_method_7_code, 4, (some .int), { frames := 1, cells := 0, slots := 0, locals := 25 }, [], 10, 0, 1, 935)
def zm113 : ZM := (⟨"PursesByLotModel", "more", "(I)I"⟩, prog_12_method_8_code, 2, (some .int), { frames := 2, cells := 0, slots := 0, locals := 48 }, [], 10, 0, 1, 942)
def zm114 : ZM := (⟨"PursesByLotModel", "puts", "(IIII)V"⟩, prog_12_method_10_code, 5, none, { frames := 0, cells := 0, slots := 0, locals := 0 }, [], 10, 0, 4, 946)
def zm115 : ZM := (⟨"PursesByLotModel", "lay", "()I"⟩, prog_12_method_12_code, 2, (some .int), { frames := 5, cells := 0, slots := 0, locals := 115 }, [], 10, 0, 0, 950)
def zm116 : ZM := (⟨"PursesByLotModel", "mark", "(III)I"⟩, prog_12_method_19_code, 4, (some .int), { frames := 2, cells := 0, slots := 0, locals := 46 }, [], 10, 0, 3, 955)
def zm117 : ZM := (⟨"PursesByLotModel", "isPlan", "(I)Z"⟩, prog_12_method_13_code, 2, (some .boolean), { frames := 1, cells := 0, slots := 0, locals := 25 }, [], 10, 0, 1, 959)
def zm118 : ZM := (⟨"PursesByLotModel", "isJudge", "(I)Z"⟩, prog_12_method_14_code, 2, (some .boolean), { frames := 1, cells := 0, slots := 0, locals := 25 }, [], 10, 0, 1, 963)
def zm119 : ZM := (⟨"PursesByLotModel", "isDraw", "(I)Z"⟩, prog_12_method_16_code, 1, (some .boolean), { frames := 1, cells := 0, slots := 0, locals := 25 }, [], 10, 1, 1, 966)
def zm120 : ZM := (⟨"PursesByLotModel", "markOf", "(IIIIZ)I"⟩, prog_12_method_18_code, 9, (some .int), { frames := 0, cells := 0, slots := 0, locals := 0 }, [], 10, 0, 5, 971)
def zm121 : ZM := (⟨"PursesByLotModel", "order", "(III)I"⟩, prog_12_method_21_code, 4, (some .int), { frames := 3, cells := 0, slots := 0, locals := 78 }, [], 10, 0, 3, 975)
def zm122 : ZM := (⟨"PursesByLotModel", "isPanel", "(I)Z"⟩, prog_12_method_15_code, 2, (some .boolean), { frames := 0, cells := 0, slots := 0, locals := 0 }, [], 10, 0, 1, 979)
def zm123 : ZM := (⟨"PursesByLotModel", "laysNow", "(II)V"⟩, prog_12_method_30_code, 3, none, { frames := 2, cells := 0, slots := 0, locals := 56 }, [], 10, 0, 2, 983)
def zm124 : ZM := (⟨"PursesByLotModel", "lays", "(IIIIZ)V"⟩, prog_12_method_20_code, 9, none, { frames := 1, cells := 0, slots := 0, locals := 28 }, [], 10, 0, 5, 987)
def zm125 : ZM := (⟨"PursesByLotModel", "takesPart", "(II)Z"⟩, prog_12_method_17_code, 3, (some .boolean), { frames := 0, cells := 0, slots := 0, locals := 0 }, [], 10, 0, 2, 991)
def zm126 : ZM := (⟨"PursesByLotModel", "has", "(II)Z"⟩, prog_12_method_3_code, 2, (some .boolean), { frames := 0, cells := 0, slots := 0, locals := 0 }, [], 10, 1, 2, 994)
def zm127 : ZM := (⟨"PursesByLotModel", "shares", "()V"⟩, prog_12_method_29_code, 1, none, { frames := 1, cells := 0, slots := 0, locals := 21 }, [], 10, 0, 0, 998)
def zm128 : ZM := (⟨"PursesByLotModel", "least", "(II)I"⟩, prog_12_method_4_code, 2, (some .int), { frames := 0, cells := 0, slots := 0, locals := 0 }, [], 10, 1, 2, 1001)
def zm129 : ZM := (⟨"PursesByLotModel", "tell", "(IIIII)I"⟩, prog_12_method_25_code, 8, (some .int), { frames := 3, cells := 0, slots := 0, locals := 80 }, [], 10, 0, 5, 1005)
def zm130 : ZM := (⟨"PursesByLotModel", "areTwo", "(IIII)Z"⟩, prog_12_method_22_code, 5, (some .boolean), { frames := 2, cells := 0, slots := 0, locals := 45 }, [], 10, 0, 4, 1009)
def zm131 : ZM := (⟨"PursesByLotModel", "two", "(IIII)V"⟩, prog_12_method_23_code, 5, none, { frames := 2, cells := 0, slots := 0, locals := 56 }, [], 10, 0, 4, 1013)
def zm132 : ZM := (⟨"PursesByLotModel", "alike", "(II)I"⟩, prog_12_method_24_code, 6, (some .int), { frames := 0, cells := 0, slots := 0, locals := 0 }, [], 10, 0, 2, 1017)
def zm133 : ZM := (⟨"PursesByLotModel", "both", "(IIIIII)I"⟩, prog_12_method_27_code, 11, (some .int), { frames := 3, cells := 0, slots := 0, locals := 80 }, [], 10, 0, 6, 1021)
def zm134 : ZM := (⟨"PursesByLotModel", "lowest", "(JJ)V"⟩, prog_12_method_26_code, 11, none, { frames := 0, cells := 0, slots := 0, locals := 0 }, [1, 3, 5, 7, 9], 10, 0, 2, 1027)
def zm135 : ZM := (⟨"PursesByLotModel", "coin", "(IIIII)I"⟩, prog_12_method_28_code, 8, (some .int), { frames := 3, cells := 0, slots := 0, locals := 80 }, [], 10, 0, 5, 1031)
def zm136 : ZM := (⟨"PursesByLotModel", "drawn", "(IIII)I"⟩, prog_12_method_33_code, 7, (some .int), { frames := 3, cells := 0, slots := 0, locals := 78 }, [], 10, 0, 4, 1035)
def zm137 : ZM := (⟨"PursesByLotModel", "waits", "()V"⟩, prog_12_method_32_code, 2, none, { frames := 0, cells := 0, slots := 0, locals := 0 }, [], 10, 0, 0, 1040)
def zm138 : ZM := (⟨"PursesByLotModel", "nextDrawn", "(II)I"⟩, prog_12_method_31_code, 7, (some .int), { frames := 0, cells := 0, slots := 0, locals := 0 }, [], 10, 0, 2, 1044)
def zm139 : ZM := (⟨"PursesByLotModel", "chance", "(IIII)I"⟩, prog_12_method_34_code, 6, (some .int), { frames := 3, cells := 0, slots := 0, locals := 78 }, [], 10, 0, 4, 1048)
def zm140 : ZM := (⟨"PursesByLotModel", "brings", "(III)I"⟩, prog_12_method_37_code, 5, (some .int), { frames := 3, cells := 0, slots := 0, locals := 78 }, [], 10, 0, 3, 1052)
def zm141 : ZM := (⟨"PursesByLotModel", "worths", "(II)I"⟩, prog_12_method_35_code, 5, (some .int), { frames := 0, cells := 0, slots := 0, locals := 0 }, [], 10, 0, 2, 1056)
def zm142 : ZM := (⟨"PursesByLotModel", "drawnWorth", "(Z)I"⟩, prog_12_method_36_code, 8, (some .int), { frames := 1, cells := 0, slots := 0, locals := 21 }, [], 10, 0, 1, 1060)
def zm143 : ZM := (⟨"PursesByLotModel", "cost", "(III)I"⟩, prog_12_method_40_code, 5, (some .int), { frames := 3, cells := 0, slots := 0, locals := 78 }, [], 10, 0, 3, 1064)
def zm144 : ZM := (⟨"PursesByLotModel", "costOf", "(III)I"⟩, prog_12_method_39_code, 4, (some .int), { frames := 2, cells := 0, slots := 0, locals := 44 }, [], 10, 0, 3, 1069)
def zm145 : ZM := (⟨"PursesByLotModel", "judgesOf", "(I)I"⟩, prog_12_method_38_code, 4, (some .int), { frames := 1, cells := 0, slots := 0, locals := 21 }, [], 10, 0, 1, 1073)
def zm146 : ZM := (⟨"PursesByLotModel", "line", "(IIII)I"⟩, prog_12_method_41_code, 19, (some .int), { frames := 3, cells := 0, slots := 0, locals := 78 }, [8, 10, 15, 17], 10, 0, 4, 1077)
def zm147 : ZM := (⟨"PursesByLotModel", "even", "(I)I"⟩, prog_12_method_42_code, 3, (some .int), { frames := 3, cells := 0, slots := 0, locals := 78 }, [], 10, 0, 1, 1082)
def zm148 : ZM := (⟨"PursesByLotModel", "later", "(II)I"⟩, prog_12_method_43_code, 4, (some .int), { frames := 2, cells := 0, slots := 0, locals := 46 }, [], 10, 0, 2, 1086)
def zm149 : ZM := (⟨"PursesByLotModel", "hair", "(IIII)I"⟩, prog_12_method_44_code, 7, (some .int), { frames := 3, cells := 0, slots := 0, locals := 78 }, [], 10, 0, 4, 1091)
def zm150 : ZM := (⟨"PursesByLotModel", "golden", "(IIIII)I"⟩, prog_12_method_45_code, 10, (some .int), { frames := 2, cells := 0, slots := 0, locals := 56 }, [], 10, 0, 5, 1096)
def zm151 : ZM := (⟨"PursesByLotModel", "year", "(I)I"⟩, prog_12_method_47_code, 2, (some .int), { frames := 3, cells := 0, slots := 0, locals := 85 }, [], 10, 0, 1, 1102)
def zm152 : ZM := (⟨"PursesByLotModel", "goes", "(IIZ)I"⟩, prog_12_method_46_code, 10, (some .int), { frames := 2, cells := 0, slots := 0, locals := 56 }, [], 10, 0, 3, 1106)
def zm153 : ZM := (⟨"PursesByLotModel", "writer", "(II)I"⟩, prog_12_method_48_code, 3, (some .int), { frames := 1, cells := 0, slots := 0, locals := 25 }, [], 10, 0, 2, 1110)
def zm154 : ZM := (⟨"PursesByLotModel", "now", "(I)I"⟩, prog_12_method_49_code, 2, (some .int), { frames := 0, cells := 0, slots := 0, locals := 0 }, [], 10, 0, 1, 1115)
def zm155 : ZM := (⟨"PursesByLotModel", "having", "(II)I"⟩, prog_12_method_51_code, 6, (some .int), { frames := 3, cells := 0, slots := 0, locals := 85 }, [], 10, 0, 2, 1119)
def zm156 : ZM := (⟨"PursesByLotModel", "copies", "(II)V"⟩, prog_12_method_50_code, 4, none, { frames := 0, cells := 0, slots := 0, locals := 0 }, [], 10, 0, 2, 1124)
def zm157 : ZM := (⟨"PursesByLotModel", "keep", "()I"⟩, prog_12_method_52_code, 1, (some .int), { frames := 1, cells := 0, slots := 0, locals := 23 }, [], 10, 0, 0, 1128)
def zm158 : ZM := (⟨"PursesByLotModel", "back", "()I"⟩, prog_12_method_53_code, 1, (some .int), { frames := 1, cells := 0, slots := 0, locals := 23 }, [], 10, 0, 0, 1132)
def zm159 : ZM := (⟨"PursesByLotModel", "count", "(I)I"⟩, prog_12_method_54_code, 4, (some .int), { frames := 0, cells := 0, slots := 0, locals := 0 }, [], 10, 0, 1, 1136)
def zms : List ZM := [zm0, zm1, zm2, zm3, zm4, zm5, zm6, zm7, zm8, zm9, zm10, zm11, zm12, zm13, zm14, zm15, zm16, zm17, zm18, zm19, zm20, zm21, zm22, zm23, zm24, zm25, zm26, zm27, zm28, zm29, zm30, zm31, zm32, zm33, zm34, zm35, zm36, zm37, zm38, zm39, zm40, zm41, zm42, zm43, zm44, zm45, zm46, zm47, zm48, zm49, zm50, zm51, zm52, zm53, zm54, zm55, zm56, zm57, zm58, zm59, zm60, zm61, zm62, zm63, zm64, zm65, zm66, zm67, zm68, zm69, zm70, zm71, zm72, zm73, zm74, zm75, zm76, zm77, zm78, zm79, zm80, zm81, zm82, zm83, zm84, zm85, zm86, zm87, zm88, zm89, zm90, zm91, zm92, zm93, zm94, zm95, zm96, zm97, zm98, zm99, zm100, zm101, zm102, zm103, zm104, zm105, zm106, zm107, zm108, zm109, zm110, zm111, zm112, zm113, zm114, zm115, zm116, zm117, zm118, zm119, zm120, zm121, zm122, zm123, zm124, zm125, zm126, zm127, zm128, zm129, zm130, zm131, zm132, zm133, zm134, zm135, zm136, zm137, zm138, zm139, zm140, zm141, zm142, zm143, zm144, zm145, zm146, zm147, zm148, zm149, zm150, zm151, zm152, zm153, zm154, zm155, zm156, zm157, zm158, zm159]
def zm (y : Nat) : ZM := zms.getD y zm0
def mN (y : Nat) : MethodName := (zm y).1
def mB (y : Nat) : ByteArray := (zm y).2.1
def mL (y : Nat) : Nat := (zm y).2.2.1
def mR (y : Nat) : Option FieldType := (zm y).2.2.2.1
def mRm (y : Nat) : Room := (zm y).2.2.2.2.1
def mLs (y : Nat) : List Nat := (zm y).2.2.2.2.2.1
def mC (y : Nat) : Nat := (zm y).2.2.2.2.2.2.1
def mSt (y : Nat) : Nat := (zm y).2.2.2.2.2.2.2.1
def mPn (y : Nat) : Nat := (zm y).2.2.2.2.2.2.2.2.1
def mCp (y : Nat) : Nat := (zm y).2.2.2.2.2.2.2.2.2
/-- field links: class and index to (class number, field, nest, place of the word) -/
def zfl : List ((Nat × Nat) × (Nat × Nat × Bool × Nat)) := [((0, 9), (0, 5, false, 347)), ((0, 19), (0, 4, false, 346)), ((0, 23), (2, 0, true, 256)), ((0, 61), (0, 3, false, 344)), ((0, 64), (0, 2, false, 342)), ((0, 67), (0, 0, false, 338)), ((0, 70), (0, 1, false, 340)), ((1, 14), (4, 1, true, 114)), ((1, 34), (1, 0, false, 128)), ((1, 37), (1, 1, false, 129)), ((1, 51), (1, 2, false, 132)), ((1, 54), (1, 3, false, 134)), ((1, 57), (1, 4, false, 136)), ((2, 9), (2, 1, false, 258)), ((2, 15), (2, 2, false, 259)), ((2, 18), (2, 3, false, 260)), ((2, 21), (2, 0, false, 254)), ((2, 31), (5, 0, true, 155)), ((2, 36), (5, 3, true, 163)), ((2, 49), (5, 1, true, 159)), ((2, 60), (5, 4, true, 167)), ((3, 7), (3, 0, false, 323)), ((3, 13), (3, 1, false, 325)), ((4, 9), (4, 0, false, 111)), ((4, 15), (4, 1, false, 112)), ((5, 9), (5, 1, false, 158)), ((5, 15), (5, 2, false, 161)), ((5, 18), (5, 3, false, 162)), ((5, 21), (5, 5, false, 169)), ((5, 24), (5, 6, false, 170)), ((5, 27), (5, 7, false, 171)), ((5, 30), (5, 11, false, 178)), ((5, 34), (5, 14, false, 182)), ((5, 37), (5, 0, false, 154)), ((5, 40), (5, 4, false, 166)), ((5, 43), (5, 8, false, 173)), ((5, 46), (5, 9, false, 175)), ((5, 49), (5, 10, false, 176)), ((5, 52), (5, 12, false, 180)), ((5, 55), (5, 13, false, 181)), ((5, 64), (5, 15, false, 184)), ((5, 67), (1, 0, true, 127)), ((5, 72), (1, 1, true, 130)), ((5, 75), (1, 2, true, 131)), ((5, 78), (1, 3, true, 133)), ((5, 81), (1, 4, true, 135)), ((6, 9), (6, 5, false, 285)), ((6, 15), (6, 6, false, 286)), ((6, 18), (5, 8, true, 172)), ((6, 30), (6, 0, false, 276)), ((6, 31), (5, 9, true, 174)), ((6, 34), (6, 1, false, 278)), ((6, 35), (5, 10, true, 177)), ((6, 38), (6, 2, false, 280)), ((6, 39), (6, 4, false, 284)), ((6, 64), (6, 3, false, 282)), ((7, 7), (2, 0, true, 255)), ((7, 23), (7, 0, false, 308)), ((7, 26), (7, 1, false, 310)), ((8, 9), (8, 0, false, 226)), ((8, 15), (8, 1, false, 228)), ((8, 18), (8, 2, false, 230)), ((8, 22), (5, 14, true, 183)), ((8, 27), (8, 3, false, 232)), ((8, 31), (8, 4, false, 234)), ((8, 34), (5, 0, true, 157)), ((8, 37), (5, 3, true, 164)), ((8, 60), (5, 15, true, 185)), ((8, 63), (5, 1, true, 160)), ((9, 10), (9, 0, false, 361)), ((9, 19), (9, 1, false, 362)), ((9, 26), (9, 2, false, 363)), ((9, 30), (9, 3, false, 364)), ((9, 33), (9, 4, false, 365)), ((9, 40), (9, 5, false, 366)), ((9, 44), (9, 6, false, 367)), ((9, 47), (9, 7, false, 368)), ((9, 50), (9, 8, false, 369)), ((9, 53), (9, 9, false, 370)), ((9, 60), (9, 10, false, 371)), ((9, 64), (9, 11, false, 372)), ((9, 70), (9, 12, false, 373)), ((9, 77), (9, 13, false, 374)), ((9, 84), (9, 14, false, 375)), ((9, 91), (9, 15, false, 376)), ((9, 95), (9, 16, false, 377)), ((9, 102), (4, 1, true, 113)), ((9, 123), (5, 0, true, 156)), ((9, 136), (5, 3, true, 165)), ((9, 154), (2, 0, true, 257)), ((9, 186), (3, 0, true, 324)), ((9, 189), (3, 1, true, 326)), ((9, 196), (7, 1, true, 311)), ((9, 199), (7, 0, true, 309)), ((9, 205), (6, 2, true, 281)), ((9, 226), (6, 3, true, 283)), ((9, 232), (6, 1, true, 279)), ((9, 249), (5, 11, true, 179)), ((9, 252), (6, 0, true, 277)), ((9, 260), (0, 0, true, 339)), ((9, 263), (0, 1, true, 341)), ((9, 266), (0, 2, true, 343)), ((9, 269), (0, 3, true, 345)), ((9, 286), (8, 0, true, 227)), ((9, 289), (8, 1, true, 229)), ((9, 292), (8, 2, true, 231)), ((9, 296), (8, 3, true, 233)), ((9, 299), (8, 4, true, 235)), ((9, 310), (5, 4, true, 168)), ((10, 7), (10, 1, false, 813)), ((10, 13), (10, 4, false, 816)), ((10, 17), (10, 6, false, 818)), ((10, 20), (10, 7, false, 819)), ((10, 23), (10, 8, false, 820)), ((10, 26), (10, 10, false, 822)), ((10, 29), (10, 12, false, 824)), ((10, 32), (10, 13, false, 825)), ((10, 35), (10, 14, false, 826)), ((10, 38), (10, 16, false, 828)), ((10, 41), (10, 17, false, 829)), ((10, 44), (10, 18, false, 830)), ((10, 48), (10, 19, false, 831)), ((10, 51), (10, 20, false, 832)), ((10, 54), (10, 21, false, 833)), ((10, 57), (10, 22, false, 834)), ((10, 60), (10, 23, false, 835)), ((10, 63), (10, 24, false, 836)), ((10, 66), (10, 28, false, 840)), ((10, 69), (10, 29, false, 841)), ((10, 72), (10, 30, false, 842)), ((10, 81), (10, 0, false, 812)), ((10, 85), (10, 2, false, 814)), ((10, 101), (10, 3, false, 815)), ((10, 104), (10, 5, false, 817)), ((10, 119), (10, 9, false, 821)), ((10, 122), (10, 11, false, 823)), ((10, 125), (10, 15, false, 827)), ((10, 173), (10, 31, false, 843)), ((10, 177), (10, 32, false, 844)), ((10, 191), (10, 25, false, 837)), ((10, 194), (10, 26, false, 838)), ((10, 197), (10, 27, false, 839))]
def zml : List ((Nat × Nat) × (Nat × Bool × Nat)) := [((0, 15), (81, false, 695)), ((0, 29), (74, false, 702)), ((0, 35), (82, false, 703)), ((0, 39), (78, true, 707)), ((0, 45), (83, false, 708)), ((0, 49), (19, false, 699)), ((0, 55), (46, true, 700)), ((0, 58), (72, true, 701)), ((1, 9), (18, true, 436)), ((1, 20), (20, false, 443)), ((1, 26), (24, true, 460)), ((1, 30), (21, true, 447)), ((1, 40), (22, false, 451)), ((1, 43), (13, true, 455)), ((1, 47), (23, false, 456)), ((2, 25), (19, false, 536)), ((2, 39), (43, true, 537)), ((2, 45), (38, true, 541)), ((2, 52), (44, false, 542)), ((2, 56), (45, false, 546)), ((2, 63), (39, true, 545)), ((2, 67), (46, false, 577)), ((2, 70), (53, false, 578)), ((2, 73), (52, false, 593)), ((3, 16), (58, false, 598)), ((3, 22), (59, false, 601)), ((5, 58), (19, false, 440)), ((5, 84), (25, false, 464)), ((5, 88), (26, false, 468)), ((5, 91), (27, false, 472)), ((5, 94), (28, false, 476)), ((5, 98), (29, false, 480)), ((5, 102), (30, false, 484)), ((5, 105), (31, false, 488)), ((6, 24), (55, false, 624)), ((6, 42), (46, true, 629)), ((6, 48), (67, false, 634)), ((6, 51), (65, false, 758)), ((6, 55), (66, false, 759)), ((6, 58), (57, true, 646)), ((6, 67), (72, true, 655)), ((6, 70), (74, false, 663)), ((6, 73), (73, false, 670)), ((7, 13), (51, false, 570)), ((7, 19), (52, true, 573)), ((8, 40), (43, false, 720)), ((8, 44), (96, false, 764)), ((8, 48), (77, false, 768)), ((8, 54), (55, false, 769)), ((9, 9), (3, true, 107)), ((9, 18), (4, true, 123)), ((9, 25), (5, true, 150)), ((9, 39), (6, true, 222)), ((9, 59), (7, true, 250)), ((9, 69), (8, true, 272)), ((9, 76), (9, true, 304)), ((9, 83), (10, true, 319)), ((9, 90), (11, true, 334)), ((9, 98), (13, false, 417)), ((9, 105), (14, true, 420)), ((9, 109), (17, true, 432)), ((9, 113), (33, true, 496)), ((9, 117), (19, false, 500)), ((9, 126), (35, false, 505)), ((9, 130), (36, false, 509)), ((9, 133), (37, false, 513)), ((9, 139), (38, true, 516)), ((9, 143), (39, true, 520)), ((9, 147), (41, false, 528)), ((9, 150), (42, true, 532)), ((9, 157), (46, true, 550)), ((9, 160), (48, false, 558)), ((9, 164), (49, false, 562)), ((9, 168), (50, true, 566)), ((9, 172), (55, false, 586)), ((9, 178), (56, true, 589)), ((9, 182), (57, true, 594)), ((9, 192), (61, true, 608)), ((9, 202), (63, false, 616)), ((9, 208), (65, true, 625)), ((9, 212), (66, true, 630)), ((9, 215), (53, true, 641)), ((9, 218), (69, true, 642)), ((9, 222), (71, true, 651)), ((9, 229), (73, true, 659)), ((9, 235), (75, true, 666)), ((9, 240), (77, false, 676)), ((9, 245), (78, true, 682)), ((9, 256), (80, true, 691)), ((9, 272), (85, true, 716)), ((9, 276), (88, false, 729)), ((9, 279), (90, false, 737)), ((9, 282), (93, false, 750)), ((9, 302), (100, true, 782)), ((9, 306), (102, false, 790)), ((9, 313), (105, true, 802)), ((9, 317), (64, true, 620)), ((9, 321), (91, true, 741)), ((9, 324), (72, true, 745)), ((9, 327), (94, true, 754)), ((9, 330), (95, true, 760)), ((10, 77), (108, false, 917)), ((10, 94), (112, false, 932)), ((10, 98), (113, false, 939)), ((10, 107), (114, false, 943)), ((10, 111), (111, false, 928)), ((10, 115), (110, false, 951)), ((10, 130), (117, false, 956)), ((10, 134), (118, false, 960)), ((10, 137), (119, false, 964)), ((10, 140), (120, false, 968)), ((10, 144), (125, false, 988)), ((10, 148), (126, false, 992)), ((10, 151), (122, false, 976)), ((10, 154), (123, false, 980)), ((10, 158), (124, false, 984)), ((10, 162), (130, false, 1006)), ((10, 166), (131, false, 1010)), ((10, 169), (132, false, 1014)), ((10, 184), (128, false, 999)), ((10, 187), (134, false, 1024)), ((10, 200), (127, false, 995)), ((10, 205), (137, false, 1037)), ((10, 208), (138, false, 1041)), ((10, 211), (141, false, 1053)), ((10, 214), (142, false, 1057)), ((10, 218), (145, false, 1070)), ((10, 222), (144, false, 1066)), ((10, 235), (152, false, 1103)), ((10, 243), (156, false, 1121)), ((11, 9), (1, false, 99)), ((11, 12), (106, false, 808)), ((11, 15), (12, false, 413)), ((11, 19), (107, false, 912)), ((11, 20), (15, false, 424)), ((11, 24), (109, false, 920)), ((11, 25), (16, false, 428)), ((11, 28), (110, false, 924)), ((11, 29), (32, false, 492)), ((11, 32), (115, false, 947)), ((11, 33), (34, false, 501)), ((11, 37), (116, false, 952)), ((11, 38), (40, false, 524)), ((11, 41), (121, false, 972)), ((11, 42), (47, false, 554)), ((11, 46), (129, false, 1002)), ((11, 47), (54, false, 582)), ((11, 51), (133, false, 1018)), ((11, 52), (60, false, 604)), ((11, 55), (135, false, 1028)), ((11, 56), (62, false, 612)), ((11, 60), (136, false, 1032)), ((11, 61), (68, false, 637)), ((11, 64), (139, false, 1045)), ((11, 65), (70, false, 647)), ((11, 68), (140, false, 1049)), ((11, 69), (76, false, 671)), ((11, 72), (143, false, 1061)), ((11, 73), (79, false, 686)), ((11, 76), (146, false, 1074)), ((11, 77), (84, false, 712)), ((11, 81), (147, false, 1079)), ((11, 82), (86, false, 721)), ((11, 86), (148, false, 1083)), ((11, 87), (87, false, 725)), ((11, 90), (149, false, 1088)), ((11, 91), (89, false, 733)), ((11, 94), (150, false, 1093)), ((11, 95), (92, false, 746)), ((11, 98), (151, false, 1099)), ((11, 99), (97, false, 770)), ((11, 102), (153, false, 1107)), ((11, 103), (98, false, 774)), ((11, 106), (154, false, 1112)), ((11, 107), (99, false, 778)), ((11, 110), (155, false, 1116)), ((11, 111), (101, false, 786)), ((11, 114), (157, false, 1125)), ((11, 115), (103, false, 794)), ((11, 118), (158, false, 1129)), ((11, 119), (104, false, 798)), ((11, 122), (159, false, 1133))]
def zol : List ((Nat × Nat) × Nat) := [((0, 3), 337), ((1, 3), 126), ((2, 3), 253), ((3, 1), 322), ((4, 3), 110), ((5, 3), 153), ((6, 3), 275), ((7, 1), 307), ((8, 3), 225), ((9, 1), 102), ((10, 1), 811)]
def zcl : List ((Nat × Nat) × (Nat × Nat)) := [((9, 7), (4, 105)), ((9, 16), (1, 121)), ((9, 23), (5, 148)), ((9, 37), (8, 220)), ((9, 57), (2, 248)), ((9, 67), (6, 270)), ((9, 74), (7, 302)), ((9, 81), (3, 317)), ((9, 88), (0, 332)), ((11, 7), (9, 97)), ((11, 10), (10, 806))]
def zki : List ((Nat × Nat) × (Int32 × Nat)) := [((9, 239), ((-1000000 : Int32), 675)), ((9, 255), ((-1000002 : Int32), 690)), ((10, 221), ((-1000000 : Int32), 1065)), ((10, 226), ((-1000002 : Int32), 1078)), ((12, 265), ((1431655765 : Int32), 679)), ((12, 266), ((858993459 : Int32), 680)), ((12, 267), ((252645135 : Int32), 681))]
def zkl : List ((Nat × Nat) × (Int64 × Nat)) := [((10, 75), ((8 : Int64), 916)), ((10, 88), ((48 : Int64), 936)), ((10, 90), ((57 : Int64), 937)), ((10, 92), ((3 : Int64), 938)), ((10, 128), ((99 : Int64), 967)), ((10, 180), ((24 : Int64), 1022)), ((10, 182), ((2 : Int64), 1023)), ((10, 203), ((9999 : Int64), 1036)), ((10, 227), ((999 : Int64), 1087)), ((10, 229), ((12 : Int64), 1092)), ((10, 231), ((23 : Int64), 1097)), ((10, 233), ((100 : Int64), 1098)), ((10, 239), ((7 : Int64), 1111)), ((10, 241), ((30 : Int64), 1120)), ((11, 13), ((4294967295 : Int64), 1137))]
