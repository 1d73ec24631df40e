def RX0 : String := "Cavernbook$Cave"
def RX1 : String := "Cavernbook$Floods"
def RX2 : String := "Cavernbook$Joins"
def RX3 : String := "Cavernbook$Party"
def RX4 : String := "Cavernbook$Places"
def RX5 : String := "Cavernbook$Planner"
def RX6 : String := "Cavernbook$Shot"
def RX7 : String := "Cavernbook$Streams"
def RX8 : String := "Cavernbook$Wide"
def RX9 : String := "Cavernbook"
def RX10 : String := "CavernbookModel$Conduit"
def RX11 : String := "CavernbookModel$Party"
def RX12 : String := "CavernbookModel$Shot"
def RX13 : String := "CavernbookModel$Wide"
def RX14 : String := "CavernbookModel"
def RJx145de : String := "java/io/Serializable"
def RJx00060 : String := "java/lang/ArrayIndexOutOfBoundsException"
def RJx8e188 : String := "java/lang/Cloneable"
def RJ6 : String := "java/lang/Integer"
def RJxab1ab : String := "java/lang/Iterable"
def RJ9 : String := "java/lang/Math"
def RJ0 : String := "java/lang/String"
def RJ10 : String := "java/lang/System"
def RJxa1e45 : String := "java/util/AbstractCollection"
def RJxc12de : String := "java/util/AbstractList"
def RJx4a65c : String := "java/util/ArrayList"
def RJ7 : String := "java/util/Arrays"
def RJx5ef63 : String := "java/util/Collection"
def RJxbd725 : String := "java/util/List"
def RJ15 : String := "java/util/Objects"
def RJxf0a74 : String := "java/util/RandomAccess"
def RJxa66e6 : String := "java/util/SequencedCollection"
def RJ8 : String := "jdk/internal/util/ArraysSupport"
def RJ3 : String := "jdk/internal/util/Preconditions"
def RL : String := "CavernbookLaw"
def TJ0 : u_T := fun k => match k with
  | 0 => ("java/lang/String", "value", "[B", true)
  | _ => ("java/lang/String", "coder", "B", true)
def tyJ0 : Nat → FieldType := fun k => match k with
  | 0 => .array .byte
  | _ => .byte
theorem nmJ0 : ∀ a, a < 2 → ∀ b, b < 2 → a ≠ b → (TJ0 a).2.1 ≠ (TJ0 b).2.1 := by decide +kernel
theorem tyJ0_ok : ∀ k, k < 2 → parseFieldDescriptor (TJ0 k).2.2.1 = some (tyJ0 k) := by decide +kernel
def TJx00060 : u_T := fun k => match k with
  | 0 => ("java/lang/Throwable", "backtrace", "Ljava/lang/Object;", false)
  | 1 => ("java/lang/Throwable", "detailMessage", "Ljava/lang/String;", false)
  | 2 => ("java/lang/Throwable", "cause", "Ljava/lang/Throwable;", false)
  | 3 => ("java/lang/Throwable", "stackTrace", "[Ljava/lang/StackTraceElement;", false)
  | 4 => ("java/lang/Throwable", "depth", "I", false)
  | _ => ("java/lang/Throwable", "suppressedExceptions", "Ljava/util/List;", false)
def tyJx00060 : Nat → FieldType := fun k => match k with
  | 0 => .object "java/lang/Object"
  | 1 => .object "java/lang/String"
  | 2 => .object "java/lang/Throwable"
  | 3 => .array (.object "java/lang/StackTraceElement")
  | 4 => .int
  | _ => .object "java/util/List"
theorem nmJx00060 : ∀ a, a < 6 → ∀ b, b < 6 → a ≠ b → (TJx00060 a).2.1 ≠ (TJx00060 b).2.1 := by decide +kernel
theorem tyJx00060_ok : ∀ k, k < 6 → parseFieldDescriptor (TJx00060 k).2.2.1 = some (tyJx00060 k) := by decide +kernel
def TJx4a65c : u_T := fun k => match k with
  | 0 => ("java/util/AbstractList", "modCount", "I", false)
  | 1 => ("java/util/ArrayList", "elementData", "[Ljava/lang/Object;", false)
  | _ => ("java/util/ArrayList", "size", "I", false)
def tyJx4a65c : Nat → FieldType := fun k => match k with
  | 0 => .int
  | 1 => .array (.object "java/lang/Object")
  | _ => .int
theorem nmJx4a65c : ∀ a, a < 3 → ∀ b, b < 3 → a ≠ b → (TJx4a65c a).2.1 ≠ (TJx4a65c b).2.1 := by decide +kernel
theorem tyJx4a65c_ok : ∀ k, k < 3 → parseFieldDescriptor (TJx4a65c k).2.2.1 = some (tyJx4a65c k) := by decide +kernel
def TX0 : u_T := fun k => match k with
  | 0 => ("Cavernbook$Cave", "shots", "[LCavernbook$Shot;", true)
  | 1 => ("Cavernbook$Cave", "joins", "LCavernbook$Joins;", true)
  | 2 => ("Cavernbook$Cave", "stationCount", "I", false)
  | _ => ("Cavernbook$Cave", "shotCount", "I", false)
def tyX0 : Nat → FieldType := fun k => match k with
  | 0 => .array (.object "Cavernbook$Shot")
  | 1 => .object "Cavernbook$Joins"
  | 2 => .int
  | _ => .int
theorem nmX0 : ∀ a, a < 4 → ∀ b, b < 4 → a ≠ b → (TX0 a).2.1 ≠ (TX0 b).2.1 := by decide +kernel
theorem tyX0_ok : ∀ k, k < 4 → parseFieldDescriptor (TX0 k).2.2.1 = some (tyX0 k) := by decide +kernel
def TX1 : u_T := fun k => match k with
  | 0 => ("Cavernbook$Floods", "fallen", "[I", true)
  | _ => ("Cavernbook$Floods", "standing", "[I", true)
def tyX1 : Nat → FieldType := fun k => match k with
  | 0 => .array .int
  | _ => .array .int
theorem nmX1 : ∀ a, a < 2 → ∀ b, b < 2 → a ≠ b → (TX1 a).2.1 ≠ (TX1 b).2.1 := by decide +kernel
theorem tyX1_ok : ∀ k, k < 2 → parseFieldDescriptor (TX1 k).2.2.1 = some (tyX1 k) := by decide +kernel
def TX2 : u_T := fun k => match k with
  | 0 => ("Cavernbook$Joins", "one", "[I", true)
  | 1 => ("Cavernbook$Joins", "other", "[I", true)
  | 2 => ("Cavernbook$Joins", "since", "[I", true)
  | 3 => ("Cavernbook$Joins", "lowest", "[I", true)
  | _ => ("Cavernbook$Joins", "told", "I", false)
def tyX2 : Nat → FieldType := fun k => match k with
  | 0 => .array .int
  | 1 => .array .int
  | 2 => .array .int
  | 3 => .array .int
  | _ => .int
theorem nmX2 : ∀ a, a < 5 → ∀ b, b < 5 → a ≠ b → (TX2 a).2.1 ≠ (TX2 b).2.1 := by decide +kernel
theorem tyX2_ok : ∀ k, k < 5 → parseFieldDescriptor (TX2 k).2.2.1 = some (tyX2 k) := by decide +kernel
def TX3 : u_T := fun k => match k with
  | 0 => ("Cavernbook$Party", "place", "I", false)
  | 1 => ("Cavernbook$Party", "hour", "I", false)
  | _ => ("Cavernbook$Party", "known", "I", false)
def tyX3 : Nat → FieldType := fun k => match k with
  | 0 => .int
  | 1 => .int
  | _ => .int
theorem nmX3 : ∀ a, a < 3 → ∀ b, b < 3 → a ≠ b → (TX3 a).2.1 ≠ (TX3 b).2.1 := by decide +kernel
theorem tyX3_ok : ∀ k, k < 3 → parseFieldDescriptor (TX3 k).2.2.1 = some (tyX3 k) := by decide +kernel
def TX4 : u_T := fun k => match k with
  | 0 => ("Cavernbook$Places", "cave", "LCavernbook$Cave;", true)
  | 1 => ("Cavernbook$Places", "lowest", "[I", true)
  | 2 => ("Cavernbook$Places", "hung", "[Z", true)
  | 3 => ("Cavernbook$Places", "rowOf", "[I", true)
  | 4 => ("Cavernbook$Places", "net", "[[J", true)
  | 5 => ("Cavernbook$Places", "tops", "[[J", true)
  | 6 => ("Cavernbook$Places", "dividend", "LCavernbook$Wide;", true)
  | 7 => ("Cavernbook$Places", "divisor", "LCavernbook$Wide;", true)
  | 8 => ("Cavernbook$Places", "evenBits", "I", false)
  | 9 => ("Cavernbook$Places", "oddInverse", "J", false)
  | 10 => ("Cavernbook$Places", "used", "[Z", true)
  | 11 => ("Cavernbook$Places", "hungCount", "I", false)
  | 12 => ("Cavernbook$Places", "usedCount", "I", false)
  | _ => ("Cavernbook$Places", "bottom", "J", false)
def tyX4 : Nat → FieldType := fun k => match k with
  | 0 => .object "Cavernbook$Cave"
  | 1 => .array .int
  | 2 => .array .boolean
  | 3 => .array .int
  | 4 => .array (.array .long)
  | 5 => .array (.array .long)
  | 6 => .object "Cavernbook$Wide"
  | 7 => .object "Cavernbook$Wide"
  | 8 => .int
  | 9 => .long
  | 10 => .array .boolean
  | 11 => .int
  | 12 => .int
  | _ => .long
theorem nmX4 : ∀ a, a < 14 → ∀ b, b < 14 → a ≠ b → (TX4 a).2.1 ≠ (TX4 b).2.1 := by decide +kernel
theorem tyX4_ok : ∀ k, k < 14 → parseFieldDescriptor (TX4 k).2.2.1 = some (tyX4 k) := by decide +kernel
def TX5 : u_T := fun k => match k with
  | 0 => ("Cavernbook$Planner", "cave", "LCavernbook$Cave;", true)
  | 1 => ("Cavernbook$Planner", "floods", "LCavernbook$Floods;", true)
  | 2 => ("Cavernbook$Planner", "arrival", "[[I", true)
  | 3 => ("Cavernbook$Planner", "start", "I", false)
  | 4 => ("Cavernbook$Planner", "steps", "[I", true)
  | _ => ("Cavernbook$Planner", "planned", "I", false)
def tyX5 : Nat → FieldType := fun k => match k with
  | 0 => .object "Cavernbook$Cave"
  | 1 => .object "Cavernbook$Floods"
  | 2 => .array (.array .int)
  | 3 => .int
  | 4 => .array .int
  | _ => .int
theorem nmX5 : ∀ a, a < 6 → ∀ b, b < 6 → a ≠ b → (TX5 a).2.1 ≠ (TX5 b).2.1 := by decide +kernel
theorem tyX5_ok : ∀ k, k < 6 → parseFieldDescriptor (TX5 k).2.2.1 = some (tyX5 k) := by decide +kernel
def TX6 : u_T := fun k => match k with
  | 0 => ("Cavernbook$Shot", "from", "I", false)
  | 1 => ("Cavernbook$Shot", "to", "I", false)
  | 2 => ("Cavernbook$Shot", "day", "I", false)
  | 3 => ("Cavernbook$Shot", "span", "I", false)
  | 4 => ("Cavernbook$Shot", "weight", "I", false)
  | 5 => ("Cavernbook$Shot", "asideDay", "I", false)
  | 6 => ("Cavernbook$Shot", "level", "I", false)
  | _ => ("Cavernbook$Shot", "steps", "[I", true)
def tyX6 : Nat → FieldType := fun k => match k with
  | 0 => .int
  | 1 => .int
  | 2 => .int
  | 3 => .int
  | 4 => .int
  | 5 => .int
  | 6 => .int
  | _ => .array .int
theorem nmX6 : ∀ a, a < 8 → ∀ b, b < 8 → a ≠ b → (TX6 a).2.1 ≠ (TX6 b).2.1 := by decide +kernel
theorem tyX6_ok : ∀ k, k < 8 → parseFieldDescriptor (TX6 k).2.2.1 = some (tyX6 k) := by decide +kernel
def TX7 : u_T := fun k => match k with
  | 0 => ("Cavernbook$Streams", "from", "[I", true)
  | 1 => ("Cavernbook$Streams", "to", "[I", true)
  | 2 => ("Cavernbook$Streams", "minutes", "[I", true)
  | 3 => ("Cavernbook$Streams", "hundredths", "[I", true)
  | 4 => ("Cavernbook$Streams", "dye", "[[I", true)
  | 5 => ("Cavernbook$Streams", "lastMinute", "I", false)
  | 6 => ("Cavernbook$Streams", "heights", "[I", true)
  | _ => ("Cavernbook$Streams", "conduitCount", "I", false)
def tyX7 : Nat → FieldType := fun k => match k with
  | 0 => .array .int
  | 1 => .array .int
  | 2 => .array .int
  | 3 => .array .int
  | 4 => .array (.array .int)
  | 5 => .int
  | 6 => .array .int
  | _ => .int
theorem nmX7 : ∀ a, a < 8 → ∀ b, b < 8 → a ≠ b → (TX7 a).2.1 ≠ (TX7 b).2.1 := by decide +kernel
theorem tyX7_ok : ∀ k, k < 8 → parseFieldDescriptor (TX7 k).2.2.1 = some (tyX7 k) := by decide +kernel
def TX8 : u_T := fun k => match k with
  | 0 => ("Cavernbook$Wide", "high", "J", false)
  | _ => ("Cavernbook$Wide", "low", "J", false)
def tyX8 : Nat → FieldType := fun k => match k with
  | 0 => .long
  | _ => .long
theorem nmX8 : ∀ a, a < 2 → ∀ b, b < 2 → a ≠ b → (TX8 a).2.1 ≠ (TX8 b).2.1 := by decide +kernel
theorem tyX8_ok : ∀ k, k < 2 → parseFieldDescriptor (TX8 k).2.2.1 = some (tyX8 k) := by decide +kernel
def TX9 : u_T := fun k => match k with
  | 0 => ("Cavernbook", "cave", "LCavernbook$Cave;", true)
  | 1 => ("Cavernbook", "places", "LCavernbook$Places;", true)
  | 2 => ("Cavernbook", "trial", "LCavernbook$Places;", true)
  | 3 => ("Cavernbook", "streams", "LCavernbook$Streams;", true)
  | 4 => ("Cavernbook", "floods", "LCavernbook$Floods;", true)
  | 5 => ("Cavernbook", "planner", "LCavernbook$Planner;", true)
  | 6 => ("Cavernbook", "parties", "[LCavernbook$Party;", true)
  | _ => ("Cavernbook", "partyCount", "I", false)
def tyX9 : Nat → FieldType := fun k => match k with
  | 0 => .object "Cavernbook$Cave"
  | 1 => .object "Cavernbook$Places"
  | 2 => .object "Cavernbook$Places"
  | 3 => .object "Cavernbook$Streams"
  | 4 => .object "Cavernbook$Floods"
  | 5 => .object "Cavernbook$Planner"
  | 6 => .array (.object "Cavernbook$Party")
  | _ => .int
theorem nmX9 : ∀ a, a < 8 → ∀ b, b < 8 → a ≠ b → (TX9 a).2.1 ≠ (TX9 b).2.1 := by decide +kernel
theorem tyX9_ok : ∀ k, k < 8 → parseFieldDescriptor (TX9 k).2.2.1 = some (tyX9 k) := by decide +kernel
def TX10 : u_T := fun k => match k with
  | 0 => ("CavernbookModel$Conduit", "from", "I", true)
  | 1 => ("CavernbookModel$Conduit", "to", "I", true)
  | 2 => ("CavernbookModel$Conduit", "minutes", "I", true)
  | _ => ("CavernbookModel$Conduit", "hundredths", "I", true)
def tyX10 : Nat → FieldType := fun k => match k with
  | 0 => .int
  | 1 => .int
  | 2 => .int
  | _ => .int
theorem nmX10 : ∀ a, a < 4 → ∀ b, b < 4 → a ≠ b → (TX10 a).2.1 ≠ (TX10 b).2.1 := by decide +kernel
theorem tyX10_ok : ∀ k, k < 4 → parseFieldDescriptor (TX10 k).2.2.1 = some (tyX10 k) := by decide +kernel
def TX11 : u_T := fun k => match k with
  | 0 => ("CavernbookModel$Party", "knows", "[Z", true)
  | 1 => ("CavernbookModel$Party", "at", "I", false)
  | _ => ("CavernbookModel$Party", "hour", "I", false)
def tyX11 : Nat → FieldType := fun k => match k with
  | 0 => .array .boolean
  | 1 => .int
  | _ => .int
theorem nmX11 : ∀ a, a < 3 → ∀ b, b < 3 → a ≠ b → (TX11 a).2.1 ≠ (TX11 b).2.1 := by decide +kernel
theorem tyX11_ok : ∀ k, k < 3 → parseFieldDescriptor (TX11 k).2.2.1 = some (tyX11 k) := by decide +kernel
def TX12 : u_T := fun k => match k with
  | 0 => ("CavernbookModel$Shot", "from", "I", true)
  | 1 => ("CavernbookModel$Shot", "to", "I", true)
  | 2 => ("CavernbookModel$Shot", "day", "I", true)
  | 3 => ("CavernbookModel$Shot", "length", "I", true)
  | 4 => ("CavernbookModel$Shot", "weight", "I", true)
  | 5 => ("CavernbookModel$Shot", "steps", "[I", true)
  | 6 => ("CavernbookModel$Shot", "aside", "I", false)
  | _ => ("CavernbookModel$Shot", "level", "I", false)
def tyX12 : Nat → FieldType := fun k => match k with
  | 0 => .int
  | 1 => .int
  | 2 => .int
  | 3 => .int
  | 4 => .int
  | 5 => .array .int
  | 6 => .int
  | _ => .int
theorem nmX12 : ∀ a, a < 8 → ∀ b, b < 8 → a ≠ b → (TX12 a).2.1 ≠ (TX12 b).2.1 := by decide +kernel
theorem tyX12_ok : ∀ k, k < 8 → parseFieldDescriptor (TX12 k).2.2.1 = some (tyX12 k) := by decide +kernel
def TX13 : u_T := fun k => match k with
  | _ => ("CavernbookModel$Wide", "limbs", "[I", true)
def tyX13 : Nat → FieldType := fun k => match k with
  | _ => .array .int
theorem nmX13 : ∀ a, a < 1 → ∀ b, b < 1 → a ≠ b → (TX13 a).2.1 ≠ (TX13 b).2.1 := by decide +kernel
theorem tyX13_ok : ∀ k, k < 1 → parseFieldDescriptor (TX13 k).2.2.1 = some (tyX13 k) := by decide +kernel
def TX14 : u_T := fun k => match k with
  | 0 => ("CavernbookModel", "shots", "Ljava/util/ArrayList;", true)
  | 1 => ("CavernbookModel", "conduits", "Ljava/util/ArrayList;", true)
  | 2 => ("CavernbookModel", "parties", "Ljava/util/ArrayList;", true)
  | 3 => ("CavernbookModel", "heights", "[I", true)
  | 4 => ("CavernbookModel", "joinA", "[I", true)
  | 5 => ("CavernbookModel", "joinB", "[I", true)
  | 6 => ("CavernbookModel", "joinDay", "[I", true)
  | 7 => ("CavernbookModel", "rains", "[I", true)
  | 8 => ("CavernbookModel", "waters", "[I", true)
  | 9 => ("CavernbookModel", "group", "[I", true)
  | 10 => ("CavernbookModel", "column", "[I", true)
  | 11 => ("CavernbookModel", "everGroup", "[I", true)
  | 12 => ("CavernbookModel", "isHung", "[Z", true)
  | 13 => ("CavernbookModel", "isUsed", "[Z", true)
  | 14 => ("CavernbookModel", "minors", "[J", true)
  | 15 => ("CavernbookModel", "tops", "[J", true)
  | 16 => ("CavernbookModel", "matrix", "[J", true)
  | 17 => ("CavernbookModel", "rights", "[J", true)
  | 18 => ("CavernbookModel", "comes", "[I", true)
  | 19 => ("CavernbookModel", "outs", "[I", true)
  | 20 => ("CavernbookModel", "good", "[Z", true)
  | 21 => ("CavernbookModel", "thrown", "I", false)
  | 22 => ("CavernbookModel", "stations", "I", false)
  | 23 => ("CavernbookModel", "joins", "I", false)
  | 24 => ("CavernbookModel", "unknowns", "I", false)
  | 25 => ("CavernbookModel", "base", "J", false)
  | _ => ("CavernbookModel", "areWaters", "Z", false)
def tyX14 : Nat → FieldType := fun k => match k with
  | 0 => .object "java/util/ArrayList"
  | 1 => .object "java/util/ArrayList"
  | 2 => .object "java/util/ArrayList"
  | 3 => .array .int
  | 4 => .array .int
  | 5 => .array .int
  | 6 => .array .int
  | 7 => .array .int
  | 8 => .array .int
  | 9 => .array .int
  | 10 => .array .int
  | 11 => .array .int
  | 12 => .array .boolean
  | 13 => .array .boolean
  | 14 => .array .long
  | 15 => .array .long
  | 16 => .array .long
  | 17 => .array .long
  | 18 => .array .int
  | 19 => .array .int
  | 20 => .array .boolean
  | 21 => .int
  | 22 => .int
  | 23 => .int
  | 24 => .int
  | 25 => .long
  | _ => .boolean
theorem nmX14 : ∀ a, a < 27 → ∀ b, b < 27 → a ≠ b → (TX14 a).2.1 ≠ (TX14 b).2.1 := by decide +kernel
theorem tyX14_ok : ∀ k, k < 27 → parseFieldDescriptor (TX14 k).2.2.1 = some (tyX14 k) := by decide +kernel
abbrev vwCl : List vw_C := [(RJ0, TJ0, 2), (RJx00060, TJx00060, 6), (RJx4a65c, TJx4a65c, 3), (RX0, TX0, 4), (RX1, TX1, 2), (RX2, TX2, 5), (RX3, TX3, 3), (RX4, TX4, 14), (RX5, TX5, 6), (RX6, TX6, 8), (RX7, TX7, 8), (RX8, TX8, 2), (RX9, TX9, 8), (RX10, TX10, 4), (RX11, TX11, 3), (RX12, TX12, 8), (RX13, TX13, 1), (RX14, TX14, 27)]
def zN : List String := ["java/lang/RuntimeException", "java/lang/Exception"]
abbrev cX0_init : ByteArray := prog_2_method_1_code
def yX0_init : MethodName := ⟨RX0, "<init>", "()V"⟩
abbrev cX1_init : ByteArray := prog_3_method_1_code
def yX1_init : MethodName := ⟨RX1, "<init>", "()V"⟩
abbrev cX2_init : ByteArray := prog_4_method_1_code
def yX2_init : MethodName := ⟨RX2, "<init>", "()V"⟩
abbrev cX3_init : ByteArray := prog_5_method_1_code
def yX3_init : MethodName := ⟨RX3, "<init>", "()V"⟩
abbrev cX4_init : ByteArray := prog_6_method_1_code
def yX4_init : MethodName := ⟨RX4, "<init>", "(LCavernbook$Cave;)V"⟩
abbrev cX5_init : ByteArray := prog_7_method_1_code
def yX5_init : MethodName := ⟨RX5, "<init>", "(LCavernbook$Cave;LCavernbook$Floods;)V"⟩
abbrev cX6_init : ByteArray := prog_8_method_1_code
def yX6_init : MethodName := ⟨RX6, "<init>", "()V"⟩
abbrev cX7_init : ByteArray := prog_9_method_1_code
def yX7_init : MethodName := ⟨RX7, "<init>", "()V"⟩
abbrev cX8_init : ByteArray := prog_10_method_1_code
def yX8_init : MethodName := ⟨RX8, "<init>", "()V"⟩
theorem vX2_init : yX2_init.cls = RX2 ∧ yX2_init.cls ≠ "java/lang/invoke/MethodHandle" ∧ yX2_init.cls ≠ "java/lang/invoke/VarHandle" ∧ (parseMethodDescriptor yX2_init.desc).map (fun d => d.parameters.length) = some 0 := by decide +kernel
theorem vX6_init : yX6_init.cls = RX6 ∧ yX6_init.cls ≠ "java/lang/invoke/MethodHandle" ∧ yX6_init.cls ≠ "java/lang/invoke/VarHandle" ∧ (parseMethodDescriptor yX6_init.desc).map (fun d => d.parameters.length) = some 0 := by decide +kernel
theorem vX8_init : yX8_init.cls = RX8 ∧ yX8_init.cls ≠ "java/lang/invoke/MethodHandle" ∧ yX8_init.cls ≠ "java/lang/invoke/VarHandle" ∧ (parseMethodDescriptor yX8_init.desc).map (fun d => d.parameters.length) = some 0 := by decide +kernel
theorem q0 : Cond.methodLink RX6 3 objectInit ∈ wAll := wIn (wT1 (List.mem_of_getElem? (i := 85) rfl)) rfl
theorem q1 : Cond.instanceMethod objectInit ∈ wAll := wIn (wT1 (List.mem_of_getElem? (i := 43) rfl)) rfl
theorem q2 : Cond.code objectInit ⟨#[0xb1]⟩ 1 none ∈ wAll := wIn (wT1 (List.mem_of_getElem? (i := 44) rfl)) rfl
theorem q3 : Cond.fieldLink RX6 9 "Cavernbook$Shot" "asideDay" "I" ∈ wAll := wIn (wT1 (List.mem_of_getElem? (i := 99) rfl)) rfl
theorem q4 : Cond.arrayClass .int ∈ wAll := wIn (wT1 (List.mem_of_getElem? (i := 78) rfl)) rfl
theorem q5 : Cond.fieldLink RX6 15 "Cavernbook$Shot" "steps" "[I" ∈ wAll := wIn (wT1 (List.mem_of_getElem? (i := 103) rfl)) rfl
theorem q6 : Cond.methodLink RX3 3 objectInit ∈ wAll := wIn (wT2 (List.mem_of_getElem? (i := 59) rfl)) rfl
theorem q7 : Cond.fieldLink RX3 9 "Cavernbook$Party" "place" "I" ∈ wAll := wIn (wT2 (List.mem_of_getElem? (i := 60) rfl)) rfl
theorem q8 : Cond.methodLink RX8 1 objectInit ∈ wAll := wIn (wT1 (List.mem_of_getElem? (i := 158) rfl)) rfl
theorem q9 : Cond.fieldLink RX8 7 "Cavernbook$Wide" "high" "J" ∈ wAll := wIn (wT1 (List.mem_of_getElem? (i := 159) rfl)) rfl
theorem q10 : Cond.fieldLink RX8 13 "Cavernbook$Wide" "low" "J" ∈ wAll := wIn (wT1 (List.mem_of_getElem? (i := 160) rfl)) rfl
theorem q11 : Cond.methodLink RX2 3 objectInit ∈ wAll := wIn (wT1 (List.mem_of_getElem? (i := 56) rfl)) rfl
theorem q12 : Cond.fieldLink RX2 9 "Cavernbook$Joins" "one" "[I" ∈ wAll := wIn (wT1 (List.mem_of_getElem? (i := 57) rfl)) rfl
theorem q13 : Cond.fieldLink RX2 15 "Cavernbook$Joins" "other" "[I" ∈ wAll := wIn (wT1 (List.mem_of_getElem? (i := 58) rfl)) rfl
theorem q14 : Cond.fieldLink RX2 18 "Cavernbook$Joins" "since" "[I" ∈ wAll := wIn (wT1 (List.mem_of_getElem? (i := 59) rfl)) rfl
theorem q15 : Cond.fieldLink RX2 21 "Cavernbook$Joins" "lowest" "[I" ∈ wAll := wIn (wT1 (List.mem_of_getElem? (i := 60) rfl)) rfl
theorem q16 : Cond.methodLink RX1 3 objectInit ∈ wAll := wIn (wT2 (List.mem_of_getElem? (i := 15) rfl)) rfl
theorem q17 : Cond.fieldLink RX1 9 "Cavernbook$Floods" "fallen" "[I" ∈ wAll := wIn (wT2 (List.mem_of_getElem? (i := 16) rfl)) rfl
theorem q18 : Cond.fieldLink RX1 15 "Cavernbook$Floods" "standing" "[I" ∈ wAll := wIn (wT2 (List.mem_of_getElem? (i := 18) rfl)) rfl
theorem q19 : Cond.methodLink RX7 3 objectInit ∈ wAll := wIn (wT1 (List.mem_of_getElem? (i := 220) rfl)) rfl
theorem q20 : Cond.fieldLink RX7 9 "Cavernbook$Streams" "from" "[I" ∈ wAll := wIn (wT1 (List.mem_of_getElem? (i := 223) rfl)) rfl
theorem q21 : Cond.fieldLink RX7 15 "Cavernbook$Streams" "to" "[I" ∈ wAll := wIn (wT1 (List.mem_of_getElem? (i := 224) rfl)) rfl
theorem q22 : Cond.fieldLink RX7 18 "Cavernbook$Streams" "minutes" "[I" ∈ wAll := wIn (wT1 (List.mem_of_getElem? (i := 225) rfl)) rfl
theorem q23 : Cond.fieldLink RX7 21 "Cavernbook$Streams" "hundredths" "[I" ∈ wAll := wIn (wT1 (List.mem_of_getElem? (i := 226) rfl)) rfl
theorem q24 : Cond.classLink RX7 24 "[[I" ∈ wAll := wIn (wT1 (List.mem_of_getElem? (i := 221) rfl)) rfl
theorem q25 : Cond.fieldLink RX7 26 "Cavernbook$Streams" "dye" "[[I" ∈ wAll := wIn (wT1 (List.mem_of_getElem? (i := 227) rfl)) rfl
theorem q26 : Cond.fieldLink RX7 29 "Cavernbook$Streams" "heights" "[I" ∈ wAll := wIn (wT1 (List.mem_of_getElem? (i := 229) rfl)) rfl
theorem q27 : Cond.methodLink RX5 3 objectInit ∈ wAll := wIn (wT2 (List.mem_of_getElem? (i := 30) rfl)) rfl
theorem q28 : Cond.fieldLink RX5 9 "Cavernbook$Planner" "cave" "LCavernbook$Cave;" ∈ wAll := wIn (wT2 (List.mem_of_getElem? (i := 32) rfl)) rfl
theorem q29 : Cond.fieldLink RX5 15 "Cavernbook$Planner" "floods" "LCavernbook$Floods;" ∈ wAll := wIn (wT2 (List.mem_of_getElem? (i := 33) rfl)) rfl
theorem q30 : Cond.classLink RX5 19 "[[I" ∈ wAll := wIn (wT2 (List.mem_of_getElem? (i := 31) rfl)) rfl
theorem q31 : Cond.fieldLink RX5 21 "Cavernbook$Planner" "arrival" "[[I" ∈ wAll := wIn (wT2 (List.mem_of_getElem? (i := 34) rfl)) rfl
theorem q32 : Cond.fieldLink RX5 24 "Cavernbook$Planner" "steps" "[I" ∈ wAll := wIn (wT2 (List.mem_of_getElem? (i := 36) rfl)) rfl
theorem q33 : Cond.fieldLink RX5 28 "Cavernbook$Planner" "planned" "I" ∈ wAll := wIn (wT2 (List.mem_of_getElem? (i := 38) rfl)) rfl
theorem q34 : Cond.methodLink RX4 3 objectInit ∈ wAll := wIn (wT1 (List.mem_of_getElem? (i := 150) rfl)) rfl
theorem q35 : Cond.fieldLink RX4 9 "Cavernbook$Places" "cave" "LCavernbook$Cave;" ∈ wAll := wIn (wT1 (List.mem_of_getElem? (i := 168) rfl)) rfl
theorem q36 : Cond.fieldLink RX4 15 "Cavernbook$Places" "lowest" "[I" ∈ wAll := wIn (wT1 (List.mem_of_getElem? (i := 169) rfl)) rfl
theorem q37 : Cond.arrayClass .boolean ∈ wAll := wIn (wT1 (List.mem_of_getElem? (i := 166) rfl)) rfl
theorem q38 : Cond.fieldLink RX4 19 "Cavernbook$Places" "hung" "[Z" ∈ wAll := wIn (wT1 (List.mem_of_getElem? (i := 170) rfl)) rfl
theorem q39 : Cond.fieldLink RX4 23 "Cavernbook$Places" "rowOf" "[I" ∈ wAll := wIn (wT1 (List.mem_of_getElem? (i := 171) rfl)) rfl
theorem q40 : Cond.classLink RX4 26 "[[J" ∈ wAll := wIn (wT1 (List.mem_of_getElem? (i := 151) rfl)) rfl
theorem q41 : Cond.arrayClass .long ∈ wAll := wIn (wT1 (List.mem_of_getElem? (i := 167) rfl)) rfl
theorem q42 : Cond.fieldLink RX4 28 "Cavernbook$Places" "net" "[[J" ∈ wAll := wIn (wT1 (List.mem_of_getElem? (i := 172) rfl)) rfl
theorem q43 : Cond.fieldLink RX4 31 "Cavernbook$Places" "tops" "[[J" ∈ wAll := wIn (wT1 (List.mem_of_getElem? (i := 173) rfl)) rfl
theorem q44 : Cond.classLink RX4 34 "Cavernbook$Wide" ∈ wAll := wIn (wT1 (List.mem_of_getElem? (i := 153) rfl)) rfl
theorem q45 : Cond.instantiable RX8 2 ∈ wAll := wIn (wT1 (List.mem_of_getElem? (i := 154) rfl)) rfl
theorem q46 : Cond.initialized RX8 ∈ wAll := wIn (wT1 (List.mem_of_getElem? (i := 6) rfl)) rfl
theorem q47 : Cond.methodLink RX4 36 yX8_init ∈ wAll := wIn (wT1 (List.mem_of_getElem? (i := 155) rfl)) rfl
theorem q48 : Cond.code yX8_init cX8_init 1 none ∈ wAll := wIn (wT1 (List.mem_of_getElem? (i := 157) rfl)) rfl
theorem q49 : Cond.instanceMethod yX8_init ∈ wAll := wIn (wT1 (List.mem_of_getElem? (i := 156) rfl)) rfl
theorem q50 : Cond.fieldLink RX4 37 "Cavernbook$Places" "dividend" "LCavernbook$Wide;" ∈ wAll := wIn (wT1 (List.mem_of_getElem? (i := 174) rfl)) rfl
theorem q51 : Cond.fieldLink RX4 41 "Cavernbook$Places" "divisor" "LCavernbook$Wide;" ∈ wAll := wIn (wT1 (List.mem_of_getElem? (i := 175) rfl)) rfl
theorem q52 : Cond.fieldLink RX4 44 "Cavernbook$Places" "used" "[Z" ∈ wAll := wIn (wT1 (List.mem_of_getElem? (i := 178) rfl)) rfl
theorem q53 : Cond.fieldLink RX4 47 "Cavernbook$Places" "bottom" "J" ∈ wAll := wIn (wT1 (List.mem_of_getElem? (i := 184) rfl)) rfl
theorem q54 : Cond.methodLink RX0 3 objectInit ∈ wAll := wIn (wT1 (List.mem_of_getElem? (i := 50) rfl)) rfl
theorem q55 : Cond.classLink RX0 9 "Cavernbook$Joins" ∈ wAll := wIn (wT1 (List.mem_of_getElem? (i := 51) rfl)) rfl
theorem q56 : Cond.instantiable RX2 5 ∈ wAll := wIn (wT1 (List.mem_of_getElem? (i := 52) rfl)) rfl
theorem q57 : Cond.initialized RX2 ∈ wAll := wIn (wT1 (List.mem_of_getElem? (i := 3) rfl)) rfl
theorem q58 : Cond.methodLink RX0 11 yX2_init ∈ wAll := wIn (wT1 (List.mem_of_getElem? (i := 53) rfl)) rfl
theorem q59 : Cond.code yX2_init cX2_init 1 none ∈ wAll := wIn (wT1 (List.mem_of_getElem? (i := 55) rfl)) rfl
theorem q60 : Cond.instanceMethod yX2_init ∈ wAll := wIn (wT1 (List.mem_of_getElem? (i := 54) rfl)) rfl
theorem q61 : Cond.fieldLink RX0 12 "Cavernbook$Cave" "joins" "LCavernbook$Joins;" ∈ wAll := wIn (wT1 (List.mem_of_getElem? (i := 127) rfl)) rfl
theorem q62 : Cond.classLink RX0 18 "Cavernbook$Shot" ∈ wAll := wIn (wT1 (List.mem_of_getElem? (i := 79) rfl)) rfl
theorem q63 : Cond.fieldLink RX0 20 "Cavernbook$Cave" "shots" "[LCavernbook$Shot;" ∈ wAll := wIn (wT1 (List.mem_of_getElem? (i := 123) rfl)) rfl
theorem q64 : Cond.instantiable RX6 8 ∈ wAll := wIn (wT1 (List.mem_of_getElem? (i := 81) rfl)) rfl
theorem q65 : Cond.initialized RX6 ∈ wAll := wIn (wT1 (List.mem_of_getElem? (i := 4) rfl)) rfl
theorem q66 : Cond.methodLink RX0 24 yX6_init ∈ wAll := wIn (wT1 (List.mem_of_getElem? (i := 82) rfl)) rfl
theorem q67 : Cond.code yX6_init cX6_init 1 none ∈ wAll := wIn (wT1 (List.mem_of_getElem? (i := 84) rfl)) rfl
theorem q68 : Cond.instanceMethod yX6_init ∈ wAll := wIn (wT1 (List.mem_of_getElem? (i := 83) rfl)) rfl
theorem iRX0_l : ∀ w ∈ u_ws RX0 TX0 4, w ∈ lw_tbl ∧ goodWord w = true := by decide +kernel
theorem iRX0 : ∀ w ∈ u_ws RX0 TX0 4, w ∈ wAll := fun w h => wIn (iRX0_l w h).1 (iRX0_l w h).2
theorem iRX1_l : ∀ w ∈ u_ws RX1 TX1 2, w ∈ lw_tbl ∧ goodWord w = true := by decide +kernel
theorem iRX1 : ∀ w ∈ u_ws RX1 TX1 2, w ∈ wAll := fun w h => wIn (iRX1_l w h).1 (iRX1_l w h).2
theorem iRX2_l : ∀ w ∈ u_ws RX2 TX2 5, w ∈ lw_tbl ∧ goodWord w = true := by decide +kernel
theorem iRX2 : ∀ w ∈ u_ws RX2 TX2 5, w ∈ wAll := fun w h => wIn (iRX2_l w h).1 (iRX2_l w h).2
theorem iRX3_l : ∀ w ∈ u_ws RX3 TX3 3, w ∈ lw_tbl ∧ goodWord w = true := by decide +kernel
theorem iRX3 : ∀ w ∈ u_ws RX3 TX3 3, w ∈ wAll := fun w h => wIn (iRX3_l w h).1 (iRX3_l w h).2
theorem iRX4_l : ∀ w ∈ u_ws RX4 TX4 14, w ∈ lw_tbl ∧ goodWord w = true := by decide +kernel
theorem iRX4 : ∀ w ∈ u_ws RX4 TX4 14, w ∈ wAll := fun w h => wIn (iRX4_l w h).1 (iRX4_l w h).2
theorem iRX5_l : ∀ w ∈ u_ws RX5 TX5 6, w ∈ lw_tbl ∧ goodWord w = true := by decide +kernel
theorem iRX5 : ∀ w ∈ u_ws RX5 TX5 6, w ∈ wAll := fun w h => wIn (iRX5_l w h).1 (iRX5_l w h).2
theorem iRX6_l : ∀ w ∈ u_ws RX6 TX6 8, w ∈ lw_tbl ∧ goodWord w = true := by decide +kernel
theorem iRX6 : ∀ w ∈ u_ws RX6 TX6 8, w ∈ wAll := fun w h => wIn (iRX6_l w h).1 (iRX6_l w h).2
theorem iRX7_l : ∀ w ∈ u_ws RX7 TX7 8, w ∈ lw_tbl ∧ goodWord w = true := by decide +kernel
theorem iRX7 : ∀ w ∈ u_ws RX7 TX7 8, w ∈ wAll := fun w h => wIn (iRX7_l w h).1 (iRX7_l w h).2
theorem iRX8_l : ∀ w ∈ u_ws RX8 TX8 2, w ∈ lw_tbl ∧ goodWord w = true := by decide +kernel
theorem iRX8 : ∀ w ∈ u_ws RX8 TX8 2, w ∈ wAll := fun w h => wIn (iRX8_l w h).1 (iRX8_l w h).2
theorem dX0_init_0 : decode cX0_init 0 = .ok (.aload_n 0, 1) := by decide +kernel
theorem dX0_init_1 : decode cX0_init 1 = .ok (.invokespecial 3, 3) := by decide +kernel
theorem dX0_init_4 : decode cX0_init 4 = .ok (.aload_n 0, 1) := by decide +kernel
theorem dX0_init_5 : decode cX0_init 5 = .ok (.new 9, 3) := by decide +kernel
theorem dX0_init_8 : decode cX0_init 8 = .ok (.dup, 1) := by decide +kernel
theorem dX0_init_9 : decode cX0_init 9 = .ok (.invokespecial 11, 3) := by decide +kernel
theorem dX0_init_12 : decode cX0_init 12 = .ok (.putfield 12, 3) := by decide +kernel
theorem dX0_init_15 : decode cX0_init 15 = .ok (.aload_n 0, 1) := by decide +kernel
theorem dX0_init_16 : decode cX0_init 16 = .ok (.bipush 24, 2) := by decide +kernel
theorem dX0_init_18 : decode cX0_init 18 = .ok (.anewarray 18, 3) := by decide +kernel
theorem dX0_init_21 : decode cX0_init 21 = .ok (.putfield 20, 3) := by decide +kernel
theorem dX0_init_24 : decode cX0_init 24 = .ok (.iconst 0, 1) := by decide +kernel
theorem dX0_init_25 : decode cX0_init 25 = .ok (.istore_n 1, 1) := by decide +kernel
theorem dX0_init_26 : decode cX0_init 26 = .ok (.iload_n 1, 1) := by decide +kernel
theorem dX0_init_27 : decode cX0_init 27 = .ok (.bipush 24, 2) := by decide +kernel
theorem dX0_init_29 : decode cX0_init 29 = .ok (.if_icmp .ge 22, 3) := by decide +kernel
theorem dX0_init_32 : decode cX0_init 32 = .ok (.aload_n 0, 1) := by decide +kernel
theorem dX0_init_33 : decode cX0_init 33 = .ok (.getfield 20, 3) := by decide +kernel
theorem dX0_init_36 : decode cX0_init 36 = .ok (.iload_n 1, 1) := by decide +kernel
theorem dX0_init_37 : decode cX0_init 37 = .ok (.new 18, 3) := by decide +kernel
theorem dX0_init_40 : decode cX0_init 40 = .ok (.dup, 1) := by decide +kernel
theorem dX0_init_41 : decode cX0_init 41 = .ok (.invokespecial 24, 3) := by decide +kernel
theorem dX0_init_44 : decode cX0_init 44 = .ok (.aastore, 1) := by decide +kernel
theorem dX0_init_45 : decode cX0_init 45 = .ok (.iinc 1 1, 3) := by decide +kernel
theorem dX0_init_48 : decode cX0_init 48 = .ok (.goto (-22), 3) := by decide +kernel
theorem dX0_init_51 : decode cX0_init 51 = .ok (.return_, 1) := by decide +kernel
theorem dX1_init_0 : decode cX1_init 0 = .ok (.aload_n 0, 1) := by decide +kernel
theorem dX1_init_1 : decode cX1_init 1 = .ok (.invokespecial 3, 3) := by decide +kernel
theorem dX1_init_4 : decode cX1_init 4 = .ok (.aload_n 0, 1) := by decide +kernel
theorem dX1_init_5 : decode cX1_init 5 = .ok (.sipush 200, 3) := by decide +kernel
theorem dX1_init_8 : decode cX1_init 8 = .ok (.newarray .int, 2) := by decide +kernel
theorem dX1_init_10 : decode cX1_init 10 = .ok (.putfield 9, 3) := by decide +kernel
theorem dX1_init_13 : decode cX1_init 13 = .ok (.aload_n 0, 1) := by decide +kernel
theorem dX1_init_14 : decode cX1_init 14 = .ok (.sipush 401, 3) := by decide +kernel
theorem dX1_init_17 : decode cX1_init 17 = .ok (.newarray .int, 2) := by decide +kernel
theorem dX1_init_19 : decode cX1_init 19 = .ok (.putfield 15, 3) := by decide +kernel
theorem dX1_init_22 : decode cX1_init 22 = .ok (.return_, 1) := by decide +kernel
theorem dX2_init_0 : decode cX2_init 0 = .ok (.aload_n 0, 1) := by decide +kernel
theorem dX2_init_1 : decode cX2_init 1 = .ok (.invokespecial 3, 3) := by decide +kernel
theorem dX2_init_4 : decode cX2_init 4 = .ok (.aload_n 0, 1) := by decide +kernel
theorem dX2_init_5 : decode cX2_init 5 = .ok (.bipush 8, 2) := by decide +kernel
theorem dX2_init_7 : decode cX2_init 7 = .ok (.newarray .int, 2) := by decide +kernel
theorem dX2_init_9 : decode cX2_init 9 = .ok (.putfield 9, 3) := by decide +kernel
theorem dX2_init_12 : decode cX2_init 12 = .ok (.aload_n 0, 1) := by decide +kernel
theorem dX2_init_13 : decode cX2_init 13 = .ok (.bipush 8, 2) := by decide +kernel
theorem dX2_init_15 : decode cX2_init 15 = .ok (.newarray .int, 2) := by decide +kernel
theorem dX2_init_17 : decode cX2_init 17 = .ok (.putfield 15, 3) := by decide +kernel
theorem dX2_init_20 : decode cX2_init 20 = .ok (.aload_n 0, 1) := by decide +kernel
theorem dX2_init_21 : decode cX2_init 21 = .ok (.bipush 8, 2) := by decide +kernel
theorem dX2_init_23 : decode cX2_init 23 = .ok (.newarray .int, 2) := by decide +kernel
theorem dX2_init_25 : decode cX2_init 25 = .ok (.putfield 18, 3) := by decide +kernel
theorem dX2_init_28 : decode cX2_init 28 = .ok (.aload_n 0, 1) := by decide +kernel
theorem dX2_init_29 : decode cX2_init 29 = .ok (.bipush 9, 2) := by decide +kernel
theorem dX2_init_31 : decode cX2_init 31 = .ok (.newarray .int, 2) := by decide +kernel
theorem dX2_init_33 : decode cX2_init 33 = .ok (.putfield 21, 3) := by decide +kernel
theorem dX2_init_36 : decode cX2_init 36 = .ok (.return_, 1) := by decide +kernel
theorem dX3_init_0 : decode cX3_init 0 = .ok (.aload_n 0, 1) := by decide +kernel
theorem dX3_init_1 : decode cX3_init 1 = .ok (.invokespecial 3, 3) := by decide +kernel
theorem dX3_init_4 : decode cX3_init 4 = .ok (.aload_n 0, 1) := by decide +kernel
theorem dX3_init_5 : decode cX3_init 5 = .ok (.iconst 0, 1) := by decide +kernel
theorem dX3_init_6 : decode cX3_init 6 = .ok (.putfield 9, 3) := by decide +kernel
theorem dX3_init_9 : decode cX3_init 9 = .ok (.return_, 1) := by decide +kernel
theorem dX4_init_0 : decode cX4_init 0 = .ok (.aload_n 0, 1) := by decide +kernel
theorem dX4_init_1 : decode cX4_init 1 = .ok (.invokespecial 3, 3) := by decide +kernel
theorem dX4_init_4 : decode cX4_init 4 = .ok (.aload_n 0, 1) := by decide +kernel
theorem dX4_init_5 : decode cX4_init 5 = .ok (.aload_n 1, 1) := by decide +kernel
theorem dX4_init_6 : decode cX4_init 6 = .ok (.putfield 9, 3) := by decide +kernel
theorem dX4_init_9 : decode cX4_init 9 = .ok (.aload_n 0, 1) := by decide +kernel
theorem dX4_init_10 : decode cX4_init 10 = .ok (.bipush 9, 2) := by decide +kernel
theorem dX4_init_12 : decode cX4_init 12 = .ok (.newarray .int, 2) := by decide +kernel
theorem dX4_init_14 : decode cX4_init 14 = .ok (.putfield 15, 3) := by decide +kernel
theorem dX4_init_17 : decode cX4_init 17 = .ok (.aload_n 0, 1) := by decide +kernel
theorem dX4_init_18 : decode cX4_init 18 = .ok (.bipush 9, 2) := by decide +kernel
theorem dX4_init_20 : decode cX4_init 20 = .ok (.newarray .boolean, 2) := by decide +kernel
theorem dX4_init_22 : decode cX4_init 22 = .ok (.putfield 19, 3) := by decide +kernel
theorem dX4_init_25 : decode cX4_init 25 = .ok (.aload_n 0, 1) := by decide +kernel
theorem dX4_init_26 : decode cX4_init 26 = .ok (.bipush 9, 2) := by decide +kernel
theorem dX4_init_28 : decode cX4_init 28 = .ok (.newarray .int, 2) := by decide +kernel
theorem dX4_init_30 : decode cX4_init 30 = .ok (.putfield 23, 3) := by decide +kernel
theorem dX4_init_33 : decode cX4_init 33 = .ok (.aload_n 0, 1) := by decide +kernel
theorem dX4_init_34 : decode cX4_init 34 = .ok (.bipush 8, 2) := by decide +kernel
theorem dX4_init_36 : decode cX4_init 36 = .ok (.bipush 11, 2) := by decide +kernel
theorem dX4_init_38 : decode cX4_init 38 = .ok (.multianewarray 26 2, 4) := by decide +kernel
theorem dX4_init_42 : decode cX4_init 42 = .ok (.putfield 28, 3) := by decide +kernel
theorem dX4_init_45 : decode cX4_init 45 = .ok (.aload_n 0, 1) := by decide +kernel
theorem dX4_init_46 : decode cX4_init 46 = .ok (.bipush 9, 2) := by decide +kernel
theorem dX4_init_48 : decode cX4_init 48 = .ok (.iconst 3, 1) := by decide +kernel
theorem dX4_init_49 : decode cX4_init 49 = .ok (.multianewarray 26 2, 4) := by decide +kernel
theorem dX4_init_53 : decode cX4_init 53 = .ok (.putfield 31, 3) := by decide +kernel
theorem dX4_init_56 : decode cX4_init 56 = .ok (.aload_n 0, 1) := by decide +kernel
theorem dX4_init_57 : decode cX4_init 57 = .ok (.new 34, 3) := by decide +kernel
theorem dX4_init_60 : decode cX4_init 60 = .ok (.dup, 1) := by decide +kernel
theorem dX4_init_61 : decode cX4_init 61 = .ok (.invokespecial 36, 3) := by decide +kernel
theorem dX4_init_64 : decode cX4_init 64 = .ok (.putfield 37, 3) := by decide +kernel
theorem dX4_init_67 : decode cX4_init 67 = .ok (.aload_n 0, 1) := by decide +kernel
theorem dX4_init_68 : decode cX4_init 68 = .ok (.new 34, 3) := by decide +kernel
theorem dX4_init_71 : decode cX4_init 71 = .ok (.dup, 1) := by decide +kernel
theorem dX4_init_72 : decode cX4_init 72 = .ok (.invokespecial 36, 3) := by decide +kernel
theorem dX4_init_75 : decode cX4_init 75 = .ok (.putfield 41, 3) := by decide +kernel
theorem dX4_init_78 : decode cX4_init 78 = .ok (.aload_n 0, 1) := by decide +kernel
theorem dX4_init_79 : decode cX4_init 79 = .ok (.bipush 24, 2) := by decide +kernel
theorem dX4_init_81 : decode cX4_init 81 = .ok (.newarray .boolean, 2) := by decide +kernel
theorem dX4_init_83 : decode cX4_init 83 = .ok (.putfield 44, 3) := by decide +kernel
theorem dX4_init_86 : decode cX4_init 86 = .ok (.aload_n 0, 1) := by decide +kernel
theorem dX4_init_87 : decode cX4_init 87 = .ok (.lconst 1, 1) := by decide +kernel
theorem dX4_init_88 : decode cX4_init 88 = .ok (.putfield 47, 3) := by decide +kernel
theorem dX4_init_91 : decode cX4_init 91 = .ok (.return_, 1) := by decide +kernel
theorem dX5_init_0 : decode cX5_init 0 = .ok (.aload_n 0, 1) := by decide +kernel
theorem dX5_init_1 : decode cX5_init 1 = .ok (.invokespecial 3, 3) := by decide +kernel
theorem dX5_init_4 : decode cX5_init 4 = .ok (.aload_n 0, 1) := by decide +kernel
theorem dX5_init_5 : decode cX5_init 5 = .ok (.aload_n 1, 1) := by decide +kernel
theorem dX5_init_6 : decode cX5_init 6 = .ok (.putfield 9, 3) := by decide +kernel
theorem dX5_init_9 : decode cX5_init 9 = .ok (.aload_n 0, 1) := by decide +kernel
theorem dX5_init_10 : decode cX5_init 10 = .ok (.aload_n 2, 1) := by decide +kernel
theorem dX5_init_11 : decode cX5_init 11 = .ok (.putfield 15, 3) := by decide +kernel
theorem dX5_init_14 : decode cX5_init 14 = .ok (.aload_n 0, 1) := by decide +kernel
theorem dX5_init_15 : decode cX5_init 15 = .ok (.bipush 51, 2) := by decide +kernel
theorem dX5_init_17 : decode cX5_init 17 = .ok (.bipush 9, 2) := by decide +kernel
theorem dX5_init_19 : decode cX5_init 19 = .ok (.multianewarray 19 2, 4) := by decide +kernel
theorem dX5_init_23 : decode cX5_init 23 = .ok (.putfield 21, 3) := by decide +kernel
theorem dX5_init_26 : decode cX5_init 26 = .ok (.aload_n 0, 1) := by decide +kernel
theorem dX5_init_27 : decode cX5_init 27 = .ok (.bipush 50, 2) := by decide +kernel
theorem dX5_init_29 : decode cX5_init 29 = .ok (.newarray .int, 2) := by decide +kernel
theorem dX5_init_31 : decode cX5_init 31 = .ok (.putfield 24, 3) := by decide +kernel
theorem dX5_init_34 : decode cX5_init 34 = .ok (.aload_n 0, 1) := by decide +kernel
theorem dX5_init_35 : decode cX5_init 35 = .ok (.iconst (-1), 1) := by decide +kernel
theorem dX5_init_36 : decode cX5_init 36 = .ok (.putfield 28, 3) := by decide +kernel
theorem dX5_init_39 : decode cX5_init 39 = .ok (.return_, 1) := by decide +kernel
theorem dX6_init_0 : decode cX6_init 0 = .ok (.aload_n 0, 1) := by decide +kernel
theorem dX6_init_1 : decode cX6_init 1 = .ok (.invokespecial 3, 3) := by decide +kernel
theorem dX6_init_4 : decode cX6_init 4 = .ok (.aload_n 0, 1) := by decide +kernel
theorem dX6_init_5 : decode cX6_init 5 = .ok (.sipush 1000, 3) := by decide +kernel
theorem dX6_init_8 : decode cX6_init 8 = .ok (.putfield 9, 3) := by decide +kernel
theorem dX6_init_11 : decode cX6_init 11 = .ok (.aload_n 0, 1) := by decide +kernel
theorem dX6_init_12 : decode cX6_init 12 = .ok (.iconst 3, 1) := by decide +kernel
theorem dX6_init_13 : decode cX6_init 13 = .ok (.newarray .int, 2) := by decide +kernel
theorem dX6_init_15 : decode cX6_init 15 = .ok (.putfield 15, 3) := by decide +kernel
theorem dX6_init_18 : decode cX6_init 18 = .ok (.return_, 1) := by decide +kernel
theorem dX7_init_0 : decode cX7_init 0 = .ok (.aload_n 0, 1) := by decide +kernel
theorem dX7_init_1 : decode cX7_init 1 = .ok (.invokespecial 3, 3) := by decide +kernel
theorem dX7_init_4 : decode cX7_init 4 = .ok (.aload_n 0, 1) := by decide +kernel
theorem dX7_init_5 : decode cX7_init 5 = .ok (.bipush 12, 2) := by decide +kernel
theorem dX7_init_7 : decode cX7_init 7 = .ok (.newarray .int, 2) := by decide +kernel
theorem dX7_init_9 : decode cX7_init 9 = .ok (.putfield 9, 3) := by decide +kernel
theorem dX7_init_12 : decode cX7_init 12 = .ok (.aload_n 0, 1) := by decide +kernel
theorem dX7_init_13 : decode cX7_init 13 = .ok (.bipush 12, 2) := by decide +kernel
theorem dX7_init_15 : decode cX7_init 15 = .ok (.newarray .int, 2) := by decide +kernel
theorem dX7_init_17 : decode cX7_init 17 = .ok (.putfield 15, 3) := by decide +kernel
theorem dX7_init_20 : decode cX7_init 20 = .ok (.aload_n 0, 1) := by decide +kernel
theorem dX7_init_21 : decode cX7_init 21 = .ok (.bipush 12, 2) := by decide +kernel
theorem dX7_init_23 : decode cX7_init 23 = .ok (.newarray .int, 2) := by decide +kernel
theorem dX7_init_25 : decode cX7_init 25 = .ok (.putfield 18, 3) := by decide +kernel
theorem dX7_init_28 : decode cX7_init 28 = .ok (.aload_n 0, 1) := by decide +kernel
theorem dX7_init_29 : decode cX7_init 29 = .ok (.bipush 12, 2) := by decide +kernel
theorem dX7_init_31 : decode cX7_init 31 = .ok (.newarray .int, 2) := by decide +kernel
theorem dX7_init_33 : decode cX7_init 33 = .ok (.putfield 21, 3) := by decide +kernel
theorem dX7_init_36 : decode cX7_init 36 = .ok (.aload_n 0, 1) := by decide +kernel
theorem dX7_init_37 : decode cX7_init 37 = .ok (.bipush 9, 2) := by decide +kernel
theorem dX7_init_39 : decode cX7_init 39 = .ok (.sipush 793, 3) := by decide +kernel
theorem dX7_init_42 : decode cX7_init 42 = .ok (.multianewarray 24 2, 4) := by decide +kernel
theorem dX7_init_46 : decode cX7_init 46 = .ok (.putfield 26, 3) := by decide +kernel
theorem dX7_init_49 : decode cX7_init 49 = .ok (.aload_n 0, 1) := by decide +kernel
theorem dX7_init_50 : decode cX7_init 50 = .ok (.bipush 9, 2) := by decide +kernel
theorem dX7_init_52 : decode cX7_init 52 = .ok (.newarray .int, 2) := by decide +kernel
theorem dX7_init_54 : decode cX7_init 54 = .ok (.putfield 29, 3) := by decide +kernel
theorem dX7_init_57 : decode cX7_init 57 = .ok (.return_, 1) := by decide +kernel
theorem dX8_init_0 : decode cX8_init 0 = .ok (.aload_n 0, 1) := by decide +kernel
theorem dX8_init_1 : decode cX8_init 1 = .ok (.invokespecial 1, 3) := by decide +kernel
theorem dX8_init_4 : decode cX8_init 4 = .ok (.aload_n 0, 1) := by decide +kernel
theorem dX8_init_5 : decode cX8_init 5 = .ok (.lconst 0, 1) := by decide +kernel
theorem dX8_init_6 : decode cX8_init 6 = .ok (.putfield 7, 3) := by decide +kernel
theorem dX8_init_9 : decode cX8_init 9 = .ok (.aload_n 0, 1) := by decide +kernel
theorem dX8_init_10 : decode cX8_init 10 = .ok (.lconst 0, 1) := by decide +kernel
theorem dX8_init_11 : decode cX8_init 11 = .ok (.putfield 13, 3) := by decide +kernel
theorem dX8_init_14 : decode cX8_init 14 = .ok (.return_, 1) := by decide +kernel
set_option maxHeartbeats 4000000 in
set_option maxRecDepth 100000 in
/-- Shot(): asideDay is 1000, steps a new array -/
theorem k_Shot_init (l : Launch) (D : va_G) (cy : Nat → ClassId) (h0 : Nat) (sz : Nat)  : Met l yX6_init (wz yX6_init cX6_init 1 none) ({ frames := 1, cells := 1, slots := 3, locals := 12 } : Room) (va_Pc [.ref h0] (zPre vwCl D cy [(h0, .inr (9, [.int 0, .int 0, .int 0, .int 0, .int 0, .int 0, .int 0, .null]))] sz)) (va_Qv (fun _ : Nat => True) (fun (u : Nat) t => zPost vwCl D (va_A [(h0, .inr (9, [.int 0, .int 0, .int 0, .int 0, .int 0, .int 0, .int 0, .null]))] sz) [(h0, .inr (9, [.int 0, .int 0, .int 0, .int 0, .int 0, .int 1000, .int 0, .ref u]))] t) (va_A [(h0, .inr (9, [.int 0, .int 0, .int 0, .int 0, .int 0, .int 0, .int 0, .null]))] sz)) 1 3 (va_A [(h0, .inr (9, [.int 0, .int 0, .int 0, .int 0, .int 0, .int 0, .int 0, .null]))] sz) := by
  refine Met.ofW (cc := cX6_init) (maxL := 1) (ret := none) (by decide) rfl ?_
  intro p e s m args below meth c s₁ B hml hv
  obtain ⟨rfl, hsz, hP, hK, hD0, hX, hY⟩ := hv
  have hx := B.exec
  have hb := B.bytes
  have hr := B.returns
  have hts0 := atoms_spec (ws := wz yX6_init cX6_init 1 none) B.pre
  have hts : ∀ w ∈ wAll, w.before _ s = true := fun w h => hts0 w (List.mem_cons_of_mem _ h)
  have hown : s.vm.findClass RX6 = some m.cls := findClass_of_methodNamed B.named
  have hlocks := B.notSynchronized
  have hin : meth.name = "<init>" := (name_of_methodNamed B.named B.method).1
  subst hsz
  have hD := hD0.self (sz := s.heap.size)
  generalize hAe : va_A [(h0, .inr (9, [.int 0, .int 0, .int 0, .int 0, .int 0, .int 0, .int 0, .null]))] s.heap.size = A at hD hY ⊢
  have hA : ∀ q : Nat, s.heap.size ≤ q → A q := fun q h => by rw [← hAe]; exact Or.inr h
  have hS : va_S A s.heap s.heap [] := va_S.rf
  have hP : va_P D vwCl [(h0, .inr (9, [.int 0, .int 0, .int 0, .int 0, .int 0, .int 0, .int 0, .null]))] s.heap := hP
  have hl := lv_entry ([.ref h0]) (n := 1) (Nat.le_of_ble_eq_true rfl)
  rw [lg_entry_eq]
  generalize (lg_sl ([.ref h0]) ++ List.replicate (1 - (lg_sl ([.ref h0])).length) Slot.unset).toArray = ls at hl ⊢
  have hl : lv_has ls 1 [(0, .ref h0)] := hl
  refine z_anyQ (fun Q hQe => ?_)
  refine lv_aload_n hx hb dX6_init_0 rfl (lv_at hl 0 rfl) ?_
  refine W.objInit hx hb hown (hts _ q0) (hts _ q1) (hts _ q2) rfl (by rw [hml]; exact hl.1) rfl dX6_init_1 (Nat.le_of_ble_eq_true rfl) (Nat.le_of_ble_eq_true rfl) ?_
  refine W.eq (g2 := F0 m 4 ls []) rfl ?_
  refine lv_aload_n hx hb dX6_init_4 rfl (lv_at hl 0 rfl) ?_
  refine lv_sipush (v := 1000) hx hb dX6_init_5 (by decide) ?_
  refine va_put (D := D) (ci := 9) (v := .int 1000) (ty := .int) (C := RX6) (T := TX6) (N := 8) hx hb hts iRX6 tyX6 tyX6_ok nmX6 hown hK hP hD hS 0 rfl rfl 5 (by decide) (hts _ q3) (fun _ h9 => h9) rfl (tyX6_ok 5 (by decide)) rfl rfl (Nat.le_of_ble_eq_true rfl) dX6_init_8 (fun H locs hP hD hS => ?_)
  have hP : va_P D vwCl [(h0, .inr (9, [.int 0, .int 0, .int 0, .int 0, .int 0, .int 1000, .int 0, .null]))] H := hP
  have hD : va_D A [(h0, .inr (9, [.int 0, .int 0, .int 0, .int 0, .int 0, .int 1000, .int 0, .null]))] := hD
  refine lv_aload_n hx hb dX6_init_11 rfl (lv_at hl 0 rfl) ?_
  refine lv_iconst (v := 3) hx hb dX6_init_12 (by decide) ?_
  refine z_newa (atype := .int) hx hb (hts _ q4) rfl hK hP hD hS hA 0 rfl (a0 := (3, .inl (fun _ => 0))) (fun _ => rfl) (by decide) (by decide) (by decide) (Nat.le_of_ble_eq_true rfl) (Nat.le_of_ble_eq_true rfl) dX6_init_13 (fun n1 H hP hD hS => ?_)
  have hP : va_P D vwCl [(h0, .inr (9, [.int 0, .int 0, .int 0, .int 0, .int 0, .int 1000, .int 0, .null])), (n1, .inl (cy 0, 3, .inl (fun _ => 0)))] H := hP
  have hD : va_D A [(h0, .inr (9, [.int 0, .int 0, .int 0, .int 0, .int 0, .int 1000, .int 0, .null])), (n1, .inl (cy 0, 3, .inl (fun _ => 0)))] := hD
  refine W.widen (k := 1) (n := 3) (by omega) (by omega) ?_
  refine va_putF (D := D) (ci := 9) (v := .ref n1) (ty := (tyX6 7)) (C := RX6) (T := TX6) (N := 8) hx hb hts iRX6 tyX6 tyX6_ok nmX6 hown hK hP hD hS 0 rfl rfl 7 (by decide) (hts _ q5) (fun _ h9 => h9) rfl hin rfl (tyX6_ok 7 (by decide)) rfl rfl (Nat.le_of_ble_eq_true rfl) dX6_init_15 (fun H locs hP hD hS => ?_)
  have hP : va_P D vwCl [(h0, .inr (9, [.int 0, .int 0, .int 0, .int 0, .int 0, .int 1000, .int 0, .ref n1])), (n1, .inl (cy 0, 3, .inl (fun _ => 0)))] H := hP
  have hD : va_D A [(h0, .inr (9, [.int 0, .int 0, .int 0, .int 0, .int 0, .int 1000, .int 0, .ref n1])), (n1, .inl (cy 0, 3, .inl (fun _ => 0)))] := hD
  have hP9 := hP.sub (ws' := [(h0, .inr (9, [.int 0, .int 0, .int 0, .int 0, .int 0, .int 1000, .int 0, .ref n1]))]) [0] rfl
  have hD9 := hD.sub (ws' := [(h0, .inr (9, [.int 0, .int 0, .int 0, .int 0, .int 0, .int 1000, .int 0, .ref n1]))]) [0] (by decide) rfl
  refine W.widen (k := 1) (n := 3) (Nat.le_of_ble_eq_true rfl) (Nat.le_of_ble_eq_true rfl) ?_
  rw [hQe]
  exact W.vret hx hb hr (fun t ht hW => ⟨⟨n1, rfl, trivial, ⟨by rw [ht]; exact hP9, hD9⟩⟩, hS.F ht⟩) hS.2.2 dX6_init_18
set_option maxHeartbeats 4000000 in
set_option maxRecDepth 100000 in
/-- Party(): all 0 -/
theorem k_Party_init (l : Launch) (D : va_G) (cy : Nat → ClassId) (h0 : Nat) (sz : Nat)  : Met l yX3_init (wz yX3_init cX3_init 1 none) ({ frames := 1, cells := 0, slots := 0, locals := 12 } : Room) (va_Pc [.ref h0] (zPre vwCl D cy [(h0, .inr (6, [.int 0, .int 0, .int 0]))] sz)) (va_Qv (fun _ : Unit => True) (fun (u : Unit) t => zPost vwCl D (va_A [(h0, .inr (6, [.int 0, .int 0, .int 0]))] sz) [(h0, .inr (6, [.int 0, .int 0, .int 0]))] t) (va_A [(h0, .inr (6, [.int 0, .int 0, .int 0]))] sz)) 0 0 (va_A [(h0, .inr (6, [.int 0, .int 0, .int 0]))] sz) := by
  refine Met.ofW (cc := cX3_init) (maxL := 1) (ret := none) (by decide) rfl ?_
  intro p e s m args below meth c s₁ B hml hv
  obtain ⟨rfl, hsz, hP, hK, hD0, hX, hY⟩ := hv
  have hx := B.exec
  have hb := B.bytes
  have hr := B.returns
  have hts0 := atoms_spec (ws := wz yX3_init cX3_init 1 none) B.pre
  have hts : ∀ w ∈ wAll, w.before _ s = true := fun w h => hts0 w (List.mem_cons_of_mem _ h)
  have hown : s.vm.findClass RX3 = some m.cls := findClass_of_methodNamed B.named
  have hlocks := B.notSynchronized
  have hin : meth.name = "<init>" := (name_of_methodNamed B.named B.method).1
  subst hsz
  have hD := hD0.self (sz := s.heap.size)
  generalize hAe : va_A [(h0, .inr (6, [.int 0, .int 0, .int 0]))] s.heap.size = A at hD hY ⊢
  have hA : ∀ q : Nat, s.heap.size ≤ q → A q := fun q h => by rw [← hAe]; exact Or.inr h
  have hS : va_S A s.heap s.heap [] := va_S.rf
  have hP : va_P D vwCl [(h0, .inr (6, [.int 0, .int 0, .int 0]))] s.heap := hP
  have hl := lv_entry ([.ref h0]) (n := 1) (Nat.le_of_ble_eq_true rfl)
  rw [lg_entry_eq]
  generalize (lg_sl ([.ref h0]) ++ List.replicate (1 - (lg_sl ([.ref h0])).length) Slot.unset).toArray = ls at hl ⊢
  have hl : lv_has ls 1 [(0, .ref h0)] := hl
  refine z_anyQ (fun Q hQe => ?_)
  refine lv_aload_n hx hb dX3_init_0 rfl (lv_at hl 0 rfl) ?_
  refine W.objInit hx hb hown (hts _ q6) (hts _ q1) (hts _ q2) rfl (by rw [hml]; exact hl.1) rfl dX3_init_1 (Nat.le_of_ble_eq_true rfl) (Nat.le_of_ble_eq_true rfl) ?_
  refine W.eq (g2 := F0 m 4 ls []) rfl ?_
  refine lv_aload_n hx hb dX3_init_4 rfl (lv_at hl 0 rfl) ?_
  refine lv_iconst (v := 0) hx hb dX3_init_5 (by decide) ?_
  refine va_put (D := D) (ci := 6) (v := .int 0) (ty := .int) (C := RX3) (T := TX3) (N := 3) hx hb hts iRX3 tyX3 tyX3_ok nmX3 hown hK hP hD hS 0 rfl rfl 0 (by decide) (hts _ q7) (fun _ h9 => h9) rfl (tyX3_ok 0 (by decide)) rfl rfl (Nat.le_of_ble_eq_true rfl) dX3_init_6 (fun H locs hP hD hS => ?_)
  have hP : va_P D vwCl [(h0, .inr (6, [.int 0, .int 0, .int 0]))] H := hP
  have hD : va_D A [(h0, .inr (6, [.int 0, .int 0, .int 0]))] := hD
  have hP9 := hP.sub (ws' := [(h0, .inr (6, [.int 0, .int 0, .int 0]))]) [0] rfl
  have hD9 := hD.sub (ws' := [(h0, .inr (6, [.int 0, .int 0, .int 0]))]) [0] (by decide) rfl
  refine W.widen (k := 0) (n := 0) (Nat.le_of_ble_eq_true rfl) (Nat.le_of_ble_eq_true rfl) ?_
  rw [hQe]
  exact W.vret hx hb hr (fun t ht hW => ⟨⟨(), rfl, trivial, ⟨by rw [ht]; exact hP9, hD9⟩⟩, hS.F ht⟩) hS.2.2 dX3_init_9
set_option maxHeartbeats 4000000 in
set_option maxRecDepth 100000 in
/-- Wide(): all 0 (not kept) -/
theorem k_Wide_init (l : Launch) (D : va_G) (cy : Nat → ClassId) (h0 : Nat) (sz : Nat)  : Met l yX8_init (wz yX8_init cX8_init 1 none) ({ frames := 1, cells := 0, slots := 0, locals := 12 } : Room) (va_Pc [.ref h0] (zPre vwCl D cy [(h0, .inr (11, [.long 0, .long 0]))] sz)) (va_Qv (fun _ : Unit => True) (fun (u : Unit) t => zPost vwCl D (va_A [(h0, .inr (11, [.long 0, .long 0]))] sz) [] t) (va_A [(h0, .inr (11, [.long 0, .long 0]))] sz)) 0 0 (va_A [(h0, .inr (11, [.long 0, .long 0]))] sz) := by
  refine Met.ofW (cc := cX8_init) (maxL := 1) (ret := none) (by decide) rfl ?_
  intro p e s m args below meth c s₁ B hml hv
  obtain ⟨rfl, hsz, hP, hK, hD0, hX, hY⟩ := hv
  have hx := B.exec
  have hb := B.bytes
  have hr := B.returns
  have hts0 := atoms_spec (ws := wz yX8_init cX8_init 1 none) B.pre
  have hts : ∀ w ∈ wAll, w.before _ s = true := fun w h => hts0 w (List.mem_cons_of_mem _ h)
  have hown : s.vm.findClass RX8 = some m.cls := findClass_of_methodNamed B.named
  have hlocks := B.notSynchronized
  have hin : meth.name = "<init>" := (name_of_methodNamed B.named B.method).1
  subst hsz
  have hD := hD0.self (sz := s.heap.size)
  generalize hAe : va_A [(h0, .inr (11, [.long 0, .long 0]))] s.heap.size = A at hD hY ⊢
  have hA : ∀ q : Nat, s.heap.size ≤ q → A q := fun q h => by rw [← hAe]; exact Or.inr h
  have hS : va_S A s.heap s.heap [] := va_S.rf
  have hP : va_P D vwCl [(h0, .inr (11, [.long 0, .long 0]))] s.heap := hP
  have hl := lv_entry ([.ref h0]) (n := 1) (Nat.le_of_ble_eq_true rfl)
  rw [lg_entry_eq]
  generalize (lg_sl ([.ref h0]) ++ List.replicate (1 - (lg_sl ([.ref h0])).length) Slot.unset).toArray = ls at hl ⊢
  have hl : lv_has ls 1 [(0, .ref h0)] := hl
  refine z_anyQ (fun Q hQe => ?_)
  refine lv_aload_n hx hb dX8_init_0 rfl (lv_at hl 0 rfl) ?_
  refine W.objInit hx hb hown (hts _ q8) (hts _ q1) (hts _ q2) rfl (by rw [hml]; exact hl.1) rfl dX8_init_1 (Nat.le_of_ble_eq_true rfl) (Nat.le_of_ble_eq_true rfl) ?_
  refine W.eq (g2 := F0 m 4 ls []) rfl ?_
  refine lv_aload_n hx hb dX8_init_4 rfl (lv_at hl 0 rfl) ?_
  refine lv_lconst (v := 0) hx hb dX8_init_5 rfl ?_
  refine va_put (D := D) (ci := 11) (v := .long 0) (ty := .long) (C := RX8) (T := TX8) (N := 2) hx hb hts iRX8 tyX8 tyX8_ok nmX8 hown hK hP hD hS 0 rfl rfl 0 (by decide) (hts _ q9) (fun _ h9 => h9) rfl (tyX8_ok 0 (by decide)) rfl rfl (Nat.le_of_ble_eq_true rfl) dX8_init_6 (fun H locs hP hD hS => ?_)
  have hP : va_P D vwCl [(h0, .inr (11, [.long 0, .long 0]))] H := hP
  have hD : va_D A [(h0, .inr (11, [.long 0, .long 0]))] := hD
  refine lv_aload_n hx hb dX8_init_9 rfl (lv_at hl 0 rfl) ?_
  refine lv_lconst (v := 0) hx hb dX8_init_10 rfl ?_
  refine va_put (D := D) (ci := 11) (v := .long 0) (ty := .long) (C := RX8) (T := TX8) (N := 2) hx hb hts iRX8 tyX8 tyX8_ok nmX8 hown hK hP hD hS 0 rfl rfl 1 (by decide) (hts _ q10) (fun _ h9 => h9) rfl (tyX8_ok 1 (by decide)) rfl rfl (Nat.le_of_ble_eq_true rfl) dX8_init_11 (fun H locs hP hD hS => ?_)
  have hP : va_P D vwCl [(h0, .inr (11, [.long 0, .long 0]))] H := hP
  have hD : va_D A [(h0, .inr (11, [.long 0, .long 0]))] := hD
  have hP9 := hP.sub (ws' := []) [] rfl
  have hD9 := hD.sub (ws' := []) [] (by decide) rfl
  refine W.widen (k := 0) (n := 0) (Nat.le_of_ble_eq_true rfl) (Nat.le_of_ble_eq_true rfl) ?_
  rw [hQe]
  exact W.vret hx hb hr (fun t ht hW => ⟨⟨(), rfl, trivial, ⟨by rw [ht]; exact hP9, hD9⟩⟩, hS.F ht⟩) hS.2.2 dX8_init_14
set_option maxHeartbeats 4000000 in
set_option maxRecDepth 100000 in
/-- Joins(): nothing told -/
theorem k_Joins_init (l : Launch) (D : va_G) (cy : Nat → ClassId) (h0 : Nat) (sz : Nat)  : Met l yX2_init (wz yX2_init cX2_init 1 none) ({ frames := 1, cells := 4, slots := 33, locals := 12 } : Room) (va_Pc [.ref h0] (zPre vwCl D cy [(h0, .inr (5, [.null, .null, .null, .null, .int 0]))] sz)) (va_Qv (fun _ : Nat → Nat => True) (fun (u : Nat → Nat) t => zPost vwCl D (va_A [(h0, .inr (5, [.null, .null, .null, .null, .int 0]))] sz) [(h0, .inr (5, [.ref (u 0), .ref (u 1), .ref (u 2), .ref (u 3), .int 0])), ((u 3), .inl (cy 0, 9, .inl (fun _ => 0)))] t) (va_A [(h0, .inr (5, [.null, .null, .null, .null, .int 0]))] sz)) 4 33 (va_A [(h0, .inr (5, [.null, .null, .null, .null, .int 0]))] sz) := by
  refine Met.ofW (cc := cX2_init) (maxL := 1) (ret := none) (by decide) rfl ?_
  intro p e s m args below meth c s₁ B hml hv
  obtain ⟨rfl, hsz, hP, hK, hD0, hX, hY⟩ := hv
  have hx := B.exec
  have hb := B.bytes
  have hr := B.returns
  have hts0 := atoms_spec (ws := wz yX2_init cX2_init 1 none) B.pre
  have hts : ∀ w ∈ wAll, w.before _ s = true := fun w h => hts0 w (List.mem_cons_of_mem _ h)
  have hown : s.vm.findClass RX2 = some m.cls := findClass_of_methodNamed B.named
  have hlocks := B.notSynchronized
  have hin : meth.name = "<init>" := (name_of_methodNamed B.named B.method).1
  subst hsz
  have hD := hD0.self (sz := s.heap.size)
  generalize hAe : va_A [(h0, .inr (5, [.null, .null, .null, .null, .int 0]))] s.heap.size = A at hD hY ⊢
  have hA : ∀ q : Nat, s.heap.size ≤ q → A q := fun q h => by rw [← hAe]; exact Or.inr h
  have hS : va_S A s.heap s.heap [] := va_S.rf
  have hP : va_P D vwCl [(h0, .inr (5, [.null, .null, .null, .null, .int 0]))] s.heap := hP
  have hl := lv_entry ([.ref h0]) (n := 1) (Nat.le_of_ble_eq_true rfl)
  rw [lg_entry_eq]
  generalize (lg_sl ([.ref h0]) ++ List.replicate (1 - (lg_sl ([.ref h0])).length) Slot.unset).toArray = ls at hl ⊢
  have hl : lv_has ls 1 [(0, .ref h0)] := hl
  refine z_anyQ (fun Q hQe => ?_)
  refine lv_aload_n hx hb dX2_init_0 rfl (lv_at hl 0 rfl) ?_
  refine W.objInit hx hb hown (hts _ q11) (hts _ q1) (hts _ q2) rfl (by rw [hml]; exact hl.1) rfl dX2_init_1 (Nat.le_of_ble_eq_true rfl) (Nat.le_of_ble_eq_true rfl) ?_
  refine W.eq (g2 := F0 m 4 ls []) rfl ?_
  refine lv_aload_n hx hb dX2_init_4 rfl (lv_at hl 0 rfl) ?_
  refine lv_bipush (v := 8) hx hb dX2_init_5 (by decide) ?_
  refine z_newa (atype := .int) hx hb (hts _ q4) rfl hK hP hD hS hA 0 rfl (a0 := (8, .inl (fun _ => 0))) (fun _ => rfl) (by decide) (by decide) (by decide) (Nat.le_of_ble_eq_true rfl) (Nat.le_of_ble_eq_true rfl) dX2_init_7 (fun n1 H hP hD hS => ?_)
  have hP : va_P D vwCl [(h0, .inr (5, [.null, .null, .null, .null, .int 0])), (n1, .inl (cy 0, 8, .inl (fun _ => 0)))] H := hP
  have hD : va_D A [(h0, .inr (5, [.null, .null, .null, .null, .int 0])), (n1, .inl (cy 0, 8, .inl (fun _ => 0)))] := hD
  refine W.widen (k := 1) (n := 8) (by omega) (by omega) ?_
  refine va_putF (D := D) (ci := 5) (v := .ref n1) (ty := (tyX2 0)) (C := RX2) (T := TX2) (N := 5) hx hb hts iRX2 tyX2 tyX2_ok nmX2 hown hK hP hD hS 0 rfl rfl 0 (by decide) (hts _ q12) (fun _ h9 => h9) rfl hin rfl (tyX2_ok 0 (by decide)) rfl rfl (Nat.le_of_ble_eq_true rfl) dX2_init_9 (fun H locs hP hD hS => ?_)
  have hP : va_P D vwCl [(h0, .inr (5, [.ref n1, .null, .null, .null, .int 0])), (n1, .inl (cy 0, 8, .inl (fun _ => 0)))] H := hP
  have hD : va_D A [(h0, .inr (5, [.ref n1, .null, .null, .null, .int 0])), (n1, .inl (cy 0, 8, .inl (fun _ => 0)))] := hD
  refine lv_aload_n hx hb dX2_init_12 rfl (lv_at hl 0 rfl) ?_
  refine lv_bipush (v := 8) hx hb dX2_init_13 (by decide) ?_
  refine z_newa (atype := .int) hx hb (hts _ q4) rfl hK hP hD hS hA 0 rfl (a0 := (8, .inl (fun _ => 0))) (fun _ => rfl) (by decide) (by decide) (by decide) (Nat.le_of_ble_eq_true rfl) (Nat.le_of_ble_eq_true rfl) dX2_init_15 (fun n2 H hP hD hS => ?_)
  have hP : va_P D vwCl [(h0, .inr (5, [.ref n1, .null, .null, .null, .int 0])), (n1, .inl (cy 0, 8, .inl (fun _ => 0))), (n2, .inl (cy 0, 8, .inl (fun _ => 0)))] H := hP
  have hD : va_D A [(h0, .inr (5, [.ref n1, .null, .null, .null, .int 0])), (n1, .inl (cy 0, 8, .inl (fun _ => 0))), (n2, .inl (cy 0, 8, .inl (fun _ => 0)))] := hD
  refine W.widen (k := 2) (n := 16) (by omega) (by omega) ?_
  refine va_putF (D := D) (ci := 5) (v := .ref n2) (ty := (tyX2 1)) (C := RX2) (T := TX2) (N := 5) hx hb hts iRX2 tyX2 tyX2_ok nmX2 hown hK hP hD hS 0 rfl rfl 1 (by decide) (hts _ q13) (fun _ h9 => h9) rfl hin rfl (tyX2_ok 1 (by decide)) rfl rfl (Nat.le_of_ble_eq_true rfl) dX2_init_17 (fun H locs hP hD hS => ?_)
  have hP : va_P D vwCl [(h0, .inr (5, [.ref n1, .ref n2, .null, .null, .int 0])), (n1, .inl (cy 0, 8, .inl (fun _ => 0))), (n2, .inl (cy 0, 8, .inl (fun _ => 0)))] H := hP
  have hD : va_D A [(h0, .inr (5, [.ref n1, .ref n2, .null, .null, .int 0])), (n1, .inl (cy 0, 8, .inl (fun _ => 0))), (n2, .inl (cy 0, 8, .inl (fun _ => 0)))] := hD
  refine lv_aload_n hx hb dX2_init_20 rfl (lv_at hl 0 rfl) ?_
  refine lv_bipush (v := 8) hx hb dX2_init_21 (by decide) ?_
  refine z_newa (atype := .int) hx hb (hts _ q4) rfl hK hP hD hS hA 0 rfl (a0 := (8, .inl (fun _ => 0))) (fun _ => rfl) (by decide) (by decide) (by decide) (Nat.le_of_ble_eq_true rfl) (Nat.le_of_ble_eq_true rfl) dX2_init_23 (fun n3 H hP hD hS => ?_)
  have hP : va_P D vwCl [(h0, .inr (5, [.ref n1, .ref n2, .null, .null, .int 0])), (n1, .inl (cy 0, 8, .inl (fun _ => 0))), (n2, .inl (cy 0, 8, .inl (fun _ => 0))), (n3, .inl (cy 0, 8, .inl (fun _ => 0)))] H := hP
  have hD : va_D A [(h0, .inr (5, [.ref n1, .ref n2, .null, .null, .int 0])), (n1, .inl (cy 0, 8, .inl (fun _ => 0))), (n2, .inl (cy 0, 8, .inl (fun _ => 0))), (n3, .inl (cy 0, 8, .inl (fun _ => 0)))] := hD
  refine W.widen (k := 3) (n := 24) (by omega) (by omega) ?_
  refine va_putF (D := D) (ci := 5) (v := .ref n3) (ty := (tyX2 2)) (C := RX2) (T := TX2) (N := 5) hx hb hts iRX2 tyX2 tyX2_ok nmX2 hown hK hP hD hS 0 rfl rfl 2 (by decide) (hts _ q14) (fun _ h9 => h9) rfl hin rfl (tyX2_ok 2 (by decide)) rfl rfl (Nat.le_of_ble_eq_true rfl) dX2_init_25 (fun H locs hP hD hS => ?_)
  have hP : va_P D vwCl [(h0, .inr (5, [.ref n1, .ref n2, .ref n3, .null, .int 0])), (n1, .inl (cy 0, 8, .inl (fun _ => 0))), (n2, .inl (cy 0, 8, .inl (fun _ => 0))), (n3, .inl (cy 0, 8, .inl (fun _ => 0)))] H := hP
  have hD : va_D A [(h0, .inr (5, [.ref n1, .ref n2, .ref n3, .null, .int 0])), (n1, .inl (cy 0, 8, .inl (fun _ => 0))), (n2, .inl (cy 0, 8, .inl (fun _ => 0))), (n3, .inl (cy 0, 8, .inl (fun _ => 0)))] := hD
  refine lv_aload_n hx hb dX2_init_28 rfl (lv_at hl 0 rfl) ?_
  refine lv_bipush (v := 9) hx hb dX2_init_29 (by decide) ?_
  refine z_newa (atype := .int) hx hb (hts _ q4) rfl hK hP hD hS hA 0 rfl (a0 := (9, .inl (fun _ => 0))) (fun _ => rfl) (by decide) (by decide) (by decide) (Nat.le_of_ble_eq_true rfl) (Nat.le_of_ble_eq_true rfl) dX2_init_31 (fun n4 H hP hD hS => ?_)
  have hP : va_P D vwCl [(h0, .inr (5, [.ref n1, .ref n2, .ref n3, .null, .int 0])), (n1, .inl (cy 0, 8, .inl (fun _ => 0))), (n2, .inl (cy 0, 8, .inl (fun _ => 0))), (n3, .inl (cy 0, 8, .inl (fun _ => 0))), (n4, .inl (cy 0, 9, .inl (fun _ => 0)))] H := hP
  have hD : va_D A [(h0, .inr (5, [.ref n1, .ref n2, .ref n3, .null, .int 0])), (n1, .inl (cy 0, 8, .inl (fun _ => 0))), (n2, .inl (cy 0, 8, .inl (fun _ => 0))), (n3, .inl (cy 0, 8, .inl (fun _ => 0))), (n4, .inl (cy 0, 9, .inl (fun _ => 0)))] := hD
  refine W.widen (k := 4) (n := 33) (by omega) (by omega) ?_
  refine va_putF (D := D) (ci := 5) (v := .ref n4) (ty := (tyX2 3)) (C := RX2) (T := TX2) (N := 5) hx hb hts iRX2 tyX2 tyX2_ok nmX2 hown hK hP hD hS 0 rfl rfl 3 (by decide) (hts _ q15) (fun _ h9 => h9) rfl hin rfl (tyX2_ok 3 (by decide)) rfl rfl (Nat.le_of_ble_eq_true rfl) dX2_init_33 (fun H locs hP hD hS => ?_)
  have hP : va_P D vwCl [(h0, .inr (5, [.ref n1, .ref n2, .ref n3, .ref n4, .int 0])), (n1, .inl (cy 0, 8, .inl (fun _ => 0))), (n2, .inl (cy 0, 8, .inl (fun _ => 0))), (n3, .inl (cy 0, 8, .inl (fun _ => 0))), (n4, .inl (cy 0, 9, .inl (fun _ => 0)))] H := hP
  have hD : va_D A [(h0, .inr (5, [.ref n1, .ref n2, .ref n3, .ref n4, .int 0])), (n1, .inl (cy 0, 8, .inl (fun _ => 0))), (n2, .inl (cy 0, 8, .inl (fun _ => 0))), (n3, .inl (cy 0, 8, .inl (fun _ => 0))), (n4, .inl (cy 0, 9, .inl (fun _ => 0)))] := hD
  have hP9 := hP.sub (ws' := [(h0, .inr (5, [.ref n1, .ref n2, .ref n3, .ref n4, .int 0])), (n4, .inl (cy 0, 9, .inl (fun _ => 0)))]) [0, 4] rfl
  have hD9 := hD.sub (ws' := [(h0, .inr (5, [.ref n1, .ref n2, .ref n3, .ref n4, .int 0])), (n4, .inl (cy 0, 9, .inl (fun _ => 0)))]) [0, 4] (by decide) rfl
  refine W.widen (k := 4) (n := 33) (Nat.le_of_ble_eq_true rfl) (Nat.le_of_ble_eq_true rfl) ?_
  rw [hQe]
  exact W.vret hx hb hr (fun t ht hW => ⟨⟨(fun k => [n1, n2, n3, n4].getD k 0), rfl, trivial, ⟨by rw [ht]; exact hP9, hD9⟩⟩, hS.F ht⟩) hS.2.2 dX2_init_36
set_option maxHeartbeats 4000000 in
set_option maxRecDepth 100000 in
/-- Floods(): no rain, no water -/
theorem k_Floods_init (l : Launch) (D : va_G) (cy : Nat → ClassId) (h0 : Nat) (sz : Nat)  : Met l yX1_init (wz yX1_init cX1_init 1 none) ({ frames := 1, cells := 2, slots := 601, locals := 12 } : Room) (va_Pc [.ref h0] (zPre vwCl D cy [(h0, .inr (4, [.null, .null]))] sz)) (va_Qv (fun _ : Nat → Nat => True) (fun (u : Nat → Nat) t => zPost vwCl D (va_A [(h0, .inr (4, [.null, .null]))] sz) [(h0, .inr (4, [.ref (u 0), .ref (u 1)])), ((u 0), .inl (cy 0, 200, .inl (fun _ => 0))), ((u 1), .inl (cy 0, 401, .inl (fun _ => 0)))] t) (va_A [(h0, .inr (4, [.null, .null]))] sz)) 2 601 (va_A [(h0, .inr (4, [.null, .null]))] sz) := by
  refine Met.ofW (cc := cX1_init) (maxL := 1) (ret := none) (by decide) rfl ?_
  intro p e s m args below meth c s₁ B hml hv
  obtain ⟨rfl, hsz, hP, hK, hD0, hX, hY⟩ := hv
  have hx := B.exec
  have hb := B.bytes
  have hr := B.returns
  have hts0 := atoms_spec (ws := wz yX1_init cX1_init 1 none) B.pre
  have hts : ∀ w ∈ wAll, w.before _ s = true := fun w h => hts0 w (List.mem_cons_of_mem _ h)
  have hown : s.vm.findClass RX1 = some m.cls := findClass_of_methodNamed B.named
  have hlocks := B.notSynchronized
  have hin : meth.name = "<init>" := (name_of_methodNamed B.named B.method).1
  subst hsz
  have hD := hD0.self (sz := s.heap.size)
  generalize hAe : va_A [(h0, .inr (4, [.null, .null]))] s.heap.size = A at hD hY ⊢
  have hA : ∀ q : Nat, s.heap.size ≤ q → A q := fun q h => by rw [← hAe]; exact Or.inr h
  have hS : va_S A s.heap s.heap [] := va_S.rf
  have hP : va_P D vwCl [(h0, .inr (4, [.null, .null]))] s.heap := hP
  have hl := lv_entry ([.ref h0]) (n := 1) (Nat.le_of_ble_eq_true rfl)
  rw [lg_entry_eq]
  generalize (lg_sl ([.ref h0]) ++ List.replicate (1 - (lg_sl ([.ref h0])).length) Slot.unset).toArray = ls at hl ⊢
  have hl : lv_has ls 1 [(0, .ref h0)] := hl
  refine z_anyQ (fun Q hQe => ?_)
  refine lv_aload_n hx hb dX1_init_0 rfl (lv_at hl 0 rfl) ?_
  refine W.objInit hx hb hown (hts _ q16) (hts _ q1) (hts _ q2) rfl (by rw [hml]; exact hl.1) rfl dX1_init_1 (Nat.le_of_ble_eq_true rfl) (Nat.le_of_ble_eq_true rfl) ?_
  refine W.eq (g2 := F0 m 4 ls []) rfl ?_
  refine lv_aload_n hx hb dX1_init_4 rfl (lv_at hl 0 rfl) ?_
  refine lv_sipush (v := 200) hx hb dX1_init_5 (by decide) ?_
  refine z_newa (atype := .int) hx hb (hts _ q4) rfl hK hP hD hS hA 0 rfl (a0 := (200, .inl (fun _ => 0))) (fun _ => rfl) (by decide) (by decide) (by decide) (Nat.le_of_ble_eq_true rfl) (Nat.le_of_ble_eq_true rfl) dX1_init_8 (fun n1 H hP hD hS => ?_)
  have hP : va_P D vwCl [(h0, .inr (4, [.null, .null])), (n1, .inl (cy 0, 200, .inl (fun _ => 0)))] H := hP
  have hD : va_D A [(h0, .inr (4, [.null, .null])), (n1, .inl (cy 0, 200, .inl (fun _ => 0)))] := hD
  refine W.widen (k := 1) (n := 200) (by omega) (by omega) ?_
  refine va_putF (D := D) (ci := 4) (v := .ref n1) (ty := (tyX1 0)) (C := RX1) (T := TX1) (N := 2) hx hb hts iRX1 tyX1 tyX1_ok nmX1 hown hK hP hD hS 0 rfl rfl 0 (by decide) (hts _ q17) (fun _ h9 => h9) rfl hin rfl (tyX1_ok 0 (by decide)) rfl rfl (Nat.le_of_ble_eq_true rfl) dX1_init_10 (fun H locs hP hD hS => ?_)
  have hP : va_P D vwCl [(h0, .inr (4, [.ref n1, .null])), (n1, .inl (cy 0, 200, .inl (fun _ => 0)))] H := hP
  have hD : va_D A [(h0, .inr (4, [.ref n1, .null])), (n1, .inl (cy 0, 200, .inl (fun _ => 0)))] := hD
  refine lv_aload_n hx hb dX1_init_13 rfl (lv_at hl 0 rfl) ?_
  refine lv_sipush (v := 401) hx hb dX1_init_14 (by decide) ?_
  refine z_newa (atype := .int) hx hb (hts _ q4) rfl hK hP hD hS hA 0 rfl (a0 := (401, .inl (fun _ => 0))) (fun _ => rfl) (by decide) (by decide) (by decide) (Nat.le_of_ble_eq_true rfl) (Nat.le_of_ble_eq_true rfl) dX1_init_17 (fun n2 H hP hD hS => ?_)
  have hP : va_P D vwCl [(h0, .inr (4, [.ref n1, .null])), (n1, .inl (cy 0, 200, .inl (fun _ => 0))), (n2, .inl (cy 0, 401, .inl (fun _ => 0)))] H := hP
  have hD : va_D A [(h0, .inr (4, [.ref n1, .null])), (n1, .inl (cy 0, 200, .inl (fun _ => 0))), (n2, .inl (cy 0, 401, .inl (fun _ => 0)))] := hD
  refine W.widen (k := 2) (n := 601) (by omega) (by omega) ?_
  refine va_putF (D := D) (ci := 4) (v := .ref n2) (ty := (tyX1 1)) (C := RX1) (T := TX1) (N := 2) hx hb hts iRX1 tyX1 tyX1_ok nmX1 hown hK hP hD hS 0 rfl rfl 1 (by decide) (hts _ q18) (fun _ h9 => h9) rfl hin rfl (tyX1_ok 1 (by decide)) rfl rfl (Nat.le_of_ble_eq_true rfl) dX1_init_19 (fun H locs hP hD hS => ?_)
  have hP : va_P D vwCl [(h0, .inr (4, [.ref n1, .ref n2])), (n1, .inl (cy 0, 200, .inl (fun _ => 0))), (n2, .inl (cy 0, 401, .inl (fun _ => 0)))] H := hP
  have hD : va_D A [(h0, .inr (4, [.ref n1, .ref n2])), (n1, .inl (cy 0, 200, .inl (fun _ => 0))), (n2, .inl (cy 0, 401, .inl (fun _ => 0)))] := hD
  have hP9 := hP.sub (ws' := [(h0, .inr (4, [.ref n1, .ref n2])), (n1, .inl (cy 0, 200, .inl (fun _ => 0))), (n2, .inl (cy 0, 401, .inl (fun _ => 0)))]) [0, 1, 2] rfl
  have hD9 := hD.sub (ws' := [(h0, .inr (4, [.ref n1, .ref n2])), (n1, .inl (cy 0, 200, .inl (fun _ => 0))), (n2, .inl (cy 0, 401, .inl (fun _ => 0)))]) [0, 1, 2] (by decide) rfl
  refine W.widen (k := 2) (n := 601) (Nat.le_of_ble_eq_true rfl) (Nat.le_of_ble_eq_true rfl) ?_
  rw [hQe]
  exact W.vret hx hb hr (fun t ht hW => ⟨⟨(fun k => [n1, n2].getD k 0), rfl, trivial, ⟨by rw [ht]; exact hP9, hD9⟩⟩, hS.F ht⟩) hS.2.2 dX1_init_22
set_option maxHeartbeats 4000000 in
set_option maxRecDepth 100000 in
/-- Streams() (not kept) -/
theorem k_Streams_init (l : Launch) (D : va_G) (cy : Nat → ClassId) (h0 : Nat) (sz : Nat)  : Met l yX7_init (wz yX7_init cX7_init 1 none) ({ frames := 1, cells := 15, slots := 7203, locals := 12 } : Room) (va_Pc [.ref h0] (zPre vwCl D cy [(h0, .inr (10, [.null, .null, .null, .null, .null, .int 0, .null, .int 0]))] sz)) (va_Qv (fun _ : Unit => True) (fun (u : Unit) t => zPost vwCl D (va_A [(h0, .inr (10, [.null, .null, .null, .null, .null, .int 0, .null, .int 0]))] sz) [] t) (va_A [(h0, .inr (10, [.null, .null, .null, .null, .null, .int 0, .null, .int 0]))] sz)) 15 7203 (va_A [(h0, .inr (10, [.null, .null, .null, .null, .null, .int 0, .null, .int 0]))] sz) := by
  refine Met.ofW (cc := cX7_init) (maxL := 1) (ret := none) (by decide) rfl ?_
  intro p e s m args below meth c s₁ B hml hv
  obtain ⟨rfl, hsz, hP, hK, hD0, hX, hY⟩ := hv
  have hx := B.exec
  have hb := B.bytes
  have hr := B.returns
  have hts0 := atoms_spec (ws := wz yX7_init cX7_init 1 none) B.pre
  have hts : ∀ w ∈ wAll, w.before _ s = true := fun w h => hts0 w (List.mem_cons_of_mem _ h)
  have hown : s.vm.findClass RX7 = some m.cls := findClass_of_methodNamed B.named
  have hlocks := B.notSynchronized
  have hin : meth.name = "<init>" := (name_of_methodNamed B.named B.method).1
  subst hsz
  have hD := hD0.self (sz := s.heap.size)
  generalize hAe : va_A [(h0, .inr (10, [.null, .null, .null, .null, .null, .int 0, .null, .int 0]))] s.heap.size = A at hD hY ⊢
  have hA : ∀ q : Nat, s.heap.size ≤ q → A q := fun q h => by rw [← hAe]; exact Or.inr h
  have hS : va_S A s.heap s.heap [] := va_S.rf
  have hP : va_P D vwCl [(h0, .inr (10, [.null, .null, .null, .null, .null, .int 0, .null, .int 0]))] s.heap := hP
  have hl := lv_entry ([.ref h0]) (n := 1) (Nat.le_of_ble_eq_true rfl)
  rw [lg_entry_eq]
  generalize (lg_sl ([.ref h0]) ++ List.replicate (1 - (lg_sl ([.ref h0])).length) Slot.unset).toArray = ls at hl ⊢
  have hl : lv_has ls 1 [(0, .ref h0)] := hl
  refine z_anyQ (fun Q hQe => ?_)
  refine lv_aload_n hx hb dX7_init_0 rfl (lv_at hl 0 rfl) ?_
  refine W.objInit hx hb hown (hts _ q19) (hts _ q1) (hts _ q2) rfl (by rw [hml]; exact hl.1) rfl dX7_init_1 (Nat.le_of_ble_eq_true rfl) (Nat.le_of_ble_eq_true rfl) ?_
  refine W.eq (g2 := F0 m 4 ls []) rfl ?_
  refine lv_aload_n hx hb dX7_init_4 rfl (lv_at hl 0 rfl) ?_
  refine lv_bipush (v := 12) hx hb dX7_init_5 (by decide) ?_
  refine z_newa (atype := .int) hx hb (hts _ q4) rfl hK hP hD hS hA 0 rfl (a0 := (12, .inl (fun _ => 0))) (fun _ => rfl) (by decide) (by decide) (by decide) (Nat.le_of_ble_eq_true rfl) (Nat.le_of_ble_eq_true rfl) dX7_init_7 (fun n1 H hP hD hS => ?_)
  have hP : va_P D vwCl [(h0, .inr (10, [.null, .null, .null, .null, .null, .int 0, .null, .int 0])), (n1, .inl (cy 0, 12, .inl (fun _ => 0)))] H := hP
  have hD : va_D A [(h0, .inr (10, [.null, .null, .null, .null, .null, .int 0, .null, .int 0])), (n1, .inl (cy 0, 12, .inl (fun _ => 0)))] := hD
  refine W.widen (k := 1) (n := 12) (by omega) (by omega) ?_
  refine va_putF (D := D) (ci := 10) (v := .ref n1) (ty := (tyX7 0)) (C := RX7) (T := TX7) (N := 8) hx hb hts iRX7 tyX7 tyX7_ok nmX7 hown hK hP hD hS 0 rfl rfl 0 (by decide) (hts _ q20) (fun _ h9 => h9) rfl hin rfl (tyX7_ok 0 (by decide)) rfl rfl (Nat.le_of_ble_eq_true rfl) dX7_init_9 (fun H locs hP hD hS => ?_)
  have hP : va_P D vwCl [(h0, .inr (10, [.ref n1, .null, .null, .null, .null, .int 0, .null, .int 0])), (n1, .inl (cy 0, 12, .inl (fun _ => 0)))] H := hP
  have hD : va_D A [(h0, .inr (10, [.ref n1, .null, .null, .null, .null, .int 0, .null, .int 0])), (n1, .inl (cy 0, 12, .inl (fun _ => 0)))] := hD
  refine lv_aload_n hx hb dX7_init_12 rfl (lv_at hl 0 rfl) ?_
  refine lv_bipush (v := 12) hx hb dX7_init_13 (by decide) ?_
  refine z_newa (atype := .int) hx hb (hts _ q4) rfl hK hP hD hS hA 0 rfl (a0 := (12, .inl (fun _ => 0))) (fun _ => rfl) (by decide) (by decide) (by decide) (Nat.le_of_ble_eq_true rfl) (Nat.le_of_ble_eq_true rfl) dX7_init_15 (fun n2 H hP hD hS => ?_)
  have hP : va_P D vwCl [(h0, .inr (10, [.ref n1, .null, .null, .null, .null, .int 0, .null, .int 0])), (n1, .inl (cy 0, 12, .inl (fun _ => 0))), (n2, .inl (cy 0, 12, .inl (fun _ => 0)))] H := hP
  have hD : va_D A [(h0, .inr (10, [.ref n1, .null, .null, .null, .null, .int 0, .null, .int 0])), (n1, .inl (cy 0, 12, .inl (fun _ => 0))), (n2, .inl (cy 0, 12, .inl (fun _ => 0)))] := hD
  refine W.widen (k := 2) (n := 24) (by omega) (by omega) ?_
  refine va_putF (D := D) (ci := 10) (v := .ref n2) (ty := (tyX7 1)) (C := RX7) (T := TX7) (N := 8) hx hb hts iRX7 tyX7 tyX7_ok nmX7 hown hK hP hD hS 0 rfl rfl 1 (by decide) (hts _ q21) (fun _ h9 => h9) rfl hin rfl (tyX7_ok 1 (by decide)) rfl rfl (Nat.le_of_ble_eq_true rfl) dX7_init_17 (fun H locs hP hD hS => ?_)
  have hP : va_P D vwCl [(h0, .inr (10, [.ref n1, .ref n2, .null, .null, .null, .int 0, .null, .int 0])), (n1, .inl (cy 0, 12, .inl (fun _ => 0))), (n2, .inl (cy 0, 12, .inl (fun _ => 0)))] H := hP
  have hD : va_D A [(h0, .inr (10, [.ref n1, .ref n2, .null, .null, .null, .int 0, .null, .int 0])), (n1, .inl (cy 0, 12, .inl (fun _ => 0))), (n2, .inl (cy 0, 12, .inl (fun _ => 0)))] := hD
  refine lv_aload_n hx hb dX7_init_20 rfl (lv_at hl 0 rfl) ?_
  refine lv_bipush (v := 12) hx hb dX7_init_21 (by decide) ?_
  refine z_newa (atype := .int) hx hb (hts _ q4) rfl hK hP hD hS hA 0 rfl (a0 := (12, .inl (fun _ => 0))) (fun _ => rfl) (by decide) (by decide) (by decide) (Nat.le_of_ble_eq_true rfl) (Nat.le_of_ble_eq_true rfl) dX7_init_23 (fun n3 H hP hD hS => ?_)
  have hP : va_P D vwCl [(h0, .inr (10, [.ref n1, .ref n2, .null, .null, .null, .int 0, .null, .int 0])), (n1, .inl (cy 0, 12, .inl (fun _ => 0))), (n2, .inl (cy 0, 12, .inl (fun _ => 0))), (n3, .inl (cy 0, 12, .inl (fun _ => 0)))] H := hP
  have hD : va_D A [(h0, .inr (10, [.ref n1, .ref n2, .null, .null, .null, .int 0, .null, .int 0])), (n1, .inl (cy 0, 12, .inl (fun _ => 0))), (n2, .inl (cy 0, 12, .inl (fun _ => 0))), (n3, .inl (cy 0, 12, .inl (fun _ => 0)))] := hD
  refine W.widen (k := 3) (n := 36) (by omega) (by omega) ?_
  refine va_putF (D := D) (ci := 10) (v := .ref n3) (ty := (tyX7 2)) (C := RX7) (T := TX7) (N := 8) hx hb hts iRX7 tyX7 tyX7_ok nmX7 hown hK hP hD hS 0 rfl rfl 2 (by decide) (hts _ q22) (fun _ h9 => h9) rfl hin rfl (tyX7_ok 2 (by decide)) rfl rfl (Nat.le_of_ble_eq_true rfl) dX7_init_25 (fun H locs hP hD hS => ?_)
  have hP : va_P D vwCl [(h0, .inr (10, [.ref n1, .ref n2, .ref n3, .null, .null, .int 0, .null, .int 0])), (n1, .inl (cy 0, 12, .inl (fun _ => 0))), (n2, .inl (cy 0, 12, .inl (fun _ => 0))), (n3, .inl (cy 0, 12, .inl (fun _ => 0)))] H := hP
  have hD : va_D A [(h0, .inr (10, [.ref n1, .ref n2, .ref n3, .null, .null, .int 0, .null, .int 0])), (n1, .inl (cy 0, 12, .inl (fun _ => 0))), (n2, .inl (cy 0, 12, .inl (fun _ => 0))), (n3, .inl (cy 0, 12, .inl (fun _ => 0)))] := hD
  refine lv_aload_n hx hb dX7_init_28 rfl (lv_at hl 0 rfl) ?_
  refine lv_bipush (v := 12) hx hb dX7_init_29 (by decide) ?_
  refine z_newa (atype := .int) hx hb (hts _ q4) rfl hK hP hD hS hA 0 rfl (a0 := (12, .inl (fun _ => 0))) (fun _ => rfl) (by decide) (by decide) (by decide) (Nat.le_of_ble_eq_true rfl) (Nat.le_of_ble_eq_true rfl) dX7_init_31 (fun n4 H hP hD hS => ?_)
  have hP : va_P D vwCl [(h0, .inr (10, [.ref n1, .ref n2, .ref n3, .null, .null, .int 0, .null, .int 0])), (n1, .inl (cy 0, 12, .inl (fun _ => 0))), (n2, .inl (cy 0, 12, .inl (fun _ => 0))), (n3, .inl (cy 0, 12, .inl (fun _ => 0))), (n4, .inl (cy 0, 12, .inl (fun _ => 0)))] H := hP
  have hD : va_D A [(h0, .inr (10, [.ref n1, .ref n2, .ref n3, .null, .null, .int 0, .null, .int 0])), (n1, .inl (cy 0, 12, .inl (fun _ => 0))), (n2, .inl (cy 0, 12, .inl (fun _ => 0))), (n3, .inl (cy 0, 12, .inl (fun _ => 0))), (n4, .inl (cy 0, 12, .inl (fun _ => 0)))] := hD
  refine W.widen (k := 4) (n := 48) (by omega) (by omega) ?_
  refine va_putF (D := D) (ci := 10) (v := .ref n4) (ty := (tyX7 3)) (C := RX7) (T := TX7) (N := 8) hx hb hts iRX7 tyX7 tyX7_ok nmX7 hown hK hP hD hS 0 rfl rfl 3 (by decide) (hts _ q23) (fun _ h9 => h9) rfl hin rfl (tyX7_ok 3 (by decide)) rfl rfl (Nat.le_of_ble_eq_true rfl) dX7_init_33 (fun H locs hP hD hS => ?_)
  have hP : va_P D vwCl [(h0, .inr (10, [.ref n1, .ref n2, .ref n3, .ref n4, .null, .int 0, .null, .int 0])), (n1, .inl (cy 0, 12, .inl (fun _ => 0))), (n2, .inl (cy 0, 12, .inl (fun _ => 0))), (n3, .inl (cy 0, 12, .inl (fun _ => 0))), (n4, .inl (cy 0, 12, .inl (fun _ => 0)))] H := hP
  have hD : va_D A [(h0, .inr (10, [.ref n1, .ref n2, .ref n3, .ref n4, .null, .int 0, .null, .int 0])), (n1, .inl (cy 0, 12, .inl (fun _ => 0))), (n2, .inl (cy 0, 12, .inl (fun _ => 0))), (n3, .inl (cy 0, 12, .inl (fun _ => 0))), (n4, .inl (cy 0, 12, .inl (fun _ => 0)))] := hD
  refine lv_aload_n hx hb dX7_init_36 rfl (lv_at hl 0 rfl) ?_
  refine lv_bipush (v := 9) hx hb dX7_init_37 (by decide) ?_
  refine lv_sipush (v := 793) hx hb dX7_init_39 (by decide) ?_
  refine z_mna (N' := 9) (K' := 793) (X := [(h0, .inr (10, [.ref n1, .ref n2, .ref n3, .ref n4, .null, .int 0, .null, .int 0])), (n1, .inl (cy 0, 12, .inl (fun _ => 0))), (n2, .inl (cy 0, 12, .inl (fun _ => 0))), (n3, .inl (cy 0, 12, .inl (fun _ => 0))), (n4, .inl (cy 0, 12, .inl (fun _ => 0)))]) (z := (793, .inl (fun _ => 0))) (cy := cy 0) (c0 := cy 4) hx hb hown (hts _ q24) (zAA.use hX.2.2.2.2.2.1) (hts _ q4) hK 0 4 rfl rfl hP hD hS hA (by decide) (by decide) (by decide) (by decide) (by decide) (by decide) (by decide) rfl rfl (Nat.le_of_ble_eq_true rfl) (Nat.le_of_ble_eq_true rfl) (fun _ => z_innerI _ _) dX7_init_42 (fun n5 r6 H hP hD hS => ?_)
  have hP : va_P D vwCl [(h0, .inr (10, [.ref n1, .ref n2, .ref n3, .ref n4, .null, .int 0, .null, .int 0])), (n1, .inl (cy 0, 12, .inl (fun _ => 0))), (n2, .inl (cy 0, 12, .inl (fun _ => 0))), (n3, .inl (cy 0, 12, .inl (fun _ => 0))), (n4, .inl (cy 0, 12, .inl (fun _ => 0))), (n5, .inl (cy 4, 9, .inr (.inr (.inr (.inr (fun k9 => if k9 < 9 then some (r6 k9) else none)))))), ((r6 0), .inl (cy 0, 793, .inl (fun _ => 0))), ((r6 1), .inl (cy 0, 793, .inl (fun _ => 0))), ((r6 2), .inl (cy 0, 793, .inl (fun _ => 0))), ((r6 3), .inl (cy 0, 793, .inl (fun _ => 0))), ((r6 4), .inl (cy 0, 793, .inl (fun _ => 0))), ((r6 5), .inl (cy 0, 793, .inl (fun _ => 0))), ((r6 6), .inl (cy 0, 793, .inl (fun _ => 0))), ((r6 7), .inl (cy 0, 793, .inl (fun _ => 0))), ((r6 8), .inl (cy 0, 793, .inl (fun _ => 0)))] H := hP
  have hD : va_D A [(h0, .inr (10, [.ref n1, .ref n2, .ref n3, .ref n4, .null, .int 0, .null, .int 0])), (n1, .inl (cy 0, 12, .inl (fun _ => 0))), (n2, .inl (cy 0, 12, .inl (fun _ => 0))), (n3, .inl (cy 0, 12, .inl (fun _ => 0))), (n4, .inl (cy 0, 12, .inl (fun _ => 0))), (n5, .inl (cy 4, 9, .inr (.inr (.inr (.inr (fun k9 => if k9 < 9 then some (r6 k9) else none)))))), ((r6 0), .inl (cy 0, 793, .inl (fun _ => 0))), ((r6 1), .inl (cy 0, 793, .inl (fun _ => 0))), ((r6 2), .inl (cy 0, 793, .inl (fun _ => 0))), ((r6 3), .inl (cy 0, 793, .inl (fun _ => 0))), ((r6 4), .inl (cy 0, 793, .inl (fun _ => 0))), ((r6 5), .inl (cy 0, 793, .inl (fun _ => 0))), ((r6 6), .inl (cy 0, 793, .inl (fun _ => 0))), ((r6 7), .inl (cy 0, 793, .inl (fun _ => 0))), ((r6 8), .inl (cy 0, 793, .inl (fun _ => 0)))] := hD
  refine W.widen (k := 14) (n := 7194) (by omega) (by omega) ?_
  refine va_putF (D := D) (ci := 10) (v := .ref n5) (ty := (tyX7 4)) (C := RX7) (T := TX7) (N := 8) hx hb hts iRX7 tyX7 tyX7_ok nmX7 hown hK hP hD hS 0 rfl rfl 4 (by decide) (hts _ q25) (fun _ h9 => h9) rfl hin rfl (tyX7_ok 4 (by decide)) rfl rfl (Nat.le_of_ble_eq_true rfl) dX7_init_46 (fun H locs hP hD hS => ?_)
  have hP : va_P D vwCl [(h0, .inr (10, [.ref n1, .ref n2, .ref n3, .ref n4, .ref n5, .int 0, .null, .int 0])), (n1, .inl (cy 0, 12, .inl (fun _ => 0))), (n2, .inl (cy 0, 12, .inl (fun _ => 0))), (n3, .inl (cy 0, 12, .inl (fun _ => 0))), (n4, .inl (cy 0, 12, .inl (fun _ => 0))), (n5, .inl (cy 4, 9, .inr (.inr (.inr (.inr (fun k9 => if k9 < 9 then some (r6 k9) else none)))))), ((r6 0), .inl (cy 0, 793, .inl (fun _ => 0))), ((r6 1), .inl (cy 0, 793, .inl (fun _ => 0))), ((r6 2), .inl (cy 0, 793, .inl (fun _ => 0))), ((r6 3), .inl (cy 0, 793, .inl (fun _ => 0))), ((r6 4), .inl (cy 0, 793, .inl (fun _ => 0))), ((r6 5), .inl (cy 0, 793, .inl (fun _ => 0))), ((r6 6), .inl (cy 0, 793, .inl (fun _ => 0))), ((r6 7), .inl (cy 0, 793, .inl (fun _ => 0))), ((r6 8), .inl (cy 0, 793, .inl (fun _ => 0)))] H := hP
  have hD : va_D A [(h0, .inr (10, [.ref n1, .ref n2, .ref n3, .ref n4, .ref n5, .int 0, .null, .int 0])), (n1, .inl (cy 0, 12, .inl (fun _ => 0))), (n2, .inl (cy 0, 12, .inl (fun _ => 0))), (n3, .inl (cy 0, 12, .inl (fun _ => 0))), (n4, .inl (cy 0, 12, .inl (fun _ => 0))), (n5, .inl (cy 4, 9, .inr (.inr (.inr (.inr (fun k9 => if k9 < 9 then some (r6 k9) else none)))))), ((r6 0), .inl (cy 0, 793, .inl (fun _ => 0))), ((r6 1), .inl (cy 0, 793, .inl (fun _ => 0))), ((r6 2), .inl (cy 0, 793, .inl (fun _ => 0))), ((r6 3), .inl (cy 0, 793, .inl (fun _ => 0))), ((r6 4), .inl (cy 0, 793, .inl (fun _ => 0))), ((r6 5), .inl (cy 0, 793, .inl (fun _ => 0))), ((r6 6), .inl (cy 0, 793, .inl (fun _ => 0))), ((r6 7), .inl (cy 0, 793, .inl (fun _ => 0))), ((r6 8), .inl (cy 0, 793, .inl (fun _ => 0)))] := hD
  refine lv_aload_n hx hb dX7_init_49 rfl (lv_at hl 0 rfl) ?_
  refine lv_bipush (v := 9) hx hb dX7_init_50 (by decide) ?_
  refine z_newa (atype := .int) hx hb (hts _ q4) rfl hK hP hD hS hA 0 rfl (a0 := (9, .inl (fun _ => 0))) (fun _ => rfl) (by decide) (by decide) (by decide) (Nat.le_of_ble_eq_true rfl) (Nat.le_of_ble_eq_true rfl) dX7_init_52 (fun n7 H hP hD hS => ?_)
  have hP : va_P D vwCl [(h0, .inr (10, [.ref n1, .ref n2, .ref n3, .ref n4, .ref n5, .int 0, .null, .int 0])), (n1, .inl (cy 0, 12, .inl (fun _ => 0))), (n2, .inl (cy 0, 12, .inl (fun _ => 0))), (n3, .inl (cy 0, 12, .inl (fun _ => 0))), (n4, .inl (cy 0, 12, .inl (fun _ => 0))), (n5, .inl (cy 4, 9, .inr (.inr (.inr (.inr (fun k9 => if k9 < 9 then some (r6 k9) else none)))))), ((r6 0), .inl (cy 0, 793, .inl (fun _ => 0))), ((r6 1), .inl (cy 0, 793, .inl (fun _ => 0))), ((r6 2), .inl (cy 0, 793, .inl (fun _ => 0))), ((r6 3), .inl (cy 0, 793, .inl (fun _ => 0))), ((r6 4), .inl (cy 0, 793, .inl (fun _ => 0))), ((r6 5), .inl (cy 0, 793, .inl (fun _ => 0))), ((r6 6), .inl (cy 0, 793, .inl (fun _ => 0))), ((r6 7), .inl (cy 0, 793, .inl (fun _ => 0))), ((r6 8), .inl (cy 0, 793, .inl (fun _ => 0))), (n7, .inl (cy 0, 9, .inl (fun _ => 0)))] H := hP
  have hD : va_D A [(h0, .inr (10, [.ref n1, .ref n2, .ref n3, .ref n4, .ref n5, .int 0, .null, .int 0])), (n1, .inl (cy 0, 12, .inl (fun _ => 0))), (n2, .inl (cy 0, 12, .inl (fun _ => 0))), (n3, .inl (cy 0, 12, .inl (fun _ => 0))), (n4, .inl (cy 0, 12, .inl (fun _ => 0))), (n5, .inl (cy 4, 9, .inr (.inr (.inr (.inr (fun k9 => if k9 < 9 then some (r6 k9) else none)))))), ((r6 0), .inl (cy 0, 793, .inl (fun _ => 0))), ((r6 1), .inl (cy 0, 793, .inl (fun _ => 0))), ((r6 2), .inl (cy 0, 793, .inl (fun _ => 0))), ((r6 3), .inl (cy 0, 793, .inl (fun _ => 0))), ((r6 4), .inl (cy 0, 793, .inl (fun _ => 0))), ((r6 5), .inl (cy 0, 793, .inl (fun _ => 0))), ((r6 6), .inl (cy 0, 793, .inl (fun _ => 0))), ((r6 7), .inl (cy 0, 793, .inl (fun _ => 0))), ((r6 8), .inl (cy 0, 793, .inl (fun _ => 0))), (n7, .inl (cy 0, 9, .inl (fun _ => 0)))] := hD
  refine W.widen (k := 15) (n := 7203) (by omega) (by omega) ?_
  refine va_putF (D := D) (ci := 10) (v := .ref n7) (ty := (tyX7 6)) (C := RX7) (T := TX7) (N := 8) hx hb hts iRX7 tyX7 tyX7_ok nmX7 hown hK hP hD hS 0 rfl rfl 6 (by decide) (hts _ q26) (fun _ h9 => h9) rfl hin rfl (tyX7_ok 6 (by decide)) rfl rfl (Nat.le_of_ble_eq_true rfl) dX7_init_54 (fun H locs hP hD hS => ?_)
  have hP : va_P D vwCl [(h0, .inr (10, [.ref n1, .ref n2, .ref n3, .ref n4, .ref n5, .int 0, .ref n7, .int 0])), (n1, .inl (cy 0, 12, .inl (fun _ => 0))), (n2, .inl (cy 0, 12, .inl (fun _ => 0))), (n3, .inl (cy 0, 12, .inl (fun _ => 0))), (n4, .inl (cy 0, 12, .inl (fun _ => 0))), (n5, .inl (cy 4, 9, .inr (.inr (.inr (.inr (fun k9 => if k9 < 9 then some (r6 k9) else none)))))), ((r6 0), .inl (cy 0, 793, .inl (fun _ => 0))), ((r6 1), .inl (cy 0, 793, .inl (fun _ => 0))), ((r6 2), .inl (cy 0, 793, .inl (fun _ => 0))), ((r6 3), .inl (cy 0, 793, .inl (fun _ => 0))), ((r6 4), .inl (cy 0, 793, .inl (fun _ => 0))), ((r6 5), .inl (cy 0, 793, .inl (fun _ => 0))), ((r6 6), .inl (cy 0, 793, .inl (fun _ => 0))), ((r6 7), .inl (cy 0, 793, .inl (fun _ => 0))), ((r6 8), .inl (cy 0, 793, .inl (fun _ => 0))), (n7, .inl (cy 0, 9, .inl (fun _ => 0)))] H := hP
  have hD : va_D A [(h0, .inr (10, [.ref n1, .ref n2, .ref n3, .ref n4, .ref n5, .int 0, .ref n7, .int 0])), (n1, .inl (cy 0, 12, .inl (fun _ => 0))), (n2, .inl (cy 0, 12, .inl (fun _ => 0))), (n3, .inl (cy 0, 12, .inl (fun _ => 0))), (n4, .inl (cy 0, 12, .inl (fun _ => 0))), (n5, .inl (cy 4, 9, .inr (.inr (.inr (.inr (fun k9 => if k9 < 9 then some (r6 k9) else none)))))), ((r6 0), .inl (cy 0, 793, .inl (fun _ => 0))), ((r6 1), .inl (cy 0, 793, .inl (fun _ => 0))), ((r6 2), .inl (cy 0, 793, .inl (fun _ => 0))), ((r6 3), .inl (cy 0, 793, .inl (fun _ => 0))), ((r6 4), .inl (cy 0, 793, .inl (fun _ => 0))), ((r6 5), .inl (cy 0, 793, .inl (fun _ => 0))), ((r6 6), .inl (cy 0, 793, .inl (fun _ => 0))), ((r6 7), .inl (cy 0, 793, .inl (fun _ => 0))), ((r6 8), .inl (cy 0, 793, .inl (fun _ => 0))), (n7, .inl (cy 0, 9, .inl (fun _ => 0)))] := hD
  have hP9 := hP.sub (ws' := []) [] rfl
  have hD9 := hD.sub (ws' := []) [] (by decide) rfl
  refine W.widen (k := 15) (n := 7203) (Nat.le_of_ble_eq_true rfl) (Nat.le_of_ble_eq_true rfl) ?_
  rw [hQe]
  exact W.vret hx hb hr (fun t ht hW => ⟨⟨(), rfl, trivial, ⟨by rw [ht]; exact hP9, hD9⟩⟩, hS.F ht⟩) hS.2.2 dX7_init_57
set_option maxHeartbeats 4000000 in
set_option maxRecDepth 100000 in
/-- Planner(cave, floods) (not kept) -/
theorem k_Planner_init (l : Launch) (D : va_G) (cy : Nat → ClassId) (h0 : Nat) (p1 : Nat) (p2 : Nat) (sz : Nat)  : Met l yX5_init (wz yX5_init cX5_init 3 none) ({ frames := 1, cells := 53, slots := 560, locals := 12 } : Room) (va_Pc [.ref h0, .ref p1, .ref p2] (zPre vwCl D cy [(h0, .inr (8, [.null, .null, .null, .int 0, .null, .int 0]))] sz)) (va_Qv (fun _ : Unit => True) (fun (u : Unit) t => zPost vwCl D (va_A [(h0, .inr (8, [.null, .null, .null, .int 0, .null, .int 0]))] sz) [] t) (va_A [(h0, .inr (8, [.null, .null, .null, .int 0, .null, .int 0]))] sz)) 53 560 (va_A [(h0, .inr (8, [.null, .null, .null, .int 0, .null, .int 0]))] sz) := by
  refine Met.ofW (cc := cX5_init) (maxL := 3) (ret := none) (by decide) rfl ?_
  intro p e s m args below meth c s₁ B hml hv
  obtain ⟨rfl, hsz, hP, hK, hD0, hX, hY⟩ := hv
  have hx := B.exec
  have hb := B.bytes
  have hr := B.returns
  have hts0 := atoms_spec (ws := wz yX5_init cX5_init 3 none) B.pre
  have hts : ∀ w ∈ wAll, w.before _ s = true := fun w h => hts0 w (List.mem_cons_of_mem _ h)
  have hown : s.vm.findClass RX5 = some m.cls := findClass_of_methodNamed B.named
  have hlocks := B.notSynchronized
  have hin : meth.name = "<init>" := (name_of_methodNamed B.named B.method).1
  subst hsz
  have hD := hD0.self (sz := s.heap.size)
  generalize hAe : va_A [(h0, .inr (8, [.null, .null, .null, .int 0, .null, .int 0]))] s.heap.size = A at hD hY ⊢
  have hA : ∀ q : Nat, s.heap.size ≤ q → A q := fun q h => by rw [← hAe]; exact Or.inr h
  have hS : va_S A s.heap s.heap [] := va_S.rf
  have hP : va_P D vwCl [(h0, .inr (8, [.null, .null, .null, .int 0, .null, .int 0]))] s.heap := hP
  have hl := lv_entry ([.ref h0, .ref p1, .ref p2]) (n := 3) (Nat.le_of_ble_eq_true rfl)
  rw [lg_entry_eq]
  generalize (lg_sl ([.ref h0, .ref p1, .ref p2]) ++ List.replicate (3 - (lg_sl ([.ref h0, .ref p1, .ref p2])).length) Slot.unset).toArray = ls at hl ⊢
  have hl : lv_has ls 3 [(0, .ref h0), (1, .ref p1), (2, .ref p2)] := hl
  refine z_anyQ (fun Q hQe => ?_)
  refine lv_aload_n hx hb dX5_init_0 rfl (lv_at hl 0 rfl) ?_
  refine W.objInit hx hb hown (hts _ q27) (hts _ q1) (hts _ q2) rfl (by rw [hml]; exact hl.1) rfl dX5_init_1 (Nat.le_of_ble_eq_true rfl) (Nat.le_of_ble_eq_true rfl) ?_
  refine W.eq (g2 := F0 m 4 ls []) rfl ?_
  refine lv_aload_n hx hb dX5_init_4 rfl (lv_at hl 0 rfl) ?_
  refine lv_aload_n hx hb dX5_init_5 rfl (lv_at hl 1 rfl) ?_
  refine va_putF (D := D) (ci := 8) (v := .ref p1) (ty := (tyX5 0)) (C := RX5) (T := TX5) (N := 6) hx hb hts iRX5 tyX5 tyX5_ok nmX5 hown hK hP hD hS 0 rfl rfl 0 (by decide) (hts _ q28) (fun _ h9 => h9) rfl hin rfl (tyX5_ok 0 (by decide)) rfl rfl (Nat.le_of_ble_eq_true rfl) dX5_init_6 (fun H locs hP hD hS => ?_)
  have hP : va_P D vwCl [(h0, .inr (8, [.ref p1, .null, .null, .int 0, .null, .int 0]))] H := hP
  have hD : va_D A [(h0, .inr (8, [.ref p1, .null, .null, .int 0, .null, .int 0]))] := hD
  refine lv_aload_n hx hb dX5_init_9 rfl (lv_at hl 0 rfl) ?_
  refine lv_aload_n hx hb dX5_init_10 rfl (lv_at hl 2 rfl) ?_
  refine va_putF (D := D) (ci := 8) (v := .ref p2) (ty := (tyX5 1)) (C := RX5) (T := TX5) (N := 6) hx hb hts iRX5 tyX5 tyX5_ok nmX5 hown hK hP hD hS 0 rfl rfl 1 (by decide) (hts _ q29) (fun _ h9 => h9) rfl hin rfl (tyX5_ok 1 (by decide)) rfl rfl (Nat.le_of_ble_eq_true rfl) dX5_init_11 (fun H locs hP hD hS => ?_)
  have hP : va_P D vwCl [(h0, .inr (8, [.ref p1, .ref p2, .null, .int 0, .null, .int 0]))] H := hP
  have hD : va_D A [(h0, .inr (8, [.ref p1, .ref p2, .null, .int 0, .null, .int 0]))] := hD
  refine lv_aload_n hx hb dX5_init_14 rfl (lv_at hl 0 rfl) ?_
  refine lv_bipush (v := 51) hx hb dX5_init_15 (by decide) ?_
  refine lv_bipush (v := 9) hx hb dX5_init_17 (by decide) ?_
  refine z_mna (N' := 51) (K' := 9) (X := [(h0, .inr (8, [.ref p1, .ref p2, .null, .int 0, .null, .int 0]))]) (z := (9, .inl (fun _ => 0))) (cy := cy 0) (c0 := cy 4) hx hb hown (hts _ q30) (zAA.use hX.2.2.2.2.2.1) (hts _ q4) hK 0 4 rfl rfl hP hD hS hA (by decide) (by decide) (by decide) (by decide) (by decide) (by decide) (by decide) rfl rfl (Nat.le_of_ble_eq_true rfl) (Nat.le_of_ble_eq_true rfl) (fun _ => z_innerI _ _) dX5_init_19 (fun n1 r2 H hP hD hS => ?_)
  have hP : va_P D vwCl ((h0, .inr (8, [.ref p1, .ref p2, .null, .int 0, .null, .int 0])) :: (n1, .inl (cy 4, 51, .inr (.inr (.inr (.inr (fun k9 => if k9 < 51 then some (r2 k9) else none)))))) :: ((r2 0), .inl (cy 0, 9, .inl (fun _ => 0))) :: ((r2 1), .inl (cy 0, 9, .inl (fun _ => 0))) :: ((r2 2), .inl (cy 0, 9, .inl (fun _ => 0))) :: ((r2 3), .inl (cy 0, 9, .inl (fun _ => 0))) :: ((r2 4), .inl (cy 0, 9, .inl (fun _ => 0))) :: ((r2 5), .inl (cy 0, 9, .inl (fun _ => 0))) :: ((r2 6), .inl (cy 0, 9, .inl (fun _ => 0))) :: ((r2 7), .inl (cy 0, 9, .inl (fun _ => 0))) :: ((r2 8), .inl (cy 0, 9, .inl (fun _ => 0))) :: ((r2 9), .inl (cy 0, 9, .inl (fun _ => 0))) :: ((r2 10), .inl (cy 0, 9, .inl (fun _ => 0))) :: ((r2 11), .inl (cy 0, 9, .inl (fun _ => 0))) :: ((r2 12), .inl (cy 0, 9, .inl (fun _ => 0))) :: ((r2 13), .inl (cy 0, 9, .inl (fun _ => 0))) :: ((r2 14), .inl (cy 0, 9, .inl (fun _ => 0))) :: ((r2 15), .inl (cy 0, 9, .inl (fun _ => 0))) :: ((r2 16), .inl (cy 0, 9, .inl (fun _ => 0))) :: ((r2 17), .inl (cy 0, 9, .inl (fun _ => 0))) :: ((r2 18), .inl (cy 0, 9, .inl (fun _ => 0))) :: ((r2 19), .inl (cy 0, 9, .inl (fun _ => 0))) :: ((r2 20), .inl (cy 0, 9, .inl (fun _ => 0))) :: ((r2 21), .inl (cy 0, 9, .inl (fun _ => 0))) :: ((r2 22), .inl (cy 0, 9, .inl (fun _ => 0))) :: ((r2 23), .inl (cy 0, 9, .inl (fun _ => 0))) :: ((r2 24), .inl (cy 0, 9, .inl (fun _ => 0))) :: ((r2 25), .inl (cy 0, 9, .inl (fun _ => 0))) :: ((r2 26), .inl (cy 0, 9, .inl (fun _ => 0))) :: ((r2 27), .inl (cy 0, 9, .inl (fun _ => 0))) :: ((r2 28), .inl (cy 0, 9, .inl (fun _ => 0))) :: ((r2 29), .inl (cy 0, 9, .inl (fun _ => 0))) :: ((r2 30), .inl (cy 0, 9, .inl (fun _ => 0))) :: ((r2 31), .inl (cy 0, 9, .inl (fun _ => 0))) :: ((r2 32), .inl (cy 0, 9, .inl (fun _ => 0))) :: ((r2 33), .inl (cy 0, 9, .inl (fun _ => 0))) :: ((r2 34), .inl (cy 0, 9, .inl (fun _ => 0))) :: ((r2 35), .inl (cy 0, 9, .inl (fun _ => 0))) :: ((r2 36), .inl (cy 0, 9, .inl (fun _ => 0))) :: ((r2 37), .inl (cy 0, 9, .inl (fun _ => 0))) :: ((r2 38), .inl (cy 0, 9, .inl (fun _ => 0))) :: ((r2 39), .inl (cy 0, 9, .inl (fun _ => 0))) :: ((r2 40), .inl (cy 0, 9, .inl (fun _ => 0))) :: ((r2 41), .inl (cy 0, 9, .inl (fun _ => 0))) :: ((r2 42), .inl (cy 0, 9, .inl (fun _ => 0))) :: ((r2 43), .inl (cy 0, 9, .inl (fun _ => 0))) :: ((r2 44), .inl (cy 0, 9, .inl (fun _ => 0))) :: ((r2 45), .inl (cy 0, 9, .inl (fun _ => 0))) :: ((r2 46), .inl (cy 0, 9, .inl (fun _ => 0))) :: ((r2 47), .inl (cy 0, 9, .inl (fun _ => 0))) :: ((r2 48), .inl (cy 0, 9, .inl (fun _ => 0))) :: ((r2 49), .inl (cy 0, 9, .inl (fun _ => 0))) :: ((r2 50), .inl (cy 0, 9, .inl (fun _ => 0))) :: []) H := hP
  have hD : va_D A ((h0, .inr (8, [.ref p1, .ref p2, .null, .int 0, .null, .int 0])) :: (n1, .inl (cy 4, 51, .inr (.inr (.inr (.inr (fun k9 => if k9 < 51 then some (r2 k9) else none)))))) :: ((r2 0), .inl (cy 0, 9, .inl (fun _ => 0))) :: ((r2 1), .inl (cy 0, 9, .inl (fun _ => 0))) :: ((r2 2), .inl (cy 0, 9, .inl (fun _ => 0))) :: ((r2 3), .inl (cy 0, 9, .inl (fun _ => 0))) :: ((r2 4), .inl (cy 0, 9, .inl (fun _ => 0))) :: ((r2 5), .inl (cy 0, 9, .inl (fun _ => 0))) :: ((r2 6), .inl (cy 0, 9, .inl (fun _ => 0))) :: ((r2 7), .inl (cy 0, 9, .inl (fun _ => 0))) :: ((r2 8), .inl (cy 0, 9, .inl (fun _ => 0))) :: ((r2 9), .inl (cy 0, 9, .inl (fun _ => 0))) :: ((r2 10), .inl (cy 0, 9, .inl (fun _ => 0))) :: ((r2 11), .inl (cy 0, 9, .inl (fun _ => 0))) :: ((r2 12), .inl (cy 0, 9, .inl (fun _ => 0))) :: ((r2 13), .inl (cy 0, 9, .inl (fun _ => 0))) :: ((r2 14), .inl (cy 0, 9, .inl (fun _ => 0))) :: ((r2 15), .inl (cy 0, 9, .inl (fun _ => 0))) :: ((r2 16), .inl (cy 0, 9, .inl (fun _ => 0))) :: ((r2 17), .inl (cy 0, 9, .inl (fun _ => 0))) :: ((r2 18), .inl (cy 0, 9, .inl (fun _ => 0))) :: ((r2 19), .inl (cy 0, 9, .inl (fun _ => 0))) :: ((r2 20), .inl (cy 0, 9, .inl (fun _ => 0))) :: ((r2 21), .inl (cy 0, 9, .inl (fun _ => 0))) :: ((r2 22), .inl (cy 0, 9, .inl (fun _ => 0))) :: ((r2 23), .inl (cy 0, 9, .inl (fun _ => 0))) :: ((r2 24), .inl (cy 0, 9, .inl (fun _ => 0))) :: ((r2 25), .inl (cy 0, 9, .inl (fun _ => 0))) :: ((r2 26), .inl (cy 0, 9, .inl (fun _ => 0))) :: ((r2 27), .inl (cy 0, 9, .inl (fun _ => 0))) :: ((r2 28), .inl (cy 0, 9, .inl (fun _ => 0))) :: ((r2 29), .inl (cy 0, 9, .inl (fun _ => 0))) :: ((r2 30), .inl (cy 0, 9, .inl (fun _ => 0))) :: ((r2 31), .inl (cy 0, 9, .inl (fun _ => 0))) :: ((r2 32), .inl (cy 0, 9, .inl (fun _ => 0))) :: ((r2 33), .inl (cy 0, 9, .inl (fun _ => 0))) :: ((r2 34), .inl (cy 0, 9, .inl (fun _ => 0))) :: ((r2 35), .inl (cy 0, 9, .inl (fun _ => 0))) :: ((r2 36), .inl (cy 0, 9, .inl (fun _ => 0))) :: ((r2 37), .inl (cy 0, 9, .inl (fun _ => 0))) :: ((r2 38), .inl (cy 0, 9, .inl (fun _ => 0))) :: ((r2 39), .inl (cy 0, 9, .inl (fun _ => 0))) :: ((r2 40), .inl (cy 0, 9, .inl (fun _ => 0))) :: ((r2 41), .inl (cy 0, 9, .inl (fun _ => 0))) :: ((r2 42), .inl (cy 0, 9, .inl (fun _ => 0))) :: ((r2 43), .inl (cy 0, 9, .inl (fun _ => 0))) :: ((r2 44), .inl (cy 0, 9, .inl (fun _ => 0))) :: ((r2 45), .inl (cy 0, 9, .inl (fun _ => 0))) :: ((r2 46), .inl (cy 0, 9, .inl (fun _ => 0))) :: ((r2 47), .inl (cy 0, 9, .inl (fun _ => 0))) :: ((r2 48), .inl (cy 0, 9, .inl (fun _ => 0))) :: ((r2 49), .inl (cy 0, 9, .inl (fun _ => 0))) :: ((r2 50), .inl (cy 0, 9, .inl (fun _ => 0))) :: []) := hD
  refine W.widen (k := 52) (n := 510) (by omega) (by omega) ?_
  refine va_putF (D := D) (ci := 8) (v := .ref n1) (ty := (tyX5 2)) (C := RX5) (T := TX5) (N := 6) hx hb hts iRX5 tyX5 tyX5_ok nmX5 hown hK hP hD hS 0 rfl rfl 2 (by decide) (hts _ q31) (fun _ h9 => h9) rfl hin rfl (tyX5_ok 2 (by decide)) rfl rfl (Nat.le_of_ble_eq_true rfl) dX5_init_23 (fun H locs hP hD hS => ?_)
  have hP : va_P D vwCl ((h0, .inr (8, [.ref p1, .ref p2, .ref n1, .int 0, .null, .int 0])) :: (n1, .inl (cy 4, 51, .inr (.inr (.inr (.inr (fun k9 => if k9 < 51 then some (r2 k9) else none)))))) :: ((r2 0), .inl (cy 0, 9, .inl (fun _ => 0))) :: ((r2 1), .inl (cy 0, 9, .inl (fun _ => 0))) :: ((r2 2), .inl (cy 0, 9, .inl (fun _ => 0))) :: ((r2 3), .inl (cy 0, 9, .inl (fun _ => 0))) :: ((r2 4), .inl (cy 0, 9, .inl (fun _ => 0))) :: ((r2 5), .inl (cy 0, 9, .inl (fun _ => 0))) :: ((r2 6), .inl (cy 0, 9, .inl (fun _ => 0))) :: ((r2 7), .inl (cy 0, 9, .inl (fun _ => 0))) :: ((r2 8), .inl (cy 0, 9, .inl (fun _ => 0))) :: ((r2 9), .inl (cy 0, 9, .inl (fun _ => 0))) :: ((r2 10), .inl (cy 0, 9, .inl (fun _ => 0))) :: ((r2 11), .inl (cy 0, 9, .inl (fun _ => 0))) :: ((r2 12), .inl (cy 0, 9, .inl (fun _ => 0))) :: ((r2 13), .inl (cy 0, 9, .inl (fun _ => 0))) :: ((r2 14), .inl (cy 0, 9, .inl (fun _ => 0))) :: ((r2 15), .inl (cy 0, 9, .inl (fun _ => 0))) :: ((r2 16), .inl (cy 0, 9, .inl (fun _ => 0))) :: ((r2 17), .inl (cy 0, 9, .inl (fun _ => 0))) :: ((r2 18), .inl (cy 0, 9, .inl (fun _ => 0))) :: ((r2 19), .inl (cy 0, 9, .inl (fun _ => 0))) :: ((r2 20), .inl (cy 0, 9, .inl (fun _ => 0))) :: ((r2 21), .inl (cy 0, 9, .inl (fun _ => 0))) :: ((r2 22), .inl (cy 0, 9, .inl (fun _ => 0))) :: ((r2 23), .inl (cy 0, 9, .inl (fun _ => 0))) :: ((r2 24), .inl (cy 0, 9, .inl (fun _ => 0))) :: ((r2 25), .inl (cy 0, 9, .inl (fun _ => 0))) :: ((r2 26), .inl (cy 0, 9, .inl (fun _ => 0))) :: ((r2 27), .inl (cy 0, 9, .inl (fun _ => 0))) :: ((r2 28), .inl (cy 0, 9, .inl (fun _ => 0))) :: ((r2 29), .inl (cy 0, 9, .inl (fun _ => 0))) :: ((r2 30), .inl (cy 0, 9, .inl (fun _ => 0))) :: ((r2 31), .inl (cy 0, 9, .inl (fun _ => 0))) :: ((r2 32), .inl (cy 0, 9, .inl (fun _ => 0))) :: ((r2 33), .inl (cy 0, 9, .inl (fun _ => 0))) :: ((r2 34), .inl (cy 0, 9, .inl (fun _ => 0))) :: ((r2 35), .inl (cy 0, 9, .inl (fun _ => 0))) :: ((r2 36), .inl (cy 0, 9, .inl (fun _ => 0))) :: ((r2 37), .inl (cy 0, 9, .inl (fun _ => 0))) :: ((r2 38), .inl (cy 0, 9, .inl (fun _ => 0))) :: ((r2 39), .inl (cy 0, 9, .inl (fun _ => 0))) :: ((r2 40), .inl (cy 0, 9, .inl (fun _ => 0))) :: ((r2 41), .inl (cy 0, 9, .inl (fun _ => 0))) :: ((r2 42), .inl (cy 0, 9, .inl (fun _ => 0))) :: ((r2 43), .inl (cy 0, 9, .inl (fun _ => 0))) :: ((r2 44), .inl (cy 0, 9, .inl (fun _ => 0))) :: ((r2 45), .inl (cy 0, 9, .inl (fun _ => 0))) :: ((r2 46), .inl (cy 0, 9, .inl (fun _ => 0))) :: ((r2 47), .inl (cy 0, 9, .inl (fun _ => 0))) :: ((r2 48), .inl (cy 0, 9, .inl (fun _ => 0))) :: ((r2 49), .inl (cy 0, 9, .inl (fun _ => 0))) :: ((r2 50), .inl (cy 0, 9, .inl (fun _ => 0))) :: []) H := hP
  have hD : va_D A ((h0, .inr (8, [.ref p1, .ref p2, .ref n1, .int 0, .null, .int 0])) :: (n1, .inl (cy 4, 51, .inr (.inr (.inr (.inr (fun k9 => if k9 < 51 then some (r2 k9) else none)))))) :: ((r2 0), .inl (cy 0, 9, .inl (fun _ => 0))) :: ((r2 1), .inl (cy 0, 9, .inl (fun _ => 0))) :: ((r2 2), .inl (cy 0, 9, .inl (fun _ => 0))) :: ((r2 3), .inl (cy 0, 9, .inl (fun _ => 0))) :: ((r2 4), .inl (cy 0, 9, .inl (fun _ => 0))) :: ((r2 5), .inl (cy 0, 9, .inl (fun _ => 0))) :: ((r2 6), .inl (cy 0, 9, .inl (fun _ => 0))) :: ((r2 7), .inl (cy 0, 9, .inl (fun _ => 0))) :: ((r2 8), .inl (cy 0, 9, .inl (fun _ => 0))) :: ((r2 9), .inl (cy 0, 9, .inl (fun _ => 0))) :: ((r2 10), .inl (cy 0, 9, .inl (fun _ => 0))) :: ((r2 11), .inl (cy 0, 9, .inl (fun _ => 0))) :: ((r2 12), .inl (cy 0, 9, .inl (fun _ => 0))) :: ((r2 13), .inl (cy 0, 9, .inl (fun _ => 0))) :: ((r2 14), .inl (cy 0, 9, .inl (fun _ => 0))) :: ((r2 15), .inl (cy 0, 9, .inl (fun _ => 0))) :: ((r2 16), .inl (cy 0, 9, .inl (fun _ => 0))) :: ((r2 17), .inl (cy 0, 9, .inl (fun _ => 0))) :: ((r2 18), .inl (cy 0, 9, .inl (fun _ => 0))) :: ((r2 19), .inl (cy 0, 9, .inl (fun _ => 0))) :: ((r2 20), .inl (cy 0, 9, .inl (fun _ => 0))) :: ((r2 21), .inl (cy 0, 9, .inl (fun _ => 0))) :: ((r2 22), .inl (cy 0, 9, .inl (fun _ => 0))) :: ((r2 23), .inl (cy 0, 9, .inl (fun _ => 0))) :: ((r2 24), .inl (cy 0, 9, .inl (fun _ => 0))) :: ((r2 25), .inl (cy 0, 9, .inl (fun _ => 0))) :: ((r2 26), .inl (cy 0, 9, .inl (fun _ => 0))) :: ((r2 27), .inl (cy 0, 9, .inl (fun _ => 0))) :: ((r2 28), .inl (cy 0, 9, .inl (fun _ => 0))) :: ((r2 29), .inl (cy 0, 9, .inl (fun _ => 0))) :: ((r2 30), .inl (cy 0, 9, .inl (fun _ => 0))) :: ((r2 31), .inl (cy 0, 9, .inl (fun _ => 0))) :: ((r2 32), .inl (cy 0, 9, .inl (fun _ => 0))) :: ((r2 33), .inl (cy 0, 9, .inl (fun _ => 0))) :: ((r2 34), .inl (cy 0, 9, .inl (fun _ => 0))) :: ((r2 35), .inl (cy 0, 9, .inl (fun _ => 0))) :: ((r2 36), .inl (cy 0, 9, .inl (fun _ => 0))) :: ((r2 37), .inl (cy 0, 9, .inl (fun _ => 0))) :: ((r2 38), .inl (cy 0, 9, .inl (fun _ => 0))) :: ((r2 39), .inl (cy 0, 9, .inl (fun _ => 0))) :: ((r2 40), .inl (cy 0, 9, .inl (fun _ => 0))) :: ((r2 41), .inl (cy 0, 9, .inl (fun _ => 0))) :: ((r2 42), .inl (cy 0, 9, .inl (fun _ => 0))) :: ((r2 43), .inl (cy 0, 9, .inl (fun _ => 0))) :: ((r2 44), .inl (cy 0, 9, .inl (fun _ => 0))) :: ((r2 45), .inl (cy 0, 9, .inl (fun _ => 0))) :: ((r2 46), .inl (cy 0, 9, .inl (fun _ => 0))) :: ((r2 47), .inl (cy 0, 9, .inl (fun _ => 0))) :: ((r2 48), .inl (cy 0, 9, .inl (fun _ => 0))) :: ((r2 49), .inl (cy 0, 9, .inl (fun _ => 0))) :: ((r2 50), .inl (cy 0, 9, .inl (fun _ => 0))) :: []) := hD
  refine lv_aload_n hx hb dX5_init_26 rfl (lv_at hl 0 rfl) ?_
  refine lv_bipush (v := 50) hx hb dX5_init_27 (by decide) ?_
  refine z_newa (atype := .int) hx hb (hts _ q4) rfl hK hP hD hS hA 0 rfl (a0 := (50, .inl (fun _ => 0))) (fun _ => rfl) (by decide) (by decide) (by decide) (Nat.le_of_ble_eq_true rfl) (Nat.le_of_ble_eq_true rfl) dX5_init_29 (fun n3 H hP hD hS => ?_)
  have hP : va_P D vwCl ((h0, .inr (8, [.ref p1, .ref p2, .ref n1, .int 0, .null, .int 0])) :: (n1, .inl (cy 4, 51, .inr (.inr (.inr (.inr (fun k9 => if k9 < 51 then some (r2 k9) else none)))))) :: ((r2 0), .inl (cy 0, 9, .inl (fun _ => 0))) :: ((r2 1), .inl (cy 0, 9, .inl (fun _ => 0))) :: ((r2 2), .inl (cy 0, 9, .inl (fun _ => 0))) :: ((r2 3), .inl (cy 0, 9, .inl (fun _ => 0))) :: ((r2 4), .inl (cy 0, 9, .inl (fun _ => 0))) :: ((r2 5), .inl (cy 0, 9, .inl (fun _ => 0))) :: ((r2 6), .inl (cy 0, 9, .inl (fun _ => 0))) :: ((r2 7), .inl (cy 0, 9, .inl (fun _ => 0))) :: ((r2 8), .inl (cy 0, 9, .inl (fun _ => 0))) :: ((r2 9), .inl (cy 0, 9, .inl (fun _ => 0))) :: ((r2 10), .inl (cy 0, 9, .inl (fun _ => 0))) :: ((r2 11), .inl (cy 0, 9, .inl (fun _ => 0))) :: ((r2 12), .inl (cy 0, 9, .inl (fun _ => 0))) :: ((r2 13), .inl (cy 0, 9, .inl (fun _ => 0))) :: ((r2 14), .inl (cy 0, 9, .inl (fun _ => 0))) :: ((r2 15), .inl (cy 0, 9, .inl (fun _ => 0))) :: ((r2 16), .inl (cy 0, 9, .inl (fun _ => 0))) :: ((r2 17), .inl (cy 0, 9, .inl (fun _ => 0))) :: ((r2 18), .inl (cy 0, 9, .inl (fun _ => 0))) :: ((r2 19), .inl (cy 0, 9, .inl (fun _ => 0))) :: ((r2 20), .inl (cy 0, 9, .inl (fun _ => 0))) :: ((r2 21), .inl (cy 0, 9, .inl (fun _ => 0))) :: ((r2 22), .inl (cy 0, 9, .inl (fun _ => 0))) :: ((r2 23), .inl (cy 0, 9, .inl (fun _ => 0))) :: ((r2 24), .inl (cy 0, 9, .inl (fun _ => 0))) :: ((r2 25), .inl (cy 0, 9, .inl (fun _ => 0))) :: ((r2 26), .inl (cy 0, 9, .inl (fun _ => 0))) :: ((r2 27), .inl (cy 0, 9, .inl (fun _ => 0))) :: ((r2 28), .inl (cy 0, 9, .inl (fun _ => 0))) :: ((r2 29), .inl (cy 0, 9, .inl (fun _ => 0))) :: ((r2 30), .inl (cy 0, 9, .inl (fun _ => 0))) :: ((r2 31), .inl (cy 0, 9, .inl (fun _ => 0))) :: ((r2 32), .inl (cy 0, 9, .inl (fun _ => 0))) :: ((r2 33), .inl (cy 0, 9, .inl (fun _ => 0))) :: ((r2 34), .inl (cy 0, 9, .inl (fun _ => 0))) :: ((r2 35), .inl (cy 0, 9, .inl (fun _ => 0))) :: ((r2 36), .inl (cy 0, 9, .inl (fun _ => 0))) :: ((r2 37), .inl (cy 0, 9, .inl (fun _ => 0))) :: ((r2 38), .inl (cy 0, 9, .inl (fun _ => 0))) :: ((r2 39), .inl (cy 0, 9, .inl (fun _ => 0))) :: ((r2 40), .inl (cy 0, 9, .inl (fun _ => 0))) :: ((r2 41), .inl (cy 0, 9, .inl (fun _ => 0))) :: ((r2 42), .inl (cy 0, 9, .inl (fun _ => 0))) :: ((r2 43), .inl (cy 0, 9, .inl (fun _ => 0))) :: ((r2 44), .inl (cy 0, 9, .inl (fun _ => 0))) :: ((r2 45), .inl (cy 0, 9, .inl (fun _ => 0))) :: ((r2 46), .inl (cy 0, 9, .inl (fun _ => 0))) :: ((r2 47), .inl (cy 0, 9, .inl (fun _ => 0))) :: ((r2 48), .inl (cy 0, 9, .inl (fun _ => 0))) :: ((r2 49), .inl (cy 0, 9, .inl (fun _ => 0))) :: ((r2 50), .inl (cy 0, 9, .inl (fun _ => 0))) :: (n3, .inl (cy 0, 50, .inl (fun _ => 0))) :: []) H := hP
  have hD : va_D A ((h0, .inr (8, [.ref p1, .ref p2, .ref n1, .int 0, .null, .int 0])) :: (n1, .inl (cy 4, 51, .inr (.inr (.inr (.inr (fun k9 => if k9 < 51 then some (r2 k9) else none)))))) :: ((r2 0), .inl (cy 0, 9, .inl (fun _ => 0))) :: ((r2 1), .inl (cy 0, 9, .inl (fun _ => 0))) :: ((r2 2), .inl (cy 0, 9, .inl (fun _ => 0))) :: ((r2 3), .inl (cy 0, 9, .inl (fun _ => 0))) :: ((r2 4), .inl (cy 0, 9, .inl (fun _ => 0))) :: ((r2 5), .inl (cy 0, 9, .inl (fun _ => 0))) :: ((r2 6), .inl (cy 0, 9, .inl (fun _ => 0))) :: ((r2 7), .inl (cy 0, 9, .inl (fun _ => 0))) :: ((r2 8), .inl (cy 0, 9, .inl (fun _ => 0))) :: ((r2 9), .inl (cy 0, 9, .inl (fun _ => 0))) :: ((r2 10), .inl (cy 0, 9, .inl (fun _ => 0))) :: ((r2 11), .inl (cy 0, 9, .inl (fun _ => 0))) :: ((r2 12), .inl (cy 0, 9, .inl (fun _ => 0))) :: ((r2 13), .inl (cy 0, 9, .inl (fun _ => 0))) :: ((r2 14), .inl (cy 0, 9, .inl (fun _ => 0))) :: ((r2 15), .inl (cy 0, 9, .inl (fun _ => 0))) :: ((r2 16), .inl (cy 0, 9, .inl (fun _ => 0))) :: ((r2 17), .inl (cy 0, 9, .inl (fun _ => 0))) :: ((r2 18), .inl (cy 0, 9, .inl (fun _ => 0))) :: ((r2 19), .inl (cy 0, 9, .inl (fun _ => 0))) :: ((r2 20), .inl (cy 0, 9, .inl (fun _ => 0))) :: ((r2 21), .inl (cy 0, 9, .inl (fun _ => 0))) :: ((r2 22), .inl (cy 0, 9, .inl (fun _ => 0))) :: ((r2 23), .inl (cy 0, 9, .inl (fun _ => 0))) :: ((r2 24), .inl (cy 0, 9, .inl (fun _ => 0))) :: ((r2 25), .inl (cy 0, 9, .inl (fun _ => 0))) :: ((r2 26), .inl (cy 0, 9, .inl (fun _ => 0))) :: ((r2 27), .inl (cy 0, 9, .inl (fun _ => 0))) :: ((r2 28), .inl (cy 0, 9, .inl (fun _ => 0))) :: ((r2 29), .inl (cy 0, 9, .inl (fun _ => 0))) :: ((r2 30), .inl (cy 0, 9, .inl (fun _ => 0))) :: ((r2 31), .inl (cy 0, 9, .inl (fun _ => 0))) :: ((r2 32), .inl (cy 0, 9, .inl (fun _ => 0))) :: ((r2 33), .inl (cy 0, 9, .inl (fun _ => 0))) :: ((r2 34), .inl (cy 0, 9, .inl (fun _ => 0))) :: ((r2 35), .inl (cy 0, 9, .inl (fun _ => 0))) :: ((r2 36), .inl (cy 0, 9, .inl (fun _ => 0))) :: ((r2 37), .inl (cy 0, 9, .inl (fun _ => 0))) :: ((r2 38), .inl (cy 0, 9, .inl (fun _ => 0))) :: ((r2 39), .inl (cy 0, 9, .inl (fun _ => 0))) :: ((r2 40), .inl (cy 0, 9, .inl (fun _ => 0))) :: ((r2 41), .inl (cy 0, 9, .inl (fun _ => 0))) :: ((r2 42), .inl (cy 0, 9, .inl (fun _ => 0))) :: ((r2 43), .inl (cy 0, 9, .inl (fun _ => 0))) :: ((r2 44), .inl (cy 0, 9, .inl (fun _ => 0))) :: ((r2 45), .inl (cy 0, 9, .inl (fun _ => 0))) :: ((r2 46), .inl (cy 0, 9, .inl (fun _ => 0))) :: ((r2 47), .inl (cy 0, 9, .inl (fun _ => 0))) :: ((r2 48), .inl (cy 0, 9, .inl (fun _ => 0))) :: ((r2 49), .inl (cy 0, 9, .inl (fun _ => 0))) :: ((r2 50), .inl (cy 0, 9, .inl (fun _ => 0))) :: (n3, .inl (cy 0, 50, .inl (fun _ => 0))) :: []) := hD
  refine W.widen (k := 53) (n := 560) (by omega) (by omega) ?_
  refine va_putF (D := D) (ci := 8) (v := .ref n3) (ty := (tyX5 4)) (C := RX5) (T := TX5) (N := 6) hx hb hts iRX5 tyX5 tyX5_ok nmX5 hown hK hP hD hS 0 rfl rfl 4 (by decide) (hts _ q32) (fun _ h9 => h9) rfl hin rfl (tyX5_ok 4 (by decide)) rfl rfl (Nat.le_of_ble_eq_true rfl) dX5_init_31 (fun H locs hP hD hS => ?_)
  have hP : va_P D vwCl ((h0, .inr (8, [.ref p1, .ref p2, .ref n1, .int 0, .ref n3, .int 0])) :: (n1, .inl (cy 4, 51, .inr (.inr (.inr (.inr (fun k9 => if k9 < 51 then some (r2 k9) else none)))))) :: ((r2 0), .inl (cy 0, 9, .inl (fun _ => 0))) :: ((r2 1), .inl (cy 0, 9, .inl (fun _ => 0))) :: ((r2 2), .inl (cy 0, 9, .inl (fun _ => 0))) :: ((r2 3), .inl (cy 0, 9, .inl (fun _ => 0))) :: ((r2 4), .inl (cy 0, 9, .inl (fun _ => 0))) :: ((r2 5), .inl (cy 0, 9, .inl (fun _ => 0))) :: ((r2 6), .inl (cy 0, 9, .inl (fun _ => 0))) :: ((r2 7), .inl (cy 0, 9, .inl (fun _ => 0))) :: ((r2 8), .inl (cy 0, 9, .inl (fun _ => 0))) :: ((r2 9), .inl (cy 0, 9, .inl (fun _ => 0))) :: ((r2 10), .inl (cy 0, 9, .inl (fun _ => 0))) :: ((r2 11), .inl (cy 0, 9, .inl (fun _ => 0))) :: ((r2 12), .inl (cy 0, 9, .inl (fun _ => 0))) :: ((r2 13), .inl (cy 0, 9, .inl (fun _ => 0))) :: ((r2 14), .inl (cy 0, 9, .inl (fun _ => 0))) :: ((r2 15), .inl (cy 0, 9, .inl (fun _ => 0))) :: ((r2 16), .inl (cy 0, 9, .inl (fun _ => 0))) :: ((r2 17), .inl (cy 0, 9, .inl (fun _ => 0))) :: ((r2 18), .inl (cy 0, 9, .inl (fun _ => 0))) :: ((r2 19), .inl (cy 0, 9, .inl (fun _ => 0))) :: ((r2 20), .inl (cy 0, 9, .inl (fun _ => 0))) :: ((r2 21), .inl (cy 0, 9, .inl (fun _ => 0))) :: ((r2 22), .inl (cy 0, 9, .inl (fun _ => 0))) :: ((r2 23), .inl (cy 0, 9, .inl (fun _ => 0))) :: ((r2 24), .inl (cy 0, 9, .inl (fun _ => 0))) :: ((r2 25), .inl (cy 0, 9, .inl (fun _ => 0))) :: ((r2 26), .inl (cy 0, 9, .inl (fun _ => 0))) :: ((r2 27), .inl (cy 0, 9, .inl (fun _ => 0))) :: ((r2 28), .inl (cy 0, 9, .inl (fun _ => 0))) :: ((r2 29), .inl (cy 0, 9, .inl (fun _ => 0))) :: ((r2 30), .inl (cy 0, 9, .inl (fun _ => 0))) :: ((r2 31), .inl (cy 0, 9, .inl (fun _ => 0))) :: ((r2 32), .inl (cy 0, 9, .inl (fun _ => 0))) :: ((r2 33), .inl (cy 0, 9, .inl (fun _ => 0))) :: ((r2 34), .inl (cy 0, 9, .inl (fun _ => 0))) :: ((r2 35), .inl (cy 0, 9, .inl (fun _ => 0))) :: ((r2 36), .inl (cy 0, 9, .inl (fun _ => 0))) :: ((r2 37), .inl (cy 0, 9, .inl (fun _ => 0))) :: ((r2 38), .inl (cy 0, 9, .inl (fun _ => 0))) :: ((r2 39), .inl (cy 0, 9, .inl (fun _ => 0))) :: ((r2 40), .inl (cy 0, 9, .inl (fun _ => 0))) :: ((r2 41), .inl (cy 0, 9, .inl (fun _ => 0))) :: ((r2 42), .inl (cy 0, 9, .inl (fun _ => 0))) :: ((r2 43), .inl (cy 0, 9, .inl (fun _ => 0))) :: ((r2 44), .inl (cy 0, 9, .inl (fun _ => 0))) :: ((r2 45), .inl (cy 0, 9, .inl (fun _ => 0))) :: ((r2 46), .inl (cy 0, 9, .inl (fun _ => 0))) :: ((r2 47), .inl (cy 0, 9, .inl (fun _ => 0))) :: ((r2 48), .inl (cy 0, 9, .inl (fun _ => 0))) :: ((r2 49), .inl (cy 0, 9, .inl (fun _ => 0))) :: ((r2 50), .inl (cy 0, 9, .inl (fun _ => 0))) :: (n3, .inl (cy 0, 50, .inl (fun _ => 0))) :: []) H := hP
  have hD : va_D A ((h0, .inr (8, [.ref p1, .ref p2, .ref n1, .int 0, .ref n3, .int 0])) :: (n1, .inl (cy 4, 51, .inr (.inr (.inr (.inr (fun k9 => if k9 < 51 then some (r2 k9) else none)))))) :: ((r2 0), .inl (cy 0, 9, .inl (fun _ => 0))) :: ((r2 1), .inl (cy 0, 9, .inl (fun _ => 0))) :: ((r2 2), .inl (cy 0, 9, .inl (fun _ => 0))) :: ((r2 3), .inl (cy 0, 9, .inl (fun _ => 0))) :: ((r2 4), .inl (cy 0, 9, .inl (fun _ => 0))) :: ((r2 5), .inl (cy 0, 9, .inl (fun _ => 0))) :: ((r2 6), .inl (cy 0, 9, .inl (fun _ => 0))) :: ((r2 7), .inl (cy 0, 9, .inl (fun _ => 0))) :: ((r2 8), .inl (cy 0, 9, .inl (fun _ => 0))) :: ((r2 9), .inl (cy 0, 9, .inl (fun _ => 0))) :: ((r2 10), .inl (cy 0, 9, .inl (fun _ => 0))) :: ((r2 11), .inl (cy 0, 9, .inl (fun _ => 0))) :: ((r2 12), .inl (cy 0, 9, .inl (fun _ => 0))) :: ((r2 13), .inl (cy 0, 9, .inl (fun _ => 0))) :: ((r2 14), .inl (cy 0, 9, .inl (fun _ => 0))) :: ((r2 15), .inl (cy 0, 9, .inl (fun _ => 0))) :: ((r2 16), .inl (cy 0, 9, .inl (fun _ => 0))) :: ((r2 17), .inl (cy 0, 9, .inl (fun _ => 0))) :: ((r2 18), .inl (cy 0, 9, .inl (fun _ => 0))) :: ((r2 19), .inl (cy 0, 9, .inl (fun _ => 0))) :: ((r2 20), .inl (cy 0, 9, .inl (fun _ => 0))) :: ((r2 21), .inl (cy 0, 9, .inl (fun _ => 0))) :: ((r2 22), .inl (cy 0, 9, .inl (fun _ => 0))) :: ((r2 23), .inl (cy 0, 9, .inl (fun _ => 0))) :: ((r2 24), .inl (cy 0, 9, .inl (fun _ => 0))) :: ((r2 25), .inl (cy 0, 9, .inl (fun _ => 0))) :: ((r2 26), .inl (cy 0, 9, .inl (fun _ => 0))) :: ((r2 27), .inl (cy 0, 9, .inl (fun _ => 0))) :: ((r2 28), .inl (cy 0, 9, .inl (fun _ => 0))) :: ((r2 29), .inl (cy 0, 9, .inl (fun _ => 0))) :: ((r2 30), .inl (cy 0, 9, .inl (fun _ => 0))) :: ((r2 31), .inl (cy 0, 9, .inl (fun _ => 0))) :: ((r2 32), .inl (cy 0, 9, .inl (fun _ => 0))) :: ((r2 33), .inl (cy 0, 9, .inl (fun _ => 0))) :: ((r2 34), .inl (cy 0, 9, .inl (fun _ => 0))) :: ((r2 35), .inl (cy 0, 9, .inl (fun _ => 0))) :: ((r2 36), .inl (cy 0, 9, .inl (fun _ => 0))) :: ((r2 37), .inl (cy 0, 9, .inl (fun _ => 0))) :: ((r2 38), .inl (cy 0, 9, .inl (fun _ => 0))) :: ((r2 39), .inl (cy 0, 9, .inl (fun _ => 0))) :: ((r2 40), .inl (cy 0, 9, .inl (fun _ => 0))) :: ((r2 41), .inl (cy 0, 9, .inl (fun _ => 0))) :: ((r2 42), .inl (cy 0, 9, .inl (fun _ => 0))) :: ((r2 43), .inl (cy 0, 9, .inl (fun _ => 0))) :: ((r2 44), .inl (cy 0, 9, .inl (fun _ => 0))) :: ((r2 45), .inl (cy 0, 9, .inl (fun _ => 0))) :: ((r2 46), .inl (cy 0, 9, .inl (fun _ => 0))) :: ((r2 47), .inl (cy 0, 9, .inl (fun _ => 0))) :: ((r2 48), .inl (cy 0, 9, .inl (fun _ => 0))) :: ((r2 49), .inl (cy 0, 9, .inl (fun _ => 0))) :: ((r2 50), .inl (cy 0, 9, .inl (fun _ => 0))) :: (n3, .inl (cy 0, 50, .inl (fun _ => 0))) :: []) := hD
  refine lv_aload_n hx hb dX5_init_34 rfl (lv_at hl 0 rfl) ?_
  refine lv_iconst (v := (-1)) hx hb dX5_init_35 (by decide) ?_
  refine va_put (D := D) (ci := 8) (v := .int (-1)) (ty := .int) (C := RX5) (T := TX5) (N := 6) hx hb hts iRX5 tyX5 tyX5_ok nmX5 hown hK hP hD hS 0 rfl rfl 5 (by decide) (hts _ q33) (fun _ h9 => h9) rfl (tyX5_ok 5 (by decide)) rfl rfl (Nat.le_of_ble_eq_true rfl) dX5_init_36 (fun H locs hP hD hS => ?_)
  have hP : va_P D vwCl ((h0, .inr (8, [.ref p1, .ref p2, .ref n1, .int 0, .ref n3, .int (-1)])) :: (n1, .inl (cy 4, 51, .inr (.inr (.inr (.inr (fun k9 => if k9 < 51 then some (r2 k9) else none)))))) :: ((r2 0), .inl (cy 0, 9, .inl (fun _ => 0))) :: ((r2 1), .inl (cy 0, 9, .inl (fun _ => 0))) :: ((r2 2), .inl (cy 0, 9, .inl (fun _ => 0))) :: ((r2 3), .inl (cy 0, 9, .inl (fun _ => 0))) :: ((r2 4), .inl (cy 0, 9, .inl (fun _ => 0))) :: ((r2 5), .inl (cy 0, 9, .inl (fun _ => 0))) :: ((r2 6), .inl (cy 0, 9, .inl (fun _ => 0))) :: ((r2 7), .inl (cy 0, 9, .inl (fun _ => 0))) :: ((r2 8), .inl (cy 0, 9, .inl (fun _ => 0))) :: ((r2 9), .inl (cy 0, 9, .inl (fun _ => 0))) :: ((r2 10), .inl (cy 0, 9, .inl (fun _ => 0))) :: ((r2 11), .inl (cy 0, 9, .inl (fun _ => 0))) :: ((r2 12), .inl (cy 0, 9, .inl (fun _ => 0))) :: ((r2 13), .inl (cy 0, 9, .inl (fun _ => 0))) :: ((r2 14), .inl (cy 0, 9, .inl (fun _ => 0))) :: ((r2 15), .inl (cy 0, 9, .inl (fun _ => 0))) :: ((r2 16), .inl (cy 0, 9, .inl (fun _ => 0))) :: ((r2 17), .inl (cy 0, 9, .inl (fun _ => 0))) :: ((r2 18), .inl (cy 0, 9, .inl (fun _ => 0))) :: ((r2 19), .inl (cy 0, 9, .inl (fun _ => 0))) :: ((r2 20), .inl (cy 0, 9, .inl (fun _ => 0))) :: ((r2 21), .inl (cy 0, 9, .inl (fun _ => 0))) :: ((r2 22), .inl (cy 0, 9, .inl (fun _ => 0))) :: ((r2 23), .inl (cy 0, 9, .inl (fun _ => 0))) :: ((r2 24), .inl (cy 0, 9, .inl (fun _ => 0))) :: ((r2 25), .inl (cy 0, 9, .inl (fun _ => 0))) :: ((r2 26), .inl (cy 0, 9, .inl (fun _ => 0))) :: ((r2 27), .inl (cy 0, 9, .inl (fun _ => 0))) :: ((r2 28), .inl (cy 0, 9, .inl (fun _ => 0))) :: ((r2 29), .inl (cy 0, 9, .inl (fun _ => 0))) :: ((r2 30), .inl (cy 0, 9, .inl (fun _ => 0))) :: ((r2 31), .inl (cy 0, 9, .inl (fun _ => 0))) :: ((r2 32), .inl (cy 0, 9, .inl (fun _ => 0))) :: ((r2 33), .inl (cy 0, 9, .inl (fun _ => 0))) :: ((r2 34), .inl (cy 0, 9, .inl (fun _ => 0))) :: ((r2 35), .inl (cy 0, 9, .inl (fun _ => 0))) :: ((r2 36), .inl (cy 0, 9, .inl (fun _ => 0))) :: ((r2 37), .inl (cy 0, 9, .inl (fun _ => 0))) :: ((r2 38), .inl (cy 0, 9, .inl (fun _ => 0))) :: ((r2 39), .inl (cy 0, 9, .inl (fun _ => 0))) :: ((r2 40), .inl (cy 0, 9, .inl (fun _ => 0))) :: ((r2 41), .inl (cy 0, 9, .inl (fun _ => 0))) :: ((r2 42), .inl (cy 0, 9, .inl (fun _ => 0))) :: ((r2 43), .inl (cy 0, 9, .inl (fun _ => 0))) :: ((r2 44), .inl (cy 0, 9, .inl (fun _ => 0))) :: ((r2 45), .inl (cy 0, 9, .inl (fun _ => 0))) :: ((r2 46), .inl (cy 0, 9, .inl (fun _ => 0))) :: ((r2 47), .inl (cy 0, 9, .inl (fun _ => 0))) :: ((r2 48), .inl (cy 0, 9, .inl (fun _ => 0))) :: ((r2 49), .inl (cy 0, 9, .inl (fun _ => 0))) :: ((r2 50), .inl (cy 0, 9, .inl (fun _ => 0))) :: (n3, .inl (cy 0, 50, .inl (fun _ => 0))) :: []) H := hP
  have hD : va_D A ((h0, .inr (8, [.ref p1, .ref p2, .ref n1, .int 0, .ref n3, .int (-1)])) :: (n1, .inl (cy 4, 51, .inr (.inr (.inr (.inr (fun k9 => if k9 < 51 then some (r2 k9) else none)))))) :: ((r2 0), .inl (cy 0, 9, .inl (fun _ => 0))) :: ((r2 1), .inl (cy 0, 9, .inl (fun _ => 0))) :: ((r2 2), .inl (cy 0, 9, .inl (fun _ => 0))) :: ((r2 3), .inl (cy 0, 9, .inl (fun _ => 0))) :: ((r2 4), .inl (cy 0, 9, .inl (fun _ => 0))) :: ((r2 5), .inl (cy 0, 9, .inl (fun _ => 0))) :: ((r2 6), .inl (cy 0, 9, .inl (fun _ => 0))) :: ((r2 7), .inl (cy 0, 9, .inl (fun _ => 0))) :: ((r2 8), .inl (cy 0, 9, .inl (fun _ => 0))) :: ((r2 9), .inl (cy 0, 9, .inl (fun _ => 0))) :: ((r2 10), .inl (cy 0, 9, .inl (fun _ => 0))) :: ((r2 11), .inl (cy 0, 9, .inl (fun _ => 0))) :: ((r2 12), .inl (cy 0, 9, .inl (fun _ => 0))) :: ((r2 13), .inl (cy 0, 9, .inl (fun _ => 0))) :: ((r2 14), .inl (cy 0, 9, .inl (fun _ => 0))) :: ((r2 15), .inl (cy 0, 9, .inl (fun _ => 0))) :: ((r2 16), .inl (cy 0, 9, .inl (fun _ => 0))) :: ((r2 17), .inl (cy 0, 9, .inl (fun _ => 0))) :: ((r2 18), .inl (cy 0, 9, .inl (fun _ => 0))) :: ((r2 19), .inl (cy 0, 9, .inl (fun _ => 0))) :: ((r2 20), .inl (cy 0, 9, .inl (fun _ => 0))) :: ((r2 21), .inl (cy 0, 9, .inl (fun _ => 0))) :: ((r2 22), .inl (cy 0, 9, .inl (fun _ => 0))) :: ((r2 23), .inl (cy 0, 9, .inl (fun _ => 0))) :: ((r2 24), .inl (cy 0, 9, .inl (fun _ => 0))) :: ((r2 25), .inl (cy 0, 9, .inl (fun _ => 0))) :: ((r2 26), .inl (cy 0, 9, .inl (fun _ => 0))) :: ((r2 27), .inl (cy 0, 9, .inl (fun _ => 0))) :: ((r2 28), .inl (cy 0, 9, .inl (fun _ => 0))) :: ((r2 29), .inl (cy 0, 9, .inl (fun _ => 0))) :: ((r2 30), .inl (cy 0, 9, .inl (fun _ => 0))) :: ((r2 31), .inl (cy 0, 9, .inl (fun _ => 0))) :: ((r2 32), .inl (cy 0, 9, .inl (fun _ => 0))) :: ((r2 33), .inl (cy 0, 9, .inl (fun _ => 0))) :: ((r2 34), .inl (cy 0, 9, .inl (fun _ => 0))) :: ((r2 35), .inl (cy 0, 9, .inl (fun _ => 0))) :: ((r2 36), .inl (cy 0, 9, .inl (fun _ => 0))) :: ((r2 37), .inl (cy 0, 9, .inl (fun _ => 0))) :: ((r2 38), .inl (cy 0, 9, .inl (fun _ => 0))) :: ((r2 39), .inl (cy 0, 9, .inl (fun _ => 0))) :: ((r2 40), .inl (cy 0, 9, .inl (fun _ => 0))) :: ((r2 41), .inl (cy 0, 9, .inl (fun _ => 0))) :: ((r2 42), .inl (cy 0, 9, .inl (fun _ => 0))) :: ((r2 43), .inl (cy 0, 9, .inl (fun _ => 0))) :: ((r2 44), .inl (cy 0, 9, .inl (fun _ => 0))) :: ((r2 45), .inl (cy 0, 9, .inl (fun _ => 0))) :: ((r2 46), .inl (cy 0, 9, .inl (fun _ => 0))) :: ((r2 47), .inl (cy 0, 9, .inl (fun _ => 0))) :: ((r2 48), .inl (cy 0, 9, .inl (fun _ => 0))) :: ((r2 49), .inl (cy 0, 9, .inl (fun _ => 0))) :: ((r2 50), .inl (cy 0, 9, .inl (fun _ => 0))) :: (n3, .inl (cy 0, 50, .inl (fun _ => 0))) :: []) := hD
  have hP9 := hP.sub (ws' := []) [] rfl
  have hD9 := hD.sub (ws' := []) [] (by decide) rfl
  refine W.widen (k := 53) (n := 560) (Nat.le_of_ble_eq_true rfl) (Nat.le_of_ble_eq_true rfl) ?_
  rw [hQe]
  exact W.vret hx hb hr (fun t ht hW => ⟨⟨(), rfl, trivial, ⟨by rw [ht]; exact hP9, hD9⟩⟩, hS.F ht⟩) hS.2.2 dX5_init_39
set_option maxHeartbeats 4000000 in
set_option maxRecDepth 100000 in
/-- Places(cave): nothing hung, all 0, bottom 1 -/
theorem k_Places_init (l : Launch) (D : va_G) (cy : Nat → ClassId) (h0 : Nat) (p1 : Nat) (sz : Nat)  : Met l yX4_init (wz yX4_init cX4_init 2 none) ({ frames := 2, cells := 25, slots := 187, locals := 32 } : Room) (va_Pc [.ref h0, .ref p1] (zPre vwCl D cy [(h0, .inr (7, [.null, .null, .null, .null, .null, .null, .null, .null, .int 0, .long 0, .null, .int 0, .int 0, .long 0]))] sz)) (va_Qv (fun _ : (Nat → Nat) × (Nat → Nat) × (Nat → Nat) => True) (fun (u : (Nat → Nat) × (Nat → Nat) × (Nat → Nat)) t => zPost vwCl D (va_A [(h0, .inr (7, [.null, .null, .null, .null, .null, .null, .null, .null, .int 0, .long 0, .null, .int 0, .int 0, .long 0]))] sz) [(h0, .inr (7, [.ref p1, .ref (u.1 0), .ref (u.1 1), .ref (u.1 2), .ref (u.1 3), .ref (u.1 4), .ref (u.1 5), .ref (u.1 6), .int 0, .long 0, .ref (u.1 7), .int 0, .int 0, .long 1])), ((u.1 0), .inl (cy 0, 9, .inl (fun _ => 0))), ((u.1 1), .inl (cy 2, 9, .inl (fun _ => 0))), ((u.1 2), .inl (cy 0, 9, .inl (fun _ => 0))), ((u.1 3), .inl (cy 3, 8, .inr (.inr (.inr (.inr (fun k9 => if k9 < 8 then some (u.2.1 k9) else none)))))), ((u.2.1 0), .inl (cy 1, 11, .inr (.inl (fun _ => 0)))), ((u.2.1 1), .inl (cy 1, 11, .inr (.inl (fun _ => 0)))), ((u.2.1 2), .inl (cy 1, 11, .inr (.inl (fun _ => 0)))), ((u.2.1 3), .inl (cy 1, 11, .inr (.inl (fun _ => 0)))), ((u.2.1 4), .inl (cy 1, 11, .inr (.inl (fun _ => 0)))), ((u.2.1 5), .inl (cy 1, 11, .inr (.inl (fun _ => 0)))), ((u.2.1 6), .inl (cy 1, 11, .inr (.inl (fun _ => 0)))), ((u.2.1 7), .inl (cy 1, 11, .inr (.inl (fun _ => 0)))), ((u.1 4), .inl (cy 3, 9, .inr (.inr (.inr (.inr (fun k9 => if k9 < 9 then some (u.2.2 k9) else none)))))), ((u.2.2 0), .inl (cy 1, 3, .inr (.inl (fun _ => 0)))), ((u.2.2 1), .inl (cy 1, 3, .inr (.inl (fun _ => 0)))), ((u.2.2 2), .inl (cy 1, 3, .inr (.inl (fun _ => 0)))), ((u.2.2 3), .inl (cy 1, 3, .inr (.inl (fun _ => 0)))), ((u.2.2 4), .inl (cy 1, 3, .inr (.inl (fun _ => 0)))), ((u.2.2 5), .inl (cy 1, 3, .inr (.inl (fun _ => 0)))), ((u.2.2 6), .inl (cy 1, 3, .inr (.inl (fun _ => 0)))), ((u.2.2 7), .inl (cy 1, 3, .inr (.inl (fun _ => 0)))), ((u.2.2 8), .inl (cy 1, 3, .inr (.inl (fun _ => 0)))), ((u.1 7), .inl (cy 2, 24, .inl (fun _ => 0)))] t) (va_A [(h0, .inr (7, [.null, .null, .null, .null, .null, .null, .null, .null, .int 0, .long 0, .null, .int 0, .int 0, .long 0]))] sz)) 25 187 (va_A [(h0, .inr (7, [.null, .null, .null, .null, .null, .null, .null, .null, .int 0, .long 0, .null, .int 0, .int 0, .long 0]))] sz) := by
  refine Met.ofW (cc := cX4_init) (maxL := 2) (ret := none) (by decide) rfl ?_
  intro p e s m args below meth c s₁ B hml hv
  obtain ⟨rfl, hsz, hP, hK, hD0, hX, hY⟩ := hv
  have hx := B.exec
  have hb := B.bytes
  have hr := B.returns
  have hts0 := atoms_spec (ws := wz yX4_init cX4_init 2 none) B.pre
  have hts : ∀ w ∈ wAll, w.before _ s = true := fun w h => hts0 w (List.mem_cons_of_mem _ h)
  have hown : s.vm.findClass RX4 = some m.cls := findClass_of_methodNamed B.named
  have hlocks := B.notSynchronized
  have hin : meth.name = "<init>" := (name_of_methodNamed B.named B.method).1
  subst hsz
  have hD := hD0.self (sz := s.heap.size)
  generalize hAe : va_A [(h0, .inr (7, [.null, .null, .null, .null, .null, .null, .null, .null, .int 0, .long 0, .null, .int 0, .int 0, .long 0]))] s.heap.size = A at hD hY ⊢
  have hA : ∀ q : Nat, s.heap.size ≤ q → A q := fun q h => by rw [← hAe]; exact Or.inr h
  have hS : va_S A s.heap s.heap [] := va_S.rf
  have hP : va_P D vwCl [(h0, .inr (7, [.null, .null, .null, .null, .null, .null, .null, .null, .int 0, .long 0, .null, .int 0, .int 0, .long 0]))] s.heap := hP
  have hl := lv_entry ([.ref h0, .ref p1]) (n := 2) (Nat.le_of_ble_eq_true rfl)
  rw [lg_entry_eq]
  generalize (lg_sl ([.ref h0, .ref p1]) ++ List.replicate (2 - (lg_sl ([.ref h0, .ref p1])).length) Slot.unset).toArray = ls at hl ⊢
  have hl : lv_has ls 2 [(0, .ref h0), (1, .ref p1)] := hl
  refine z_anyQ (fun Q hQe => ?_)
  refine lv_aload_n hx hb dX4_init_0 rfl (lv_at hl 0 rfl) ?_
  refine W.objInit hx hb hown (hts _ q34) (hts _ q1) (hts _ q2) rfl (by rw [hml]; exact hl.1) rfl dX4_init_1 (Nat.le_of_ble_eq_true rfl) (Nat.le_of_ble_eq_true rfl) ?_
  refine W.eq (g2 := F0 m 4 ls []) rfl ?_
  refine lv_aload_n hx hb dX4_init_4 rfl (lv_at hl 0 rfl) ?_
  refine lv_aload_n hx hb dX4_init_5 rfl (lv_at hl 1 rfl) ?_
  refine va_putF (D := D) (ci := 7) (v := .ref p1) (ty := (tyX4 0)) (C := RX4) (T := TX4) (N := 14) hx hb hts iRX4 tyX4 tyX4_ok nmX4 hown hK hP hD hS 0 rfl rfl 0 (by decide) (hts _ q35) (fun _ h9 => h9) rfl hin rfl (tyX4_ok 0 (by decide)) rfl rfl (Nat.le_of_ble_eq_true rfl) dX4_init_6 (fun H locs hP hD hS => ?_)
  have hP : va_P D vwCl [(h0, .inr (7, [.ref p1, .null, .null, .null, .null, .null, .null, .null, .int 0, .long 0, .null, .int 0, .int 0, .long 0]))] H := hP
  have hD : va_D A [(h0, .inr (7, [.ref p1, .null, .null, .null, .null, .null, .null, .null, .int 0, .long 0, .null, .int 0, .int 0, .long 0]))] := hD
  refine lv_aload_n hx hb dX4_init_9 rfl (lv_at hl 0 rfl) ?_
  refine lv_bipush (v := 9) hx hb dX4_init_10 (by decide) ?_
  refine z_newa (atype := .int) hx hb (hts _ q4) rfl hK hP hD hS hA 0 rfl (a0 := (9, .inl (fun _ => 0))) (fun _ => rfl) (by decide) (by decide) (by decide) (Nat.le_of_ble_eq_true rfl) (Nat.le_of_ble_eq_true rfl) dX4_init_12 (fun n1 H hP hD hS => ?_)
  have hP : va_P D vwCl [(h0, .inr (7, [.ref p1, .null, .null, .null, .null, .null, .null, .null, .int 0, .long 0, .null, .int 0, .int 0, .long 0])), (n1, .inl (cy 0, 9, .inl (fun _ => 0)))] H := hP
  have hD : va_D A [(h0, .inr (7, [.ref p1, .null, .null, .null, .null, .null, .null, .null, .int 0, .long 0, .null, .int 0, .int 0, .long 0])), (n1, .inl (cy 0, 9, .inl (fun _ => 0)))] := hD
  refine W.widen (k := 1) (n := 9) (by omega) (by omega) ?_
  refine va_putF (D := D) (ci := 7) (v := .ref n1) (ty := (tyX4 1)) (C := RX4) (T := TX4) (N := 14) hx hb hts iRX4 tyX4 tyX4_ok nmX4 hown hK hP hD hS 0 rfl rfl 1 (by decide) (hts _ q36) (fun _ h9 => h9) rfl hin rfl (tyX4_ok 1 (by decide)) rfl rfl (Nat.le_of_ble_eq_true rfl) dX4_init_14 (fun H locs hP hD hS => ?_)
  have hP : va_P D vwCl [(h0, .inr (7, [.ref p1, .ref n1, .null, .null, .null, .null, .null, .null, .int 0, .long 0, .null, .int 0, .int 0, .long 0])), (n1, .inl (cy 0, 9, .inl (fun _ => 0)))] H := hP
  have hD : va_D A [(h0, .inr (7, [.ref p1, .ref n1, .null, .null, .null, .null, .null, .null, .int 0, .long 0, .null, .int 0, .int 0, .long 0])), (n1, .inl (cy 0, 9, .inl (fun _ => 0)))] := hD
  refine lv_aload_n hx hb dX4_init_17 rfl (lv_at hl 0 rfl) ?_
  refine lv_bipush (v := 9) hx hb dX4_init_18 (by decide) ?_
  refine z_newa (atype := .boolean) hx hb (hts _ q37) rfl hK hP hD hS hA 2 rfl (a0 := (9, .inl (fun _ => 0))) (fun _ => rfl) (by decide) (by decide) (by decide) (Nat.le_of_ble_eq_true rfl) (Nat.le_of_ble_eq_true rfl) dX4_init_20 (fun n2 H hP hD hS => ?_)
  have hP : va_P D vwCl [(h0, .inr (7, [.ref p1, .ref n1, .null, .null, .null, .null, .null, .null, .int 0, .long 0, .null, .int 0, .int 0, .long 0])), (n1, .inl (cy 0, 9, .inl (fun _ => 0))), (n2, .inl (cy 2, 9, .inl (fun _ => 0)))] H := hP
  have hD : va_D A [(h0, .inr (7, [.ref p1, .ref n1, .null, .null, .null, .null, .null, .null, .int 0, .long 0, .null, .int 0, .int 0, .long 0])), (n1, .inl (cy 0, 9, .inl (fun _ => 0))), (n2, .inl (cy 2, 9, .inl (fun _ => 0)))] := hD
  refine W.widen (k := 2) (n := 18) (by omega) (by omega) ?_
  refine va_putF (D := D) (ci := 7) (v := .ref n2) (ty := (tyX4 2)) (C := RX4) (T := TX4) (N := 14) hx hb hts iRX4 tyX4 tyX4_ok nmX4 hown hK hP hD hS 0 rfl rfl 2 (by decide) (hts _ q38) (fun _ h9 => h9) rfl hin rfl (tyX4_ok 2 (by decide)) rfl rfl (Nat.le_of_ble_eq_true rfl) dX4_init_22 (fun H locs hP hD hS => ?_)
  have hP : va_P D vwCl [(h0, .inr (7, [.ref p1, .ref n1, .ref n2, .null, .null, .null, .null, .null, .int 0, .long 0, .null, .int 0, .int 0, .long 0])), (n1, .inl (cy 0, 9, .inl (fun _ => 0))), (n2, .inl (cy 2, 9, .inl (fun _ => 0)))] H := hP
  have hD : va_D A [(h0, .inr (7, [.ref p1, .ref n1, .ref n2, .null, .null, .null, .null, .null, .int 0, .long 0, .null, .int 0, .int 0, .long 0])), (n1, .inl (cy 0, 9, .inl (fun _ => 0))), (n2, .inl (cy 2, 9, .inl (fun _ => 0)))] := hD
  refine lv_aload_n hx hb dX4_init_25 rfl (lv_at hl 0 rfl) ?_
  refine lv_bipush (v := 9) hx hb dX4_init_26 (by decide) ?_
  refine z_newa (atype := .int) hx hb (hts _ q4) rfl hK hP hD hS hA 0 rfl (a0 := (9, .inl (fun _ => 0))) (fun _ => rfl) (by decide) (by decide) (by decide) (Nat.le_of_ble_eq_true rfl) (Nat.le_of_ble_eq_true rfl) dX4_init_28 (fun n3 H hP hD hS => ?_)
  have hP : va_P D vwCl [(h0, .inr (7, [.ref p1, .ref n1, .ref n2, .null, .null, .null, .null, .null, .int 0, .long 0, .null, .int 0, .int 0, .long 0])), (n1, .inl (cy 0, 9, .inl (fun _ => 0))), (n2, .inl (cy 2, 9, .inl (fun _ => 0))), (n3, .inl (cy 0, 9, .inl (fun _ => 0)))] H := hP
  have hD : va_D A [(h0, .inr (7, [.ref p1, .ref n1, .ref n2, .null, .null, .null, .null, .null, .int 0, .long 0, .null, .int 0, .int 0, .long 0])), (n1, .inl (cy 0, 9, .inl (fun _ => 0))), (n2, .inl (cy 2, 9, .inl (fun _ => 0))), (n3, .inl (cy 0, 9, .inl (fun _ => 0)))] := hD
  refine W.widen (k := 3) (n := 27) (by omega) (by omega) ?_
  refine va_putF (D := D) (ci := 7) (v := .ref n3) (ty := (tyX4 3)) (C := RX4) (T := TX4) (N := 14) hx hb hts iRX4 tyX4 tyX4_ok nmX4 hown hK hP hD hS 0 rfl rfl 3 (by decide) (hts _ q39) (fun _ h9 => h9) rfl hin rfl (tyX4_ok 3 (by decide)) rfl rfl (Nat.le_of_ble_eq_true rfl) dX4_init_30 (fun H locs hP hD hS => ?_)
  have hP : va_P D vwCl [(h0, .inr (7, [.ref p1, .ref n1, .ref n2, .ref n3, .null, .null, .null, .null, .int 0, .long 0, .null, .int 0, .int 0, .long 0])), (n1, .inl (cy 0, 9, .inl (fun _ => 0))), (n2, .inl (cy 2, 9, .inl (fun _ => 0))), (n3, .inl (cy 0, 9, .inl (fun _ => 0)))] H := hP
  have hD : va_D A [(h0, .inr (7, [.ref p1, .ref n1, .ref n2, .ref n3, .null, .null, .null, .null, .int 0, .long 0, .null, .int 0, .int 0, .long 0])), (n1, .inl (cy 0, 9, .inl (fun _ => 0))), (n2, .inl (cy 2, 9, .inl (fun _ => 0))), (n3, .inl (cy 0, 9, .inl (fun _ => 0)))] := hD
  refine lv_aload_n hx hb dX4_init_33 rfl (lv_at hl 0 rfl) ?_
  refine lv_bipush (v := 8) hx hb dX4_init_34 (by decide) ?_
  refine lv_bipush (v := 11) hx hb dX4_init_36 (by decide) ?_
  refine z_mna (N' := 8) (K' := 11) (X := [(h0, .inr (7, [.ref p1, .ref n1, .ref n2, .ref n3, .null, .null, .null, .null, .int 0, .long 0, .null, .int 0, .int 0, .long 0])), (n1, .inl (cy 0, 9, .inl (fun _ => 0))), (n2, .inl (cy 2, 9, .inl (fun _ => 0))), (n3, .inl (cy 0, 9, .inl (fun _ => 0)))]) (z := (11, .inr (.inl (fun _ => 0)))) (cy := cy 1) (c0 := cy 3) hx hb hown (hts _ q40) (zAA.use hX.2.2.2.2.1) (hts _ q41) hK 1 3 rfl rfl hP hD hS hA (by decide) (by decide) (by decide) (by decide) (by decide) (by decide) (by decide) rfl rfl (Nat.le_of_ble_eq_true rfl) (Nat.le_of_ble_eq_true rfl) (fun _ => z_innerJ _ _) dX4_init_38 (fun n4 r5 H hP hD hS => ?_)
  have hP : va_P D vwCl [(h0, .inr (7, [.ref p1, .ref n1, .ref n2, .ref n3, .null, .null, .null, .null, .int 0, .long 0, .null, .int 0, .int 0, .long 0])), (n1, .inl (cy 0, 9, .inl (fun _ => 0))), (n2, .inl (cy 2, 9, .inl (fun _ => 0))), (n3, .inl (cy 0, 9, .inl (fun _ => 0))), (n4, .inl (cy 3, 8, .inr (.inr (.inr (.inr (fun k9 => if k9 < 8 then some (r5 k9) else none)))))), ((r5 0), .inl (cy 1, 11, .inr (.inl (fun _ => 0)))), ((r5 1), .inl (cy 1, 11, .inr (.inl (fun _ => 0)))), ((r5 2), .inl (cy 1, 11, .inr (.inl (fun _ => 0)))), ((r5 3), .inl (cy 1, 11, .inr (.inl (fun _ => 0)))), ((r5 4), .inl (cy 1, 11, .inr (.inl (fun _ => 0)))), ((r5 5), .inl (cy 1, 11, .inr (.inl (fun _ => 0)))), ((r5 6), .inl (cy 1, 11, .inr (.inl (fun _ => 0)))), ((r5 7), .inl (cy 1, 11, .inr (.inl (fun _ => 0))))] H := hP
  have hD : va_D A [(h0, .inr (7, [.ref p1, .ref n1, .ref n2, .ref n3, .null, .null, .null, .null, .int 0, .long 0, .null, .int 0, .int 0, .long 0])), (n1, .inl (cy 0, 9, .inl (fun _ => 0))), (n2, .inl (cy 2, 9, .inl (fun _ => 0))), (n3, .inl (cy 0, 9, .inl (fun _ => 0))), (n4, .inl (cy 3, 8, .inr (.inr (.inr (.inr (fun k9 => if k9 < 8 then some (r5 k9) else none)))))), ((r5 0), .inl (cy 1, 11, .inr (.inl (fun _ => 0)))), ((r5 1), .inl (cy 1, 11, .inr (.inl (fun _ => 0)))), ((r5 2), .inl (cy 1, 11, .inr (.inl (fun _ => 0)))), ((r5 3), .inl (cy 1, 11, .inr (.inl (fun _ => 0)))), ((r5 4), .inl (cy 1, 11, .inr (.inl (fun _ => 0)))), ((r5 5), .inl (cy 1, 11, .inr (.inl (fun _ => 0)))), ((r5 6), .inl (cy 1, 11, .inr (.inl (fun _ => 0)))), ((r5 7), .inl (cy 1, 11, .inr (.inl (fun _ => 0))))] := hD
  refine W.widen (k := 12) (n := 123) (by omega) (by omega) ?_
  refine va_putF (D := D) (ci := 7) (v := .ref n4) (ty := (tyX4 4)) (C := RX4) (T := TX4) (N := 14) hx hb hts iRX4 tyX4 tyX4_ok nmX4 hown hK hP hD hS 0 rfl rfl 4 (by decide) (hts _ q42) (fun _ h9 => h9) rfl hin rfl (tyX4_ok 4 (by decide)) rfl rfl (Nat.le_of_ble_eq_true rfl) dX4_init_42 (fun H locs hP hD hS => ?_)
  have hP : va_P D vwCl [(h0, .inr (7, [.ref p1, .ref n1, .ref n2, .ref n3, .ref n4, .null, .null, .null, .int 0, .long 0, .null, .int 0, .int 0, .long 0])), (n1, .inl (cy 0, 9, .inl (fun _ => 0))), (n2, .inl (cy 2, 9, .inl (fun _ => 0))), (n3, .inl (cy 0, 9, .inl (fun _ => 0))), (n4, .inl (cy 3, 8, .inr (.inr (.inr (.inr (fun k9 => if k9 < 8 then some (r5 k9) else none)))))), ((r5 0), .inl (cy 1, 11, .inr (.inl (fun _ => 0)))), ((r5 1), .inl (cy 1, 11, .inr (.inl (fun _ => 0)))), ((r5 2), .inl (cy 1, 11, .inr (.inl (fun _ => 0)))), ((r5 3), .inl (cy 1, 11, .inr (.inl (fun _ => 0)))), ((r5 4), .inl (cy 1, 11, .inr (.inl (fun _ => 0)))), ((r5 5), .inl (cy 1, 11, .inr (.inl (fun _ => 0)))), ((r5 6), .inl (cy 1, 11, .inr (.inl (fun _ => 0)))), ((r5 7), .inl (cy 1, 11, .inr (.inl (fun _ => 0))))] H := hP
  have hD : va_D A [(h0, .inr (7, [.ref p1, .ref n1, .ref n2, .ref n3, .ref n4, .null, .null, .null, .int 0, .long 0, .null, .int 0, .int 0, .long 0])), (n1, .inl (cy 0, 9, .inl (fun _ => 0))), (n2, .inl (cy 2, 9, .inl (fun _ => 0))), (n3, .inl (cy 0, 9, .inl (fun _ => 0))), (n4, .inl (cy 3, 8, .inr (.inr (.inr (.inr (fun k9 => if k9 < 8 then some (r5 k9) else none)))))), ((r5 0), .inl (cy 1, 11, .inr (.inl (fun _ => 0)))), ((r5 1), .inl (cy 1, 11, .inr (.inl (fun _ => 0)))), ((r5 2), .inl (cy 1, 11, .inr (.inl (fun _ => 0)))), ((r5 3), .inl (cy 1, 11, .inr (.inl (fun _ => 0)))), ((r5 4), .inl (cy 1, 11, .inr (.inl (fun _ => 0)))), ((r5 5), .inl (cy 1, 11, .inr (.inl (fun _ => 0)))), ((r5 6), .inl (cy 1, 11, .inr (.inl (fun _ => 0)))), ((r5 7), .inl (cy 1, 11, .inr (.inl (fun _ => 0))))] := hD
  refine lv_aload_n hx hb dX4_init_45 rfl (lv_at hl 0 rfl) ?_
  refine lv_bipush (v := 9) hx hb dX4_init_46 (by decide) ?_
  refine lv_iconst (v := 3) hx hb dX4_init_48 (by decide) ?_
  refine z_mna (N' := 9) (K' := 3) (X := [(h0, .inr (7, [.ref p1, .ref n1, .ref n2, .ref n3, .ref n4, .null, .null, .null, .int 0, .long 0, .null, .int 0, .int 0, .long 0])), (n1, .inl (cy 0, 9, .inl (fun _ => 0))), (n2, .inl (cy 2, 9, .inl (fun _ => 0))), (n3, .inl (cy 0, 9, .inl (fun _ => 0))), (n4, .inl (cy 3, 8, .inr (.inr (.inr (.inr (fun k9 => if k9 < 8 then some (r5 k9) else none)))))), ((r5 0), .inl (cy 1, 11, .inr (.inl (fun _ => 0)))), ((r5 1), .inl (cy 1, 11, .inr (.inl (fun _ => 0)))), ((r5 2), .inl (cy 1, 11, .inr (.inl (fun _ => 0)))), ((r5 3), .inl (cy 1, 11, .inr (.inl (fun _ => 0)))), ((r5 4), .inl (cy 1, 11, .inr (.inl (fun _ => 0)))), ((r5 5), .inl (cy 1, 11, .inr (.inl (fun _ => 0)))), ((r5 6), .inl (cy 1, 11, .inr (.inl (fun _ => 0)))), ((r5 7), .inl (cy 1, 11, .inr (.inl (fun _ => 0))))]) (z := (3, .inr (.inl (fun _ => 0)))) (cy := cy 1) (c0 := cy 3) hx hb hown (hts _ q40) (zAA.use hX.2.2.2.2.1) (hts _ q41) hK 1 3 rfl rfl hP hD hS hA (by decide) (by decide) (by decide) (by decide) (by decide) (by decide) (by decide) rfl rfl (Nat.le_of_ble_eq_true rfl) (Nat.le_of_ble_eq_true rfl) (fun _ => z_innerJ _ _) dX4_init_49 (fun n6 r7 H hP hD hS => ?_)
  have hP : va_P D vwCl [(h0, .inr (7, [.ref p1, .ref n1, .ref n2, .ref n3, .ref n4, .null, .null, .null, .int 0, .long 0, .null, .int 0, .int 0, .long 0])), (n1, .inl (cy 0, 9, .inl (fun _ => 0))), (n2, .inl (cy 2, 9, .inl (fun _ => 0))), (n3, .inl (cy 0, 9, .inl (fun _ => 0))), (n4, .inl (cy 3, 8, .inr (.inr (.inr (.inr (fun k9 => if k9 < 8 then some (r5 k9) else none)))))), ((r5 0), .inl (cy 1, 11, .inr (.inl (fun _ => 0)))), ((r5 1), .inl (cy 1, 11, .inr (.inl (fun _ => 0)))), ((r5 2), .inl (cy 1, 11, .inr (.inl (fun _ => 0)))), ((r5 3), .inl (cy 1, 11, .inr (.inl (fun _ => 0)))), ((r5 4), .inl (cy 1, 11, .inr (.inl (fun _ => 0)))), ((r5 5), .inl (cy 1, 11, .inr (.inl (fun _ => 0)))), ((r5 6), .inl (cy 1, 11, .inr (.inl (fun _ => 0)))), ((r5 7), .inl (cy 1, 11, .inr (.inl (fun _ => 0)))), (n6, .inl (cy 3, 9, .inr (.inr (.inr (.inr (fun k9 => if k9 < 9 then some (r7 k9) else none)))))), ((r7 0), .inl (cy 1, 3, .inr (.inl (fun _ => 0)))), ((r7 1), .inl (cy 1, 3, .inr (.inl (fun _ => 0)))), ((r7 2), .inl (cy 1, 3, .inr (.inl (fun _ => 0)))), ((r7 3), .inl (cy 1, 3, .inr (.inl (fun _ => 0)))), ((r7 4), .inl (cy 1, 3, .inr (.inl (fun _ => 0)))), ((r7 5), .inl (cy 1, 3, .inr (.inl (fun _ => 0)))), ((r7 6), .inl (cy 1, 3, .inr (.inl (fun _ => 0)))), ((r7 7), .inl (cy 1, 3, .inr (.inl (fun _ => 0)))), ((r7 8), .inl (cy 1, 3, .inr (.inl (fun _ => 0))))] H := hP
  have hD : va_D A [(h0, .inr (7, [.ref p1, .ref n1, .ref n2, .ref n3, .ref n4, .null, .null, .null, .int 0, .long 0, .null, .int 0, .int 0, .long 0])), (n1, .inl (cy 0, 9, .inl (fun _ => 0))), (n2, .inl (cy 2, 9, .inl (fun _ => 0))), (n3, .inl (cy 0, 9, .inl (fun _ => 0))), (n4, .inl (cy 3, 8, .inr (.inr (.inr (.inr (fun k9 => if k9 < 8 then some (r5 k9) else none)))))), ((r5 0), .inl (cy 1, 11, .inr (.inl (fun _ => 0)))), ((r5 1), .inl (cy 1, 11, .inr (.inl (fun _ => 0)))), ((r5 2), .inl (cy 1, 11, .inr (.inl (fun _ => 0)))), ((r5 3), .inl (cy 1, 11, .inr (.inl (fun _ => 0)))), ((r5 4), .inl (cy 1, 11, .inr (.inl (fun _ => 0)))), ((r5 5), .inl (cy 1, 11, .inr (.inl (fun _ => 0)))), ((r5 6), .inl (cy 1, 11, .inr (.inl (fun _ => 0)))), ((r5 7), .inl (cy 1, 11, .inr (.inl (fun _ => 0)))), (n6, .inl (cy 3, 9, .inr (.inr (.inr (.inr (fun k9 => if k9 < 9 then some (r7 k9) else none)))))), ((r7 0), .inl (cy 1, 3, .inr (.inl (fun _ => 0)))), ((r7 1), .inl (cy 1, 3, .inr (.inl (fun _ => 0)))), ((r7 2), .inl (cy 1, 3, .inr (.inl (fun _ => 0)))), ((r7 3), .inl (cy 1, 3, .inr (.inl (fun _ => 0)))), ((r7 4), .inl (cy 1, 3, .inr (.inl (fun _ => 0)))), ((r7 5), .inl (cy 1, 3, .inr (.inl (fun _ => 0)))), ((r7 6), .inl (cy 1, 3, .inr (.inl (fun _ => 0)))), ((r7 7), .inl (cy 1, 3, .inr (.inl (fun _ => 0)))), ((r7 8), .inl (cy 1, 3, .inr (.inl (fun _ => 0))))] := hD
  refine W.widen (k := 22) (n := 159) (by omega) (by omega) ?_
  refine va_putF (D := D) (ci := 7) (v := .ref n6) (ty := (tyX4 5)) (C := RX4) (T := TX4) (N := 14) hx hb hts iRX4 tyX4 tyX4_ok nmX4 hown hK hP hD hS 0 rfl rfl 5 (by decide) (hts _ q43) (fun _ h9 => h9) rfl hin rfl (tyX4_ok 5 (by decide)) rfl rfl (Nat.le_of_ble_eq_true rfl) dX4_init_53 (fun H locs hP hD hS => ?_)
  have hP : va_P D vwCl [(h0, .inr (7, [.ref p1, .ref n1, .ref n2, .ref n3, .ref n4, .ref n6, .null, .null, .int 0, .long 0, .null, .int 0, .int 0, .long 0])), (n1, .inl (cy 0, 9, .inl (fun _ => 0))), (n2, .inl (cy 2, 9, .inl (fun _ => 0))), (n3, .inl (cy 0, 9, .inl (fun _ => 0))), (n4, .inl (cy 3, 8, .inr (.inr (.inr (.inr (fun k9 => if k9 < 8 then some (r5 k9) else none)))))), ((r5 0), .inl (cy 1, 11, .inr (.inl (fun _ => 0)))), ((r5 1), .inl (cy 1, 11, .inr (.inl (fun _ => 0)))), ((r5 2), .inl (cy 1, 11, .inr (.inl (fun _ => 0)))), ((r5 3), .inl (cy 1, 11, .inr (.inl (fun _ => 0)))), ((r5 4), .inl (cy 1, 11, .inr (.inl (fun _ => 0)))), ((r5 5), .inl (cy 1, 11, .inr (.inl (fun _ => 0)))), ((r5 6), .inl (cy 1, 11, .inr (.inl (fun _ => 0)))), ((r5 7), .inl (cy 1, 11, .inr (.inl (fun _ => 0)))), (n6, .inl (cy 3, 9, .inr (.inr (.inr (.inr (fun k9 => if k9 < 9 then some (r7 k9) else none)))))), ((r7 0), .inl (cy 1, 3, .inr (.inl (fun _ => 0)))), ((r7 1), .inl (cy 1, 3, .inr (.inl (fun _ => 0)))), ((r7 2), .inl (cy 1, 3, .inr (.inl (fun _ => 0)))), ((r7 3), .inl (cy 1, 3, .inr (.inl (fun _ => 0)))), ((r7 4), .inl (cy 1, 3, .inr (.inl (fun _ => 0)))), ((r7 5), .inl (cy 1, 3, .inr (.inl (fun _ => 0)))), ((r7 6), .inl (cy 1, 3, .inr (.inl (fun _ => 0)))), ((r7 7), .inl (cy 1, 3, .inr (.inl (fun _ => 0)))), ((r7 8), .inl (cy 1, 3, .inr (.inl (fun _ => 0))))] H := hP
  have hD : va_D A [(h0, .inr (7, [.ref p1, .ref n1, .ref n2, .ref n3, .ref n4, .ref n6, .null, .null, .int 0, .long 0, .null, .int 0, .int 0, .long 0])), (n1, .inl (cy 0, 9, .inl (fun _ => 0))), (n2, .inl (cy 2, 9, .inl (fun _ => 0))), (n3, .inl (cy 0, 9, .inl (fun _ => 0))), (n4, .inl (cy 3, 8, .inr (.inr (.inr (.inr (fun k9 => if k9 < 8 then some (r5 k9) else none)))))), ((r5 0), .inl (cy 1, 11, .inr (.inl (fun _ => 0)))), ((r5 1), .inl (cy 1, 11, .inr (.inl (fun _ => 0)))), ((r5 2), .inl (cy 1, 11, .inr (.inl (fun _ => 0)))), ((r5 3), .inl (cy 1, 11, .inr (.inl (fun _ => 0)))), ((r5 4), .inl (cy 1, 11, .inr (.inl (fun _ => 0)))), ((r5 5), .inl (cy 1, 11, .inr (.inl (fun _ => 0)))), ((r5 6), .inl (cy 1, 11, .inr (.inl (fun _ => 0)))), ((r5 7), .inl (cy 1, 11, .inr (.inl (fun _ => 0)))), (n6, .inl (cy 3, 9, .inr (.inr (.inr (.inr (fun k9 => if k9 < 9 then some (r7 k9) else none)))))), ((r7 0), .inl (cy 1, 3, .inr (.inl (fun _ => 0)))), ((r7 1), .inl (cy 1, 3, .inr (.inl (fun _ => 0)))), ((r7 2), .inl (cy 1, 3, .inr (.inl (fun _ => 0)))), ((r7 3), .inl (cy 1, 3, .inr (.inl (fun _ => 0)))), ((r7 4), .inl (cy 1, 3, .inr (.inl (fun _ => 0)))), ((r7 5), .inl (cy 1, 3, .inr (.inl (fun _ => 0)))), ((r7 6), .inl (cy 1, 3, .inr (.inl (fun _ => 0)))), ((r7 7), .inl (cy 1, 3, .inr (.inl (fun _ => 0)))), ((r7 8), .inl (cy 1, 3, .inr (.inl (fun _ => 0))))] := hD
  refine lv_aload_n hx hb dX4_init_56 rfl (lv_at hl 0 rfl) ?_
  refine va_new (ci := 11) (fs := [.long 0, .long 0]) (C := RX8) (T := TX8) (N := 2) hx hb hts iRX8 tyX8 tyX8_ok hown (hts _ q44) (hts _ q45) (hts _ q46) hK hP hD hS hA rfl (fun j hj => by rcases (show j = 0 ∨ j = 1 by omega) with rfl | rfl <;> rfl) (Nat.le_of_ble_eq_true rfl) (Nat.le_of_ble_eq_true rfl) dX4_init_57 (fun n8 H hP hD hS => ?_)
  have hP : va_P D vwCl [(h0, .inr (7, [.ref p1, .ref n1, .ref n2, .ref n3, .ref n4, .ref n6, .null, .null, .int 0, .long 0, .null, .int 0, .int 0, .long 0])), (n1, .inl (cy 0, 9, .inl (fun _ => 0))), (n2, .inl (cy 2, 9, .inl (fun _ => 0))), (n3, .inl (cy 0, 9, .inl (fun _ => 0))), (n4, .inl (cy 3, 8, .inr (.inr (.inr (.inr (fun k9 => if k9 < 8 then some (r5 k9) else none)))))), ((r5 0), .inl (cy 1, 11, .inr (.inl (fun _ => 0)))), ((r5 1), .inl (cy 1, 11, .inr (.inl (fun _ => 0)))), ((r5 2), .inl (cy 1, 11, .inr (.inl (fun _ => 0)))), ((r5 3), .inl (cy 1, 11, .inr (.inl (fun _ => 0)))), ((r5 4), .inl (cy 1, 11, .inr (.inl (fun _ => 0)))), ((r5 5), .inl (cy 1, 11, .inr (.inl (fun _ => 0)))), ((r5 6), .inl (cy 1, 11, .inr (.inl (fun _ => 0)))), ((r5 7), .inl (cy 1, 11, .inr (.inl (fun _ => 0)))), (n6, .inl (cy 3, 9, .inr (.inr (.inr (.inr (fun k9 => if k9 < 9 then some (r7 k9) else none)))))), ((r7 0), .inl (cy 1, 3, .inr (.inl (fun _ => 0)))), ((r7 1), .inl (cy 1, 3, .inr (.inl (fun _ => 0)))), ((r7 2), .inl (cy 1, 3, .inr (.inl (fun _ => 0)))), ((r7 3), .inl (cy 1, 3, .inr (.inl (fun _ => 0)))), ((r7 4), .inl (cy 1, 3, .inr (.inl (fun _ => 0)))), ((r7 5), .inl (cy 1, 3, .inr (.inl (fun _ => 0)))), ((r7 6), .inl (cy 1, 3, .inr (.inl (fun _ => 0)))), ((r7 7), .inl (cy 1, 3, .inr (.inl (fun _ => 0)))), ((r7 8), .inl (cy 1, 3, .inr (.inl (fun _ => 0)))), (n8, .inr (11, [.long 0, .long 0]))] H := hP
  have hD : va_D A [(h0, .inr (7, [.ref p1, .ref n1, .ref n2, .ref n3, .ref n4, .ref n6, .null, .null, .int 0, .long 0, .null, .int 0, .int 0, .long 0])), (n1, .inl (cy 0, 9, .inl (fun _ => 0))), (n2, .inl (cy 2, 9, .inl (fun _ => 0))), (n3, .inl (cy 0, 9, .inl (fun _ => 0))), (n4, .inl (cy 3, 8, .inr (.inr (.inr (.inr (fun k9 => if k9 < 8 then some (r5 k9) else none)))))), ((r5 0), .inl (cy 1, 11, .inr (.inl (fun _ => 0)))), ((r5 1), .inl (cy 1, 11, .inr (.inl (fun _ => 0)))), ((r5 2), .inl (cy 1, 11, .inr (.inl (fun _ => 0)))), ((r5 3), .inl (cy 1, 11, .inr (.inl (fun _ => 0)))), ((r5 4), .inl (cy 1, 11, .inr (.inl (fun _ => 0)))), ((r5 5), .inl (cy 1, 11, .inr (.inl (fun _ => 0)))), ((r5 6), .inl (cy 1, 11, .inr (.inl (fun _ => 0)))), ((r5 7), .inl (cy 1, 11, .inr (.inl (fun _ => 0)))), (n6, .inl (cy 3, 9, .inr (.inr (.inr (.inr (fun k9 => if k9 < 9 then some (r7 k9) else none)))))), ((r7 0), .inl (cy 1, 3, .inr (.inl (fun _ => 0)))), ((r7 1), .inl (cy 1, 3, .inr (.inl (fun _ => 0)))), ((r7 2), .inl (cy 1, 3, .inr (.inl (fun _ => 0)))), ((r7 3), .inl (cy 1, 3, .inr (.inl (fun _ => 0)))), ((r7 4), .inl (cy 1, 3, .inr (.inl (fun _ => 0)))), ((r7 5), .inl (cy 1, 3, .inr (.inl (fun _ => 0)))), ((r7 6), .inl (cy 1, 3, .inr (.inl (fun _ => 0)))), ((r7 7), .inl (cy 1, 3, .inr (.inl (fun _ => 0)))), ((r7 8), .inl (cy 1, 3, .inr (.inl (fun _ => 0)))), (n8, .inr (11, [.long 0, .long 0]))] := hD
  refine W.widen (k := 23) (n := 161) (by omega) (by omega) ?_
  refine lv_dup hx hb dX4_init_60 rfl ?_
  refine zq_v (wc := [(n8, .inr (11, [.long 0, .long 0]))]) (wr := [(h0, .inr (7, [.ref p1, .ref n1, .ref n2, .ref n3, .ref n4, .ref n6, .null, .null, .int 0, .long 0, .null, .int 0, .int 0, .long 0])), (n1, .inl (cy 0, 9, .inl (fun _ => 0))), (n2, .inl (cy 2, 9, .inl (fun _ => 0))), (n3, .inl (cy 0, 9, .inl (fun _ => 0))), (n4, .inl (cy 3, 8, .inr (.inr (.inr (.inr (fun k9 => if k9 < 8 then some (r5 k9) else none)))))), ((r5 0), .inl (cy 1, 11, .inr (.inl (fun _ => 0)))), ((r5 1), .inl (cy 1, 11, .inr (.inl (fun _ => 0)))), ((r5 2), .inl (cy 1, 11, .inr (.inl (fun _ => 0)))), ((r5 3), .inl (cy 1, 11, .inr (.inl (fun _ => 0)))), ((r5 4), .inl (cy 1, 11, .inr (.inl (fun _ => 0)))), ((r5 5), .inl (cy 1, 11, .inr (.inl (fun _ => 0)))), ((r5 6), .inl (cy 1, 11, .inr (.inl (fun _ => 0)))), ((r5 7), .inl (cy 1, 11, .inr (.inl (fun _ => 0)))), (n6, .inl (cy 3, 9, .inr (.inr (.inr (.inr (fun k9 => if k9 < 9 then some (r7 k9) else none)))))), ((r7 0), .inl (cy 1, 3, .inr (.inl (fun _ => 0)))), ((r7 1), .inl (cy 1, 3, .inr (.inl (fun _ => 0)))), ((r7 2), .inl (cy 1, 3, .inr (.inl (fun _ => 0)))), ((r7 3), .inl (cy 1, 3, .inr (.inl (fun _ => 0)))), ((r7 4), .inl (cy 1, 3, .inr (.inl (fun _ => 0)))), ((r7 5), .inl (cy 1, 3, .inr (.inl (fun _ => 0)))), ((r7 6), .inl (cy 1, 3, .inr (.inl (fun _ => 0)))), ((r7 7), .inl (cy 1, 3, .inr (.inl (fun _ => 0)))), ((r7 8), .inl (cy 1, 3, .inr (.inl (fun _ => 0))))]) (va_runI (As := []) (rest := [.ref n8, .ref h0]) ⟨hx, hb, hml, hown, hts⟩ (k_Wide_init l D cy n8 H.size ) (cwI 0 hts (gz q48) rfl rfl rfl (hts _ q46) (hts _ q47) (hts _ q49) rfl vX8_init.2 ⟨Nat.le_of_ble_eq_true rfl, Nat.le_of_ble_eq_true rfl⟩) (zpS hK hX hY hP hD hS hA [23] (by decide) rfl) rfl rfl hl.1 rfl (lv_room (Nat.le_of_ble_eq_true rfl)) dX4_init_61 ⟨Nat.le_of_ble_eq_true rfl, Nat.le_of_ble_eq_true rfl⟩) hP hD hS hA [23] [0, 1, 2, 3, 4, 5, 6, 7, 8, 9, 10, 11, 12, 13, 14, 15, 16, 17, 18, 19, 20, 21, 22] rfl rfl (by decide) (by decide) (fun u9 H locs hw hP hD hS => ?_)
  have hP : va_P D vwCl [(h0, .inr (7, [.ref p1, .ref n1, .ref n2, .ref n3, .ref n4, .ref n6, .null, .null, .int 0, .long 0, .null, .int 0, .int 0, .long 0])), (n1, .inl (cy 0, 9, .inl (fun _ => 0))), (n2, .inl (cy 2, 9, .inl (fun _ => 0))), (n3, .inl (cy 0, 9, .inl (fun _ => 0))), (n4, .inl (cy 3, 8, .inr (.inr (.inr (.inr (fun k9 => if k9 < 8 then some (r5 k9) else none)))))), ((r5 0), .inl (cy 1, 11, .inr (.inl (fun _ => 0)))), ((r5 1), .inl (cy 1, 11, .inr (.inl (fun _ => 0)))), ((r5 2), .inl (cy 1, 11, .inr (.inl (fun _ => 0)))), ((r5 3), .inl (cy 1, 11, .inr (.inl (fun _ => 0)))), ((r5 4), .inl (cy 1, 11, .inr (.inl (fun _ => 0)))), ((r5 5), .inl (cy 1, 11, .inr (.inl (fun _ => 0)))), ((r5 6), .inl (cy 1, 11, .inr (.inl (fun _ => 0)))), ((r5 7), .inl (cy 1, 11, .inr (.inl (fun _ => 0)))), (n6, .inl (cy 3, 9, .inr (.inr (.inr (.inr (fun k9 => if k9 < 9 then some (r7 k9) else none)))))), ((r7 0), .inl (cy 1, 3, .inr (.inl (fun _ => 0)))), ((r7 1), .inl (cy 1, 3, .inr (.inl (fun _ => 0)))), ((r7 2), .inl (cy 1, 3, .inr (.inl (fun _ => 0)))), ((r7 3), .inl (cy 1, 3, .inr (.inl (fun _ => 0)))), ((r7 4), .inl (cy 1, 3, .inr (.inl (fun _ => 0)))), ((r7 5), .inl (cy 1, 3, .inr (.inl (fun _ => 0)))), ((r7 6), .inl (cy 1, 3, .inr (.inl (fun _ => 0)))), ((r7 7), .inl (cy 1, 3, .inr (.inl (fun _ => 0)))), ((r7 8), .inl (cy 1, 3, .inr (.inl (fun _ => 0))))] H := hP
  have hD : va_D A [(h0, .inr (7, [.ref p1, .ref n1, .ref n2, .ref n3, .ref n4, .ref n6, .null, .null, .int 0, .long 0, .null, .int 0, .int 0, .long 0])), (n1, .inl (cy 0, 9, .inl (fun _ => 0))), (n2, .inl (cy 2, 9, .inl (fun _ => 0))), (n3, .inl (cy 0, 9, .inl (fun _ => 0))), (n4, .inl (cy 3, 8, .inr (.inr (.inr (.inr (fun k9 => if k9 < 8 then some (r5 k9) else none)))))), ((r5 0), .inl (cy 1, 11, .inr (.inl (fun _ => 0)))), ((r5 1), .inl (cy 1, 11, .inr (.inl (fun _ => 0)))), ((r5 2), .inl (cy 1, 11, .inr (.inl (fun _ => 0)))), ((r5 3), .inl (cy 1, 11, .inr (.inl (fun _ => 0)))), ((r5 4), .inl (cy 1, 11, .inr (.inl (fun _ => 0)))), ((r5 5), .inl (cy 1, 11, .inr (.inl (fun _ => 0)))), ((r5 6), .inl (cy 1, 11, .inr (.inl (fun _ => 0)))), ((r5 7), .inl (cy 1, 11, .inr (.inl (fun _ => 0)))), (n6, .inl (cy 3, 9, .inr (.inr (.inr (.inr (fun k9 => if k9 < 9 then some (r7 k9) else none)))))), ((r7 0), .inl (cy 1, 3, .inr (.inl (fun _ => 0)))), ((r7 1), .inl (cy 1, 3, .inr (.inl (fun _ => 0)))), ((r7 2), .inl (cy 1, 3, .inr (.inl (fun _ => 0)))), ((r7 3), .inl (cy 1, 3, .inr (.inl (fun _ => 0)))), ((r7 4), .inl (cy 1, 3, .inr (.inl (fun _ => 0)))), ((r7 5), .inl (cy 1, 3, .inr (.inl (fun _ => 0)))), ((r7 6), .inl (cy 1, 3, .inr (.inl (fun _ => 0)))), ((r7 7), .inl (cy 1, 3, .inr (.inl (fun _ => 0)))), ((r7 8), .inl (cy 1, 3, .inr (.inl (fun _ => 0))))] := hD
  refine va_putF (D := D) (ci := 7) (v := .ref n8) (ty := (tyX4 6)) (C := RX4) (T := TX4) (N := 14) hx hb hts iRX4 tyX4 tyX4_ok nmX4 hown hK hP hD hS 0 rfl rfl 6 (by decide) (hts _ q50) (fun _ h9 => h9) rfl hin rfl (tyX4_ok 6 (by decide)) rfl rfl (Nat.le_of_ble_eq_true rfl) dX4_init_64 (fun H locs hP hD hS => ?_)
  have hP : va_P D vwCl [(h0, .inr (7, [.ref p1, .ref n1, .ref n2, .ref n3, .ref n4, .ref n6, .ref n8, .null, .int 0, .long 0, .null, .int 0, .int 0, .long 0])), (n1, .inl (cy 0, 9, .inl (fun _ => 0))), (n2, .inl (cy 2, 9, .inl (fun _ => 0))), (n3, .inl (cy 0, 9, .inl (fun _ => 0))), (n4, .inl (cy 3, 8, .inr (.inr (.inr (.inr (fun k9 => if k9 < 8 then some (r5 k9) else none)))))), ((r5 0), .inl (cy 1, 11, .inr (.inl (fun _ => 0)))), ((r5 1), .inl (cy 1, 11, .inr (.inl (fun _ => 0)))), ((r5 2), .inl (cy 1, 11, .inr (.inl (fun _ => 0)))), ((r5 3), .inl (cy 1, 11, .inr (.inl (fun _ => 0)))), ((r5 4), .inl (cy 1, 11, .inr (.inl (fun _ => 0)))), ((r5 5), .inl (cy 1, 11, .inr (.inl (fun _ => 0)))), ((r5 6), .inl (cy 1, 11, .inr (.inl (fun _ => 0)))), ((r5 7), .inl (cy 1, 11, .inr (.inl (fun _ => 0)))), (n6, .inl (cy 3, 9, .inr (.inr (.inr (.inr (fun k9 => if k9 < 9 then some (r7 k9) else none)))))), ((r7 0), .inl (cy 1, 3, .inr (.inl (fun _ => 0)))), ((r7 1), .inl (cy 1, 3, .inr (.inl (fun _ => 0)))), ((r7 2), .inl (cy 1, 3, .inr (.inl (fun _ => 0)))), ((r7 3), .inl (cy 1, 3, .inr (.inl (fun _ => 0)))), ((r7 4), .inl (cy 1, 3, .inr (.inl (fun _ => 0)))), ((r7 5), .inl (cy 1, 3, .inr (.inl (fun _ => 0)))), ((r7 6), .inl (cy 1, 3, .inr (.inl (fun _ => 0)))), ((r7 7), .inl (cy 1, 3, .inr (.inl (fun _ => 0)))), ((r7 8), .inl (cy 1, 3, .inr (.inl (fun _ => 0))))] H := hP
  have hD : va_D A [(h0, .inr (7, [.ref p1, .ref n1, .ref n2, .ref n3, .ref n4, .ref n6, .ref n8, .null, .int 0, .long 0, .null, .int 0, .int 0, .long 0])), (n1, .inl (cy 0, 9, .inl (fun _ => 0))), (n2, .inl (cy 2, 9, .inl (fun _ => 0))), (n3, .inl (cy 0, 9, .inl (fun _ => 0))), (n4, .inl (cy 3, 8, .inr (.inr (.inr (.inr (fun k9 => if k9 < 8 then some (r5 k9) else none)))))), ((r5 0), .inl (cy 1, 11, .inr (.inl (fun _ => 0)))), ((r5 1), .inl (cy 1, 11, .inr (.inl (fun _ => 0)))), ((r5 2), .inl (cy 1, 11, .inr (.inl (fun _ => 0)))), ((r5 3), .inl (cy 1, 11, .inr (.inl (fun _ => 0)))), ((r5 4), .inl (cy 1, 11, .inr (.inl (fun _ => 0)))), ((r5 5), .inl (cy 1, 11, .inr (.inl (fun _ => 0)))), ((r5 6), .inl (cy 1, 11, .inr (.inl (fun _ => 0)))), ((r5 7), .inl (cy 1, 11, .inr (.inl (fun _ => 0)))), (n6, .inl (cy 3, 9, .inr (.inr (.inr (.inr (fun k9 => if k9 < 9 then some (r7 k9) else none)))))), ((r7 0), .inl (cy 1, 3, .inr (.inl (fun _ => 0)))), ((r7 1), .inl (cy 1, 3, .inr (.inl (fun _ => 0)))), ((r7 2), .inl (cy 1, 3, .inr (.inl (fun _ => 0)))), ((r7 3), .inl (cy 1, 3, .inr (.inl (fun _ => 0)))), ((r7 4), .inl (cy 1, 3, .inr (.inl (fun _ => 0)))), ((r7 5), .inl (cy 1, 3, .inr (.inl (fun _ => 0)))), ((r7 6), .inl (cy 1, 3, .inr (.inl (fun _ => 0)))), ((r7 7), .inl (cy 1, 3, .inr (.inl (fun _ => 0)))), ((r7 8), .inl (cy 1, 3, .inr (.inl (fun _ => 0))))] := hD
  refine lv_aload_n hx hb dX4_init_67 rfl (lv_at hl 0 rfl) ?_
  refine va_new (ci := 11) (fs := [.long 0, .long 0]) (C := RX8) (T := TX8) (N := 2) hx hb hts iRX8 tyX8 tyX8_ok hown (hts _ q44) (hts _ q45) (hts _ q46) hK hP hD hS hA rfl (fun j hj => by rcases (show j = 0 ∨ j = 1 by omega) with rfl | rfl <;> rfl) (Nat.le_of_ble_eq_true rfl) (Nat.le_of_ble_eq_true rfl) dX4_init_68 (fun n11 H hP hD hS => ?_)
  have hP : va_P D vwCl [(h0, .inr (7, [.ref p1, .ref n1, .ref n2, .ref n3, .ref n4, .ref n6, .ref n8, .null, .int 0, .long 0, .null, .int 0, .int 0, .long 0])), (n1, .inl (cy 0, 9, .inl (fun _ => 0))), (n2, .inl (cy 2, 9, .inl (fun _ => 0))), (n3, .inl (cy 0, 9, .inl (fun _ => 0))), (n4, .inl (cy 3, 8, .inr (.inr (.inr (.inr (fun k9 => if k9 < 8 then some (r5 k9) else none)))))), ((r5 0), .inl (cy 1, 11, .inr (.inl (fun _ => 0)))), ((r5 1), .inl (cy 1, 11, .inr (.inl (fun _ => 0)))), ((r5 2), .inl (cy 1, 11, .inr (.inl (fun _ => 0)))), ((r5 3), .inl (cy 1, 11, .inr (.inl (fun _ => 0)))), ((r5 4), .inl (cy 1, 11, .inr (.inl (fun _ => 0)))), ((r5 5), .inl (cy 1, 11, .inr (.inl (fun _ => 0)))), ((r5 6), .inl (cy 1, 11, .inr (.inl (fun _ => 0)))), ((r5 7), .inl (cy 1, 11, .inr (.inl (fun _ => 0)))), (n6, .inl (cy 3, 9, .inr (.inr (.inr (.inr (fun k9 => if k9 < 9 then some (r7 k9) else none)))))), ((r7 0), .inl (cy 1, 3, .inr (.inl (fun _ => 0)))), ((r7 1), .inl (cy 1, 3, .inr (.inl (fun _ => 0)))), ((r7 2), .inl (cy 1, 3, .inr (.inl (fun _ => 0)))), ((r7 3), .inl (cy 1, 3, .inr (.inl (fun _ => 0)))), ((r7 4), .inl (cy 1, 3, .inr (.inl (fun _ => 0)))), ((r7 5), .inl (cy 1, 3, .inr (.inl (fun _ => 0)))), ((r7 6), .inl (cy 1, 3, .inr (.inl (fun _ => 0)))), ((r7 7), .inl (cy 1, 3, .inr (.inl (fun _ => 0)))), ((r7 8), .inl (cy 1, 3, .inr (.inl (fun _ => 0)))), (n11, .inr (11, [.long 0, .long 0]))] H := hP
  have hD : va_D A [(h0, .inr (7, [.ref p1, .ref n1, .ref n2, .ref n3, .ref n4, .ref n6, .ref n8, .null, .int 0, .long 0, .null, .int 0, .int 0, .long 0])), (n1, .inl (cy 0, 9, .inl (fun _ => 0))), (n2, .inl (cy 2, 9, .inl (fun _ => 0))), (n3, .inl (cy 0, 9, .inl (fun _ => 0))), (n4, .inl (cy 3, 8, .inr (.inr (.inr (.inr (fun k9 => if k9 < 8 then some (r5 k9) else none)))))), ((r5 0), .inl (cy 1, 11, .inr (.inl (fun _ => 0)))), ((r5 1), .inl (cy 1, 11, .inr (.inl (fun _ => 0)))), ((r5 2), .inl (cy 1, 11, .inr (.inl (fun _ => 0)))), ((r5 3), .inl (cy 1, 11, .inr (.inl (fun _ => 0)))), ((r5 4), .inl (cy 1, 11, .inr (.inl (fun _ => 0)))), ((r5 5), .inl (cy 1, 11, .inr (.inl (fun _ => 0)))), ((r5 6), .inl (cy 1, 11, .inr (.inl (fun _ => 0)))), ((r5 7), .inl (cy 1, 11, .inr (.inl (fun _ => 0)))), (n6, .inl (cy 3, 9, .inr (.inr (.inr (.inr (fun k9 => if k9 < 9 then some (r7 k9) else none)))))), ((r7 0), .inl (cy 1, 3, .inr (.inl (fun _ => 0)))), ((r7 1), .inl (cy 1, 3, .inr (.inl (fun _ => 0)))), ((r7 2), .inl (cy 1, 3, .inr (.inl (fun _ => 0)))), ((r7 3), .inl (cy 1, 3, .inr (.inl (fun _ => 0)))), ((r7 4), .inl (cy 1, 3, .inr (.inl (fun _ => 0)))), ((r7 5), .inl (cy 1, 3, .inr (.inl (fun _ => 0)))), ((r7 6), .inl (cy 1, 3, .inr (.inl (fun _ => 0)))), ((r7 7), .inl (cy 1, 3, .inr (.inl (fun _ => 0)))), ((r7 8), .inl (cy 1, 3, .inr (.inl (fun _ => 0)))), (n11, .inr (11, [.long 0, .long 0]))] := hD
  refine W.widen (k := 24) (n := 163) (by omega) (by omega) ?_
  refine lv_dup hx hb dX4_init_71 rfl ?_
  refine zq_v (wc := [(n11, .inr (11, [.long 0, .long 0]))]) (wr := [(h0, .inr (7, [.ref p1, .ref n1, .ref n2, .ref n3, .ref n4, .ref n6, .ref n8, .null, .int 0, .long 0, .null, .int 0, .int 0, .long 0])), (n1, .inl (cy 0, 9, .inl (fun _ => 0))), (n2, .inl (cy 2, 9, .inl (fun _ => 0))), (n3, .inl (cy 0, 9, .inl (fun _ => 0))), (n4, .inl (cy 3, 8, .inr (.inr (.inr (.inr (fun k9 => if k9 < 8 then some (r5 k9) else none)))))), ((r5 0), .inl (cy 1, 11, .inr (.inl (fun _ => 0)))), ((r5 1), .inl (cy 1, 11, .inr (.inl (fun _ => 0)))), ((r5 2), .inl (cy 1, 11, .inr (.inl (fun _ => 0)))), ((r5 3), .inl (cy 1, 11, .inr (.inl (fun _ => 0)))), ((r5 4), .inl (cy 1, 11, .inr (.inl (fun _ => 0)))), ((r5 5), .inl (cy 1, 11, .inr (.inl (fun _ => 0)))), ((r5 6), .inl (cy 1, 11, .inr (.inl (fun _ => 0)))), ((r5 7), .inl (cy 1, 11, .inr (.inl (fun _ => 0)))), (n6, .inl (cy 3, 9, .inr (.inr (.inr (.inr (fun k9 => if k9 < 9 then some (r7 k9) else none)))))), ((r7 0), .inl (cy 1, 3, .inr (.inl (fun _ => 0)))), ((r7 1), .inl (cy 1, 3, .inr (.inl (fun _ => 0)))), ((r7 2), .inl (cy 1, 3, .inr (.inl (fun _ => 0)))), ((r7 3), .inl (cy 1, 3, .inr (.inl (fun _ => 0)))), ((r7 4), .inl (cy 1, 3, .inr (.inl (fun _ => 0)))), ((r7 5), .inl (cy 1, 3, .inr (.inl (fun _ => 0)))), ((r7 6), .inl (cy 1, 3, .inr (.inl (fun _ => 0)))), ((r7 7), .inl (cy 1, 3, .inr (.inl (fun _ => 0)))), ((r7 8), .inl (cy 1, 3, .inr (.inl (fun _ => 0))))]) (va_runI (As := []) (rest := [.ref n11, .ref h0]) ⟨hx, hb, hml, hown, hts⟩ (k_Wide_init l D cy n11 H.size ) (cwI 0 hts (gz q48) rfl rfl rfl (hts _ q46) (hts _ q47) (hts _ q49) rfl vX8_init.2 ⟨Nat.le_of_ble_eq_true rfl, Nat.le_of_ble_eq_true rfl⟩) (zpS hK hX hY hP hD hS hA [23] (by decide) rfl) rfl rfl hl.1 rfl (lv_room (Nat.le_of_ble_eq_true rfl)) dX4_init_72 ⟨Nat.le_of_ble_eq_true rfl, Nat.le_of_ble_eq_true rfl⟩) hP hD hS hA [23] [0, 1, 2, 3, 4, 5, 6, 7, 8, 9, 10, 11, 12, 13, 14, 15, 16, 17, 18, 19, 20, 21, 22] rfl rfl (by decide) (by decide) (fun u12 H locs hw hP hD hS => ?_)
  have hP : va_P D vwCl [(h0, .inr (7, [.ref p1, .ref n1, .ref n2, .ref n3, .ref n4, .ref n6, .ref n8, .null, .int 0, .long 0, .null, .int 0, .int 0, .long 0])), (n1, .inl (cy 0, 9, .inl (fun _ => 0))), (n2, .inl (cy 2, 9, .inl (fun _ => 0))), (n3, .inl (cy 0, 9, .inl (fun _ => 0))), (n4, .inl (cy 3, 8, .inr (.inr (.inr (.inr (fun k9 => if k9 < 8 then some (r5 k9) else none)))))), ((r5 0), .inl (cy 1, 11, .inr (.inl (fun _ => 0)))), ((r5 1), .inl (cy 1, 11, .inr (.inl (fun _ => 0)))), ((r5 2), .inl (cy 1, 11, .inr (.inl (fun _ => 0)))), ((r5 3), .inl (cy 1, 11, .inr (.inl (fun _ => 0)))), ((r5 4), .inl (cy 1, 11, .inr (.inl (fun _ => 0)))), ((r5 5), .inl (cy 1, 11, .inr (.inl (fun _ => 0)))), ((r5 6), .inl (cy 1, 11, .inr (.inl (fun _ => 0)))), ((r5 7), .inl (cy 1, 11, .inr (.inl (fun _ => 0)))), (n6, .inl (cy 3, 9, .inr (.inr (.inr (.inr (fun k9 => if k9 < 9 then some (r7 k9) else none)))))), ((r7 0), .inl (cy 1, 3, .inr (.inl (fun _ => 0)))), ((r7 1), .inl (cy 1, 3, .inr (.inl (fun _ => 0)))), ((r7 2), .inl (cy 1, 3, .inr (.inl (fun _ => 0)))), ((r7 3), .inl (cy 1, 3, .inr (.inl (fun _ => 0)))), ((r7 4), .inl (cy 1, 3, .inr (.inl (fun _ => 0)))), ((r7 5), .inl (cy 1, 3, .inr (.inl (fun _ => 0)))), ((r7 6), .inl (cy 1, 3, .inr (.inl (fun _ => 0)))), ((r7 7), .inl (cy 1, 3, .inr (.inl (fun _ => 0)))), ((r7 8), .inl (cy 1, 3, .inr (.inl (fun _ => 0))))] H := hP
  have hD : va_D A [(h0, .inr (7, [.ref p1, .ref n1, .ref n2, .ref n3, .ref n4, .ref n6, .ref n8, .null, .int 0, .long 0, .null, .int 0, .int 0, .long 0])), (n1, .inl (cy 0, 9, .inl (fun _ => 0))), (n2, .inl (cy 2, 9, .inl (fun _ => 0))), (n3, .inl (cy 0, 9, .inl (fun _ => 0))), (n4, .inl (cy 3, 8, .inr (.inr (.inr (.inr (fun k9 => if k9 < 8 then some (r5 k9) else none)))))), ((r5 0), .inl (cy 1, 11, .inr (.inl (fun _ => 0)))), ((r5 1), .inl (cy 1, 11, .inr (.inl (fun _ => 0)))), ((r5 2), .inl (cy 1, 11, .inr (.inl (fun _ => 0)))), ((r5 3), .inl (cy 1, 11, .inr (.inl (fun _ => 0)))), ((r5 4), .inl (cy 1, 11, .inr (.inl (fun _ => 0)))), ((r5 5), .inl (cy 1, 11, .inr (.inl (fun _ => 0)))), ((r5 6), .inl (cy 1, 11, .inr (.inl (fun _ => 0)))), ((r5 7), .inl (cy 1, 11, .inr (.inl (fun _ => 0)))), (n6, .inl (cy 3, 9, .inr (.inr (.inr (.inr (fun k9 => if k9 < 9 then some (r7 k9) else none)))))), ((r7 0), .inl (cy 1, 3, .inr (.inl (fun _ => 0)))), ((r7 1), .inl (cy 1, 3, .inr (.inl (fun _ => 0)))), ((r7 2), .inl (cy 1, 3, .inr (.inl (fun _ => 0)))), ((r7 3), .inl (cy 1, 3, .inr (.inl (fun _ => 0)))), ((r7 4), .inl (cy 1, 3, .inr (.inl (fun _ => 0)))), ((r7 5), .inl (cy 1, 3, .inr (.inl (fun _ => 0)))), ((r7 6), .inl (cy 1, 3, .inr (.inl (fun _ => 0)))), ((r7 7), .inl (cy 1, 3, .inr (.inl (fun _ => 0)))), ((r7 8), .inl (cy 1, 3, .inr (.inl (fun _ => 0))))] := hD
  refine va_putF (D := D) (ci := 7) (v := .ref n11) (ty := (tyX4 7)) (C := RX4) (T := TX4) (N := 14) hx hb hts iRX4 tyX4 tyX4_ok nmX4 hown hK hP hD hS 0 rfl rfl 7 (by decide) (hts _ q51) (fun _ h9 => h9) rfl hin rfl (tyX4_ok 7 (by decide)) rfl rfl (Nat.le_of_ble_eq_true rfl) dX4_init_75 (fun H locs hP hD hS => ?_)
  have hP : va_P D vwCl [(h0, .inr (7, [.ref p1, .ref n1, .ref n2, .ref n3, .ref n4, .ref n6, .ref n8, .ref n11, .int 0, .long 0, .null, .int 0, .int 0, .long 0])), (n1, .inl (cy 0, 9, .inl (fun _ => 0))), (n2, .inl (cy 2, 9, .inl (fun _ => 0))), (n3, .inl (cy 0, 9, .inl (fun _ => 0))), (n4, .inl (cy 3, 8, .inr (.inr (.inr (.inr (fun k9 => if k9 < 8 then some (r5 k9) else none)))))), ((r5 0), .inl (cy 1, 11, .inr (.inl (fun _ => 0)))), ((r5 1), .inl (cy 1, 11, .inr (.inl (fun _ => 0)))), ((r5 2), .inl (cy 1, 11, .inr (.inl (fun _ => 0)))), ((r5 3), .inl (cy 1, 11, .inr (.inl (fun _ => 0)))), ((r5 4), .inl (cy 1, 11, .inr (.inl (fun _ => 0)))), ((r5 5), .inl (cy 1, 11, .inr (.inl (fun _ => 0)))), ((r5 6), .inl (cy 1, 11, .inr (.inl (fun _ => 0)))), ((r5 7), .inl (cy 1, 11, .inr (.inl (fun _ => 0)))), (n6, .inl (cy 3, 9, .inr (.inr (.inr (.inr (fun k9 => if k9 < 9 then some (r7 k9) else none)))))), ((r7 0), .inl (cy 1, 3, .inr (.inl (fun _ => 0)))), ((r7 1), .inl (cy 1, 3, .inr (.inl (fun _ => 0)))), ((r7 2), .inl (cy 1, 3, .inr (.inl (fun _ => 0)))), ((r7 3), .inl (cy 1, 3, .inr (.inl (fun _ => 0)))), ((r7 4), .inl (cy 1, 3, .inr (.inl (fun _ => 0)))), ((r7 5), .inl (cy 1, 3, .inr (.inl (fun _ => 0)))), ((r7 6), .inl (cy 1, 3, .inr (.inl (fun _ => 0)))), ((r7 7), .inl (cy 1, 3, .inr (.inl (fun _ => 0)))), ((r7 8), .inl (cy 1, 3, .inr (.inl (fun _ => 0))))] H := hP
  have hD : va_D A [(h0, .inr (7, [.ref p1, .ref n1, .ref n2, .ref n3, .ref n4, .ref n6, .ref n8, .ref n11, .int 0, .long 0, .null, .int 0, .int 0, .long 0])), (n1, .inl (cy 0, 9, .inl (fun _ => 0))), (n2, .inl (cy 2, 9, .inl (fun _ => 0))), (n3, .inl (cy 0, 9, .inl (fun _ => 0))), (n4, .inl (cy 3, 8, .inr (.inr (.inr (.inr (fun k9 => if k9 < 8 then some (r5 k9) else none)))))), ((r5 0), .inl (cy 1, 11, .inr (.inl (fun _ => 0)))), ((r5 1), .inl (cy 1, 11, .inr (.inl (fun _ => 0)))), ((r5 2), .inl (cy 1, 11, .inr (.inl (fun _ => 0)))), ((r5 3), .inl (cy 1, 11, .inr (.inl (fun _ => 0)))), ((r5 4), .inl (cy 1, 11, .inr (.inl (fun _ => 0)))), ((r5 5), .inl (cy 1, 11, .inr (.inl (fun _ => 0)))), ((r5 6), .inl (cy 1, 11, .inr (.inl (fun _ => 0)))), ((r5 7), .inl (cy 1, 11, .inr (.inl (fun _ => 0)))), (n6, .inl (cy 3, 9, .inr (.inr (.inr (.inr (fun k9 => if k9 < 9 then some (r7 k9) else none)))))), ((r7 0), .inl (cy 1, 3, .inr (.inl (fun _ => 0)))), ((r7 1), .inl (cy 1, 3, .inr (.inl (fun _ => 0)))), ((r7 2), .inl (cy 1, 3, .inr (.inl (fun _ => 0)))), ((r7 3), .inl (cy 1, 3, .inr (.inl (fun _ => 0)))), ((r7 4), .inl (cy 1, 3, .inr (.inl (fun _ => 0)))), ((r7 5), .inl (cy 1, 3, .inr (.inl (fun _ => 0)))), ((r7 6), .inl (cy 1, 3, .inr (.inl (fun _ => 0)))), ((r7 7), .inl (cy 1, 3, .inr (.inl (fun _ => 0)))), ((r7 8), .inl (cy 1, 3, .inr (.inl (fun _ => 0))))] := hD
  refine lv_aload_n hx hb dX4_init_78 rfl (lv_at hl 0 rfl) ?_
  refine lv_bipush (v := 24) hx hb dX4_init_79 (by decide) ?_
  refine z_newa (atype := .boolean) hx hb (hts _ q37) rfl hK hP hD hS hA 2 rfl (a0 := (24, .inl (fun _ => 0))) (fun _ => rfl) (by decide) (by decide) (by decide) (Nat.le_of_ble_eq_true rfl) (Nat.le_of_ble_eq_true rfl) dX4_init_81 (fun n14 H hP hD hS => ?_)
  have hP : va_P D vwCl [(h0, .inr (7, [.ref p1, .ref n1, .ref n2, .ref n3, .ref n4, .ref n6, .ref n8, .ref n11, .int 0, .long 0, .null, .int 0, .int 0, .long 0])), (n1, .inl (cy 0, 9, .inl (fun _ => 0))), (n2, .inl (cy 2, 9, .inl (fun _ => 0))), (n3, .inl (cy 0, 9, .inl (fun _ => 0))), (n4, .inl (cy 3, 8, .inr (.inr (.inr (.inr (fun k9 => if k9 < 8 then some (r5 k9) else none)))))), ((r5 0), .inl (cy 1, 11, .inr (.inl (fun _ => 0)))), ((r5 1), .inl (cy 1, 11, .inr (.inl (fun _ => 0)))), ((r5 2), .inl (cy 1, 11, .inr (.inl (fun _ => 0)))), ((r5 3), .inl (cy 1, 11, .inr (.inl (fun _ => 0)))), ((r5 4), .inl (cy 1, 11, .inr (.inl (fun _ => 0)))), ((r5 5), .inl (cy 1, 11, .inr (.inl (fun _ => 0)))), ((r5 6), .inl (cy 1, 11, .inr (.inl (fun _ => 0)))), ((r5 7), .inl (cy 1, 11, .inr (.inl (fun _ => 0)))), (n6, .inl (cy 3, 9, .inr (.inr (.inr (.inr (fun k9 => if k9 < 9 then some (r7 k9) else none)))))), ((r7 0), .inl (cy 1, 3, .inr (.inl (fun _ => 0)))), ((r7 1), .inl (cy 1, 3, .inr (.inl (fun _ => 0)))), ((r7 2), .inl (cy 1, 3, .inr (.inl (fun _ => 0)))), ((r7 3), .inl (cy 1, 3, .inr (.inl (fun _ => 0)))), ((r7 4), .inl (cy 1, 3, .inr (.inl (fun _ => 0)))), ((r7 5), .inl (cy 1, 3, .inr (.inl (fun _ => 0)))), ((r7 6), .inl (cy 1, 3, .inr (.inl (fun _ => 0)))), ((r7 7), .inl (cy 1, 3, .inr (.inl (fun _ => 0)))), ((r7 8), .inl (cy 1, 3, .inr (.inl (fun _ => 0)))), (n14, .inl (cy 2, 24, .inl (fun _ => 0)))] H := hP
  have hD : va_D A [(h0, .inr (7, [.ref p1, .ref n1, .ref n2, .ref n3, .ref n4, .ref n6, .ref n8, .ref n11, .int 0, .long 0, .null, .int 0, .int 0, .long 0])), (n1, .inl (cy 0, 9, .inl (fun _ => 0))), (n2, .inl (cy 2, 9, .inl (fun _ => 0))), (n3, .inl (cy 0, 9, .inl (fun _ => 0))), (n4, .inl (cy 3, 8, .inr (.inr (.inr (.inr (fun k9 => if k9 < 8 then some (r5 k9) else none)))))), ((r5 0), .inl (cy 1, 11, .inr (.inl (fun _ => 0)))), ((r5 1), .inl (cy 1, 11, .inr (.inl (fun _ => 0)))), ((r5 2), .inl (cy 1, 11, .inr (.inl (fun _ => 0)))), ((r5 3), .inl (cy 1, 11, .inr (.inl (fun _ => 0)))), ((r5 4), .inl (cy 1, 11, .inr (.inl (fun _ => 0)))), ((r5 5), .inl (cy 1, 11, .inr (.inl (fun _ => 0)))), ((r5 6), .inl (cy 1, 11, .inr (.inl (fun _ => 0)))), ((r5 7), .inl (cy 1, 11, .inr (.inl (fun _ => 0)))), (n6, .inl (cy 3, 9, .inr (.inr (.inr (.inr (fun k9 => if k9 < 9 then some (r7 k9) else none)))))), ((r7 0), .inl (cy 1, 3, .inr (.inl (fun _ => 0)))), ((r7 1), .inl (cy 1, 3, .inr (.inl (fun _ => 0)))), ((r7 2), .inl (cy 1, 3, .inr (.inl (fun _ => 0)))), ((r7 3), .inl (cy 1, 3, .inr (.inl (fun _ => 0)))), ((r7 4), .inl (cy 1, 3, .inr (.inl (fun _ => 0)))), ((r7 5), .inl (cy 1, 3, .inr (.inl (fun _ => 0)))), ((r7 6), .inl (cy 1, 3, .inr (.inl (fun _ => 0)))), ((r7 7), .inl (cy 1, 3, .inr (.inl (fun _ => 0)))), ((r7 8), .inl (cy 1, 3, .inr (.inl (fun _ => 0)))), (n14, .inl (cy 2, 24, .inl (fun _ => 0)))] := hD
  refine W.widen (k := 25) (n := 187) (by omega) (by omega) ?_
  refine va_putF (D := D) (ci := 7) (v := .ref n14) (ty := (tyX4 10)) (C := RX4) (T := TX4) (N := 14) hx hb hts iRX4 tyX4 tyX4_ok nmX4 hown hK hP hD hS 0 rfl rfl 10 (by decide) (hts _ q52) (fun _ h9 => h9) rfl hin rfl (tyX4_ok 10 (by decide)) rfl rfl (Nat.le_of_ble_eq_true rfl) dX4_init_83 (fun H locs hP hD hS => ?_)
  have hP : va_P D vwCl [(h0, .inr (7, [.ref p1, .ref n1, .ref n2, .ref n3, .ref n4, .ref n6, .ref n8, .ref n11, .int 0, .long 0, .ref n14, .int 0, .int 0, .long 0])), (n1, .inl (cy 0, 9, .inl (fun _ => 0))), (n2, .inl (cy 2, 9, .inl (fun _ => 0))), (n3, .inl (cy 0, 9, .inl (fun _ => 0))), (n4, .inl (cy 3, 8, .inr (.inr (.inr (.inr (fun k9 => if k9 < 8 then some (r5 k9) else none)))))), ((r5 0), .inl (cy 1, 11, .inr (.inl (fun _ => 0)))), ((r5 1), .inl (cy 1, 11, .inr (.inl (fun _ => 0)))), ((r5 2), .inl (cy 1, 11, .inr (.inl (fun _ => 0)))), ((r5 3), .inl (cy 1, 11, .inr (.inl (fun _ => 0)))), ((r5 4), .inl (cy 1, 11, .inr (.inl (fun _ => 0)))), ((r5 5), .inl (cy 1, 11, .inr (.inl (fun _ => 0)))), ((r5 6), .inl (cy 1, 11, .inr (.inl (fun _ => 0)))), ((r5 7), .inl (cy 1, 11, .inr (.inl (fun _ => 0)))), (n6, .inl (cy 3, 9, .inr (.inr (.inr (.inr (fun k9 => if k9 < 9 then some (r7 k9) else none)))))), ((r7 0), .inl (cy 1, 3, .inr (.inl (fun _ => 0)))), ((r7 1), .inl (cy 1, 3, .inr (.inl (fun _ => 0)))), ((r7 2), .inl (cy 1, 3, .inr (.inl (fun _ => 0)))), ((r7 3), .inl (cy 1, 3, .inr (.inl (fun _ => 0)))), ((r7 4), .inl (cy 1, 3, .inr (.inl (fun _ => 0)))), ((r7 5), .inl (cy 1, 3, .inr (.inl (fun _ => 0)))), ((r7 6), .inl (cy 1, 3, .inr (.inl (fun _ => 0)))), ((r7 7), .inl (cy 1, 3, .inr (.inl (fun _ => 0)))), ((r7 8), .inl (cy 1, 3, .inr (.inl (fun _ => 0)))), (n14, .inl (cy 2, 24, .inl (fun _ => 0)))] H := hP
  have hD : va_D A [(h0, .inr (7, [.ref p1, .ref n1, .ref n2, .ref n3, .ref n4, .ref n6, .ref n8, .ref n11, .int 0, .long 0, .ref n14, .int 0, .int 0, .long 0])), (n1, .inl (cy 0, 9, .inl (fun _ => 0))), (n2, .inl (cy 2, 9, .inl (fun _ => 0))), (n3, .inl (cy 0, 9, .inl (fun _ => 0))), (n4, .inl (cy 3, 8, .inr (.inr (.inr (.inr (fun k9 => if k9 < 8 then some (r5 k9) else none)))))), ((r5 0), .inl (cy 1, 11, .inr (.inl (fun _ => 0)))), ((r5 1), .inl (cy 1, 11, .inr (.inl (fun _ => 0)))), ((r5 2), .inl (cy 1, 11, .inr (.inl (fun _ => 0)))), ((r5 3), .inl (cy 1, 11, .inr (.inl (fun _ => 0)))), ((r5 4), .inl (cy 1, 11, .inr (.inl (fun _ => 0)))), ((r5 5), .inl (cy 1, 11, .inr (.inl (fun _ => 0)))), ((r5 6), .inl (cy 1, 11, .inr (.inl (fun _ => 0)))), ((r5 7), .inl (cy 1, 11, .inr (.inl (fun _ => 0)))), (n6, .inl (cy 3, 9, .inr (.inr (.inr (.inr (fun k9 => if k9 < 9 then some (r7 k9) else none)))))), ((r7 0), .inl (cy 1, 3, .inr (.inl (fun _ => 0)))), ((r7 1), .inl (cy 1, 3, .inr (.inl (fun _ => 0)))), ((r7 2), .inl (cy 1, 3, .inr (.inl (fun _ => 0)))), ((r7 3), .inl (cy 1, 3, .inr (.inl (fun _ => 0)))), ((r7 4), .inl (cy 1, 3, .inr (.inl (fun _ => 0)))), ((r7 5), .inl (cy 1, 3, .inr (.inl (fun _ => 0)))), ((r7 6), .inl (cy 1, 3, .inr (.inl (fun _ => 0)))), ((r7 7), .inl (cy 1, 3, .inr (.inl (fun _ => 0)))), ((r7 8), .inl (cy 1, 3, .inr (.inl (fun _ => 0)))), (n14, .inl (cy 2, 24, .inl (fun _ => 0)))] := hD
  refine lv_aload_n hx hb dX4_init_86 rfl (lv_at hl 0 rfl) ?_
  refine lv_lconst (v := 1) hx hb dX4_init_87 rfl ?_
  refine va_put (D := D) (ci := 7) (v := .long 1) (ty := .long) (C := RX4) (T := TX4) (N := 14) hx hb hts iRX4 tyX4 tyX4_ok nmX4 hown hK hP hD hS 0 rfl rfl 13 (by decide) (hts _ q53) (fun _ h9 => h9) rfl (tyX4_ok 13 (by decide)) rfl rfl (Nat.le_of_ble_eq_true rfl) dX4_init_88 (fun H locs hP hD hS => ?_)
  have hP : va_P D vwCl [(h0, .inr (7, [.ref p1, .ref n1, .ref n2, .ref n3, .ref n4, .ref n6, .ref n8, .ref n11, .int 0, .long 0, .ref n14, .int 0, .int 0, .long 1])), (n1, .inl (cy 0, 9, .inl (fun _ => 0))), (n2, .inl (cy 2, 9, .inl (fun _ => 0))), (n3, .inl (cy 0, 9, .inl (fun _ => 0))), (n4, .inl (cy 3, 8, .inr (.inr (.inr (.inr (fun k9 => if k9 < 8 then some (r5 k9) else none)))))), ((r5 0), .inl (cy 1, 11, .inr (.inl (fun _ => 0)))), ((r5 1), .inl (cy 1, 11, .inr (.inl (fun _ => 0)))), ((r5 2), .inl (cy 1, 11, .inr (.inl (fun _ => 0)))), ((r5 3), .inl (cy 1, 11, .inr (.inl (fun _ => 0)))), ((r5 4), .inl (cy 1, 11, .inr (.inl (fun _ => 0)))), ((r5 5), .inl (cy 1, 11, .inr (.inl (fun _ => 0)))), ((r5 6), .inl (cy 1, 11, .inr (.inl (fun _ => 0)))), ((r5 7), .inl (cy 1, 11, .inr (.inl (fun _ => 0)))), (n6, .inl (cy 3, 9, .inr (.inr (.inr (.inr (fun k9 => if k9 < 9 then some (r7 k9) else none)))))), ((r7 0), .inl (cy 1, 3, .inr (.inl (fun _ => 0)))), ((r7 1), .inl (cy 1, 3, .inr (.inl (fun _ => 0)))), ((r7 2), .inl (cy 1, 3, .inr (.inl (fun _ => 0)))), ((r7 3), .inl (cy 1, 3, .inr (.inl (fun _ => 0)))), ((r7 4), .inl (cy 1, 3, .inr (.inl (fun _ => 0)))), ((r7 5), .inl (cy 1, 3, .inr (.inl (fun _ => 0)))), ((r7 6), .inl (cy 1, 3, .inr (.inl (fun _ => 0)))), ((r7 7), .inl (cy 1, 3, .inr (.inl (fun _ => 0)))), ((r7 8), .inl (cy 1, 3, .inr (.inl (fun _ => 0)))), (n14, .inl (cy 2, 24, .inl (fun _ => 0)))] H := hP
  have hD : va_D A [(h0, .inr (7, [.ref p1, .ref n1, .ref n2, .ref n3, .ref n4, .ref n6, .ref n8, .ref n11, .int 0, .long 0, .ref n14, .int 0, .int 0, .long 1])), (n1, .inl (cy 0, 9, .inl (fun _ => 0))), (n2, .inl (cy 2, 9, .inl (fun _ => 0))), (n3, .inl (cy 0, 9, .inl (fun _ => 0))), (n4, .inl (cy 3, 8, .inr (.inr (.inr (.inr (fun k9 => if k9 < 8 then some (r5 k9) else none)))))), ((r5 0), .inl (cy 1, 11, .inr (.inl (fun _ => 0)))), ((r5 1), .inl (cy 1, 11, .inr (.inl (fun _ => 0)))), ((r5 2), .inl (cy 1, 11, .inr (.inl (fun _ => 0)))), ((r5 3), .inl (cy 1, 11, .inr (.inl (fun _ => 0)))), ((r5 4), .inl (cy 1, 11, .inr (.inl (fun _ => 0)))), ((r5 5), .inl (cy 1, 11, .inr (.inl (fun _ => 0)))), ((r5 6), .inl (cy 1, 11, .inr (.inl (fun _ => 0)))), ((r5 7), .inl (cy 1, 11, .inr (.inl (fun _ => 0)))), (n6, .inl (cy 3, 9, .inr (.inr (.inr (.inr (fun k9 => if k9 < 9 then some (r7 k9) else none)))))), ((r7 0), .inl (cy 1, 3, .inr (.inl (fun _ => 0)))), ((r7 1), .inl (cy 1, 3, .inr (.inl (fun _ => 0)))), ((r7 2), .inl (cy 1, 3, .inr (.inl (fun _ => 0)))), ((r7 3), .inl (cy 1, 3, .inr (.inl (fun _ => 0)))), ((r7 4), .inl (cy 1, 3, .inr (.inl (fun _ => 0)))), ((r7 5), .inl (cy 1, 3, .inr (.inl (fun _ => 0)))), ((r7 6), .inl (cy 1, 3, .inr (.inl (fun _ => 0)))), ((r7 7), .inl (cy 1, 3, .inr (.inl (fun _ => 0)))), ((r7 8), .inl (cy 1, 3, .inr (.inl (fun _ => 0)))), (n14, .inl (cy 2, 24, .inl (fun _ => 0)))] := hD
  have hP9 := hP.sub (ws' := [(h0, .inr (7, [.ref p1, .ref n1, .ref n2, .ref n3, .ref n4, .ref n6, .ref n8, .ref n11, .int 0, .long 0, .ref n14, .int 0, .int 0, .long 1])), (n1, .inl (cy 0, 9, .inl (fun _ => 0))), (n2, .inl (cy 2, 9, .inl (fun _ => 0))), (n3, .inl (cy 0, 9, .inl (fun _ => 0))), (n4, .inl (cy 3, 8, .inr (.inr (.inr (.inr (fun k9 => if k9 < 8 then some (r5 k9) else none)))))), ((r5 0), .inl (cy 1, 11, .inr (.inl (fun _ => 0)))), ((r5 1), .inl (cy 1, 11, .inr (.inl (fun _ => 0)))), ((r5 2), .inl (cy 1, 11, .inr (.inl (fun _ => 0)))), ((r5 3), .inl (cy 1, 11, .inr (.inl (fun _ => 0)))), ((r5 4), .inl (cy 1, 11, .inr (.inl (fun _ => 0)))), ((r5 5), .inl (cy 1, 11, .inr (.inl (fun _ => 0)))), ((r5 6), .inl (cy 1, 11, .inr (.inl (fun _ => 0)))), ((r5 7), .inl (cy 1, 11, .inr (.inl (fun _ => 0)))), (n6, .inl (cy 3, 9, .inr (.inr (.inr (.inr (fun k9 => if k9 < 9 then some (r7 k9) else none)))))), ((r7 0), .inl (cy 1, 3, .inr (.inl (fun _ => 0)))), ((r7 1), .inl (cy 1, 3, .inr (.inl (fun _ => 0)))), ((r7 2), .inl (cy 1, 3, .inr (.inl (fun _ => 0)))), ((r7 3), .inl (cy 1, 3, .inr (.inl (fun _ => 0)))), ((r7 4), .inl (cy 1, 3, .inr (.inl (fun _ => 0)))), ((r7 5), .inl (cy 1, 3, .inr (.inl (fun _ => 0)))), ((r7 6), .inl (cy 1, 3, .inr (.inl (fun _ => 0)))), ((r7 7), .inl (cy 1, 3, .inr (.inl (fun _ => 0)))), ((r7 8), .inl (cy 1, 3, .inr (.inl (fun _ => 0)))), (n14, .inl (cy 2, 24, .inl (fun _ => 0)))]) [0, 1, 2, 3, 4, 5, 6, 7, 8, 9, 10, 11, 12, 13, 14, 15, 16, 17, 18, 19, 20, 21, 22, 23] rfl
  have hD9 := hD.sub (ws' := [(h0, .inr (7, [.ref p1, .ref n1, .ref n2, .ref n3, .ref n4, .ref n6, .ref n8, .ref n11, .int 0, .long 0, .ref n14, .int 0, .int 0, .long 1])), (n1, .inl (cy 0, 9, .inl (fun _ => 0))), (n2, .inl (cy 2, 9, .inl (fun _ => 0))), (n3, .inl (cy 0, 9, .inl (fun _ => 0))), (n4, .inl (cy 3, 8, .inr (.inr (.inr (.inr (fun k9 => if k9 < 8 then some (r5 k9) else none)))))), ((r5 0), .inl (cy 1, 11, .inr (.inl (fun _ => 0)))), ((r5 1), .inl (cy 1, 11, .inr (.inl (fun _ => 0)))), ((r5 2), .inl (cy 1, 11, .inr (.inl (fun _ => 0)))), ((r5 3), .inl (cy 1, 11, .inr (.inl (fun _ => 0)))), ((r5 4), .inl (cy 1, 11, .inr (.inl (fun _ => 0)))), ((r5 5), .inl (cy 1, 11, .inr (.inl (fun _ => 0)))), ((r5 6), .inl (cy 1, 11, .inr (.inl (fun _ => 0)))), ((r5 7), .inl (cy 1, 11, .inr (.inl (fun _ => 0)))), (n6, .inl (cy 3, 9, .inr (.inr (.inr (.inr (fun k9 => if k9 < 9 then some (r7 k9) else none)))))), ((r7 0), .inl (cy 1, 3, .inr (.inl (fun _ => 0)))), ((r7 1), .inl (cy 1, 3, .inr (.inl (fun _ => 0)))), ((r7 2), .inl (cy 1, 3, .inr (.inl (fun _ => 0)))), ((r7 3), .inl (cy 1, 3, .inr (.inl (fun _ => 0)))), ((r7 4), .inl (cy 1, 3, .inr (.inl (fun _ => 0)))), ((r7 5), .inl (cy 1, 3, .inr (.inl (fun _ => 0)))), ((r7 6), .inl (cy 1, 3, .inr (.inl (fun _ => 0)))), ((r7 7), .inl (cy 1, 3, .inr (.inl (fun _ => 0)))), ((r7 8), .inl (cy 1, 3, .inr (.inl (fun _ => 0)))), (n14, .inl (cy 2, 24, .inl (fun _ => 0)))]) [0, 1, 2, 3, 4, 5, 6, 7, 8, 9, 10, 11, 12, 13, 14, 15, 16, 17, 18, 19, 20, 21, 22, 23] (by decide) rfl
  refine W.widen (k := 25) (n := 187) (Nat.le_of_ble_eq_true rfl) (Nat.le_of_ble_eq_true rfl) ?_
  rw [hQe]
  exact W.vret hx hb hr (fun t ht hW => ⟨⟨((fun k => [n1, n2, n3, n4, n6, n8, n11, n14].getD k 0), r5, r7), rfl, trivial, ⟨by rw [ht]; exact hP9, hD9⟩⟩, hS.F ht⟩) hS.2.2 dX4_init_91
set_option maxHeartbeats 4000000 in
set_option maxRecDepth 100000 in
/-- Cave(): no stations, no shots, nothing joined -/
theorem k_Cave_init (l : Launch) (D : va_G) (cy : Nat → ClassId) (h0 : Nat) (sz : Nat)  : Met l yX0_init (wz yX0_init cX0_init 2 none) ({ frames := 2, cells := 56, slots := 337, locals := 32 } : Room) (va_Pc [.ref h0] (zPre vwCl D cy [(h0, .inr (3, [.null, .null, .int 0, .int 0]))] sz)) (va_Qv (fun _ : (Nat → Nat) × (Nat → Nat) => True) (fun (u : (Nat → Nat) × (Nat → Nat)) t => zPost vwCl D (va_A [(h0, .inr (3, [.null, .null, .int 0, .int 0]))] sz) [(h0, .inr (3, [.ref (u.1 0), .ref (u.1 1), .int 0, .int 0])), ((u.1 1), .inr (5, [.ref (u.2 0), .ref (u.2 1), .ref (u.2 2), .ref (u.2 3), .int 0])), ((u.2 3), .inl (cy 0, 9, .inl (fun _ => 0)))] t) (va_A [(h0, .inr (3, [.null, .null, .int 0, .int 0]))] sz)) 56 337 (va_A [(h0, .inr (3, [.null, .null, .int 0, .int 0]))] sz) := by
  refine Met.ofW (cc := cX0_init) (maxL := 2) (ret := none) (by decide) rfl ?_
  intro p e s m args below meth c s₁ B hml hv
  obtain ⟨rfl, hsz, hP, hK, hD0, hX, hY⟩ := hv
  have hx := B.exec
  have hb := B.bytes
  have hr := B.returns
  have hts0 := atoms_spec (ws := wz yX0_init cX0_init 2 none) B.pre
  have hts : ∀ w ∈ wAll, w.before _ s = true := fun w h => hts0 w (List.mem_cons_of_mem _ h)
  have hown : s.vm.findClass RX0 = some m.cls := findClass_of_methodNamed B.named
  have hlocks := B.notSynchronized
  have hin : meth.name = "<init>" := (name_of_methodNamed B.named B.method).1
  subst hsz
  have hD := hD0.self (sz := s.heap.size)
  generalize hAe : va_A [(h0, .inr (3, [.null, .null, .int 0, .int 0]))] s.heap.size = A at hD hY ⊢
  have hA : ∀ q : Nat, s.heap.size ≤ q → A q := fun q h => by rw [← hAe]; exact Or.inr h
  have hS : va_S A s.heap s.heap [] := va_S.rf
  have hP : va_P D vwCl [(h0, .inr (3, [.null, .null, .int 0, .int 0]))] s.heap := hP
  have hl := lv_entry ([.ref h0]) (n := 2) (Nat.le_of_ble_eq_true rfl)
  rw [lg_entry_eq]
  generalize (lg_sl ([.ref h0]) ++ List.replicate (2 - (lg_sl ([.ref h0])).length) Slot.unset).toArray = ls at hl ⊢
  have hl : lv_has ls 2 [(0, .ref h0)] := hl
  refine z_anyQ (fun Q hQe => ?_)
  refine lv_aload_n hx hb dX0_init_0 rfl (lv_at hl 0 rfl) ?_
  refine W.objInit hx hb hown (hts _ q54) (hts _ q1) (hts _ q2) rfl (by rw [hml]; exact hl.1) rfl dX0_init_1 (Nat.le_of_ble_eq_true rfl) (Nat.le_of_ble_eq_true rfl) ?_
  refine W.eq (g2 := F0 m 4 ls []) rfl ?_
  refine lv_aload_n hx hb dX0_init_4 rfl (lv_at hl 0 rfl) ?_
  refine va_new (ci := 5) (fs := [.null, .null, .null, .null, .int 0]) (C := RX2) (T := TX2) (N := 5) hx hb hts iRX2 tyX2 tyX2_ok hown (hts _ q55) (hts _ q56) (hts _ q57) hK hP hD hS hA rfl (fun j hj => by rcases (show j = 0 ∨ j = 1 ∨ j = 2 ∨ j = 3 ∨ j = 4 by omega) with rfl | rfl | rfl | rfl | rfl <;> rfl) (Nat.le_of_ble_eq_true rfl) (Nat.le_of_ble_eq_true rfl) dX0_init_5 (fun n1 H hP hD hS => ?_)
  have hP : va_P D vwCl [(h0, .inr (3, [.null, .null, .int 0, .int 0])), (n1, .inr (5, [.null, .null, .null, .null, .int 0]))] H := hP
  have hD : va_D A [(h0, .inr (3, [.null, .null, .int 0, .int 0])), (n1, .inr (5, [.null, .null, .null, .null, .int 0]))] := hD
  refine W.widen (k := 1) (n := 5) (by omega) (by omega) ?_
  refine lv_dup hx hb dX0_init_8 rfl ?_
  refine zq_v (wc := [(n1, .inr (5, [.null, .null, .null, .null, .int 0]))]) (wr := [(h0, .inr (3, [.null, .null, .int 0, .int 0]))]) (va_runI (As := []) (rest := [.ref n1, .ref h0]) ⟨hx, hb, hml, hown, hts⟩ (k_Joins_init l D cy n1 H.size ) (cwI 0 hts (gz q59) rfl rfl rfl (hts _ q57) (hts _ q58) (hts _ q60) rfl vX2_init.2 ⟨Nat.le_of_ble_eq_true rfl, Nat.le_of_ble_eq_true rfl⟩) (zpS hK hX hY hP hD hS hA [1] (by decide) rfl) rfl rfl hl.1 rfl (lv_room (Nat.le_of_ble_eq_true rfl)) dX0_init_9 ⟨Nat.le_of_ble_eq_true rfl, Nat.le_of_ble_eq_true rfl⟩) hP hD hS hA [1] [0] rfl rfl (by decide) (by decide) (fun u2 H locs hw hP hD hS => ?_)
  have hP : va_P D vwCl [(h0, .inr (3, [.null, .null, .int 0, .int 0])), (n1, .inr (5, [.ref (u2 0), .ref (u2 1), .ref (u2 2), .ref (u2 3), .int 0])), ((u2 3), .inl (cy 0, 9, .inl (fun _ => 0)))] H := hP
  have hD : va_D A [(h0, .inr (3, [.null, .null, .int 0, .int 0])), (n1, .inr (5, [.ref (u2 0), .ref (u2 1), .ref (u2 2), .ref (u2 3), .int 0])), ((u2 3), .inl (cy 0, 9, .inl (fun _ => 0)))] := hD
  refine W.widen (k := 5) (n := 38) (by omega) (by omega) ?_
  refine va_putF (D := D) (ci := 3) (v := .ref n1) (ty := (tyX0 1)) (C := RX0) (T := TX0) (N := 4) hx hb hts iRX0 tyX0 tyX0_ok nmX0 hown hK hP hD hS 0 rfl rfl 1 (by decide) (hts _ q61) (fun _ h9 => h9) rfl hin rfl (tyX0_ok 1 (by decide)) rfl rfl (Nat.le_of_ble_eq_true rfl) dX0_init_12 (fun H locs hP hD hS => ?_)
  have hP : va_P D vwCl [(h0, .inr (3, [.null, .ref n1, .int 0, .int 0])), (n1, .inr (5, [.ref (u2 0), .ref (u2 1), .ref (u2 2), .ref (u2 3), .int 0])), ((u2 3), .inl (cy 0, 9, .inl (fun _ => 0)))] H := hP
  have hD : va_D A [(h0, .inr (3, [.null, .ref n1, .int 0, .int 0])), (n1, .inr (5, [.ref (u2 0), .ref (u2 1), .ref (u2 2), .ref (u2 3), .int 0])), ((u2 3), .inl (cy 0, 9, .inl (fun _ => 0)))] := hD
  refine lv_aload_n hx hb dX0_init_15 rfl (lv_at hl 0 rfl) ?_
  refine lv_bipush (v := 24) hx hb dX0_init_16 (by decide) ?_
  refine z_newq (N' := 24) (C := "Cavernbook$Shot") hx hb hown (hts _ q62) hX.2.2.1 hK hP hD hS hA 5 rfl (by decide) (by decide) (by decide) (Nat.le_of_ble_eq_true rfl) (Nat.le_of_ble_eq_true rfl) dX0_init_18 (fun n4 H hP hD hS => ?_)
  have hP : va_P D vwCl [(h0, .inr (3, [.null, .ref n1, .int 0, .int 0])), (n1, .inr (5, [.ref (u2 0), .ref (u2 1), .ref (u2 2), .ref (u2 3), .int 0])), ((u2 3), .inl (cy 0, 9, .inl (fun _ => 0))), (n4, .inl (cy 5, 24, .inr (.inr (.inr (.inr (fun _ => none))))))] H := hP
  have hD : va_D A [(h0, .inr (3, [.null, .ref n1, .int 0, .int 0])), (n1, .inr (5, [.ref (u2 0), .ref (u2 1), .ref (u2 2), .ref (u2 3), .int 0])), ((u2 3), .inl (cy 0, 9, .inl (fun _ => 0))), (n4, .inl (cy 5, 24, .inr (.inr (.inr (.inr (fun _ => none))))))] := hD
  refine W.widen (k := 6) (n := 62) (by omega) (by omega) ?_
  refine va_putF (D := D) (ci := 3) (v := .ref n4) (ty := (tyX0 0)) (C := RX0) (T := TX0) (N := 4) hx hb hts iRX0 tyX0 tyX0_ok nmX0 hown hK hP hD hS 0 rfl rfl 0 (by decide) (hts _ q63) (fun _ h9 => h9) rfl hin rfl (tyX0_ok 0 (by decide)) rfl rfl (Nat.le_of_ble_eq_true rfl) dX0_init_21 (fun H locs hP hD hS => ?_)
  have hP : va_P D vwCl [(h0, .inr (3, [.ref n4, .ref n1, .int 0, .int 0])), (n1, .inr (5, [.ref (u2 0), .ref (u2 1), .ref (u2 2), .ref (u2 3), .int 0])), ((u2 3), .inl (cy 0, 9, .inl (fun _ => 0))), (n4, .inl (cy 5, 24, .inr (.inr (.inr (.inr (fun _ => none))))))] H := hP
  have hD : va_D A [(h0, .inr (3, [.ref n4, .ref n1, .int 0, .int 0])), (n1, .inr (5, [.ref (u2 0), .ref (u2 1), .ref (u2 2), .ref (u2 3), .int 0])), ((u2 3), .inl (cy 0, 9, .inl (fun _ => 0))), (n4, .inl (cy 5, 24, .inr (.inr (.inr (.inr (fun _ => none))))))] := hD
  refine lv_iconst (v := 0) hx hb dX0_init_24 (by decide) ?_
  refine lv_istore_n (lv' := [(1, .int 0), (0, .ref h0)]) hx hb dX0_init_25 rfl hl (by decide) rfl (fun ls hl => ?_)
  have lp26_5 : ∀ (n i : Nat), i ≤ 24 → 24 + 1 ≤ i + n → ∀ (g : Nat → Option Nat) (H : Heap) (locs : List Loc), va_P D vwCl [(h0, .inr (3, [.ref n4, .ref n1, .int 0, .int 0])), (n1, .inr (5, [.ref (u2 0), .ref (u2 1), .ref (u2 2), .ref (u2 3), .int 0])), ((u2 3), .inl (cy 0, 9, .inl (fun _ => 0))), (n4, .inl (cy 5, 24, .inr (.inr (.inr (.inr g)))))] H → va_D A [(h0, .inr (3, [.ref n4, .ref n1, .int 0, .int 0])), (n1, .inr (5, [.ref (u2 0), .ref (u2 1), .ref (u2 2), .ref (u2 3), .int 0])), ((u2 3), .inl (cy 0, 9, .inl (fun _ => 0))), (n4, .inl (cy 5, 24, .inr (.inr (.inr (.inr g)))))] → va_S A s.heap H locs → ∀ ls, lv_has ls 2 [(0, .ref h0), (1, .int (nI i))] → W p l e (headSpec (wz yX0_init cX0_init 2 none) ({ frames := 2, cells := 56, slots := 337, locals := 32 } : Room)).room s m ([.ref h0] : List Value).toArray below meth c H locs (6 + 2 * i) (62 + 11 * i) Q (F0 m 26 ls []) := by
    intro n
    induction n with
    | zero => intro i h1 h2; exact absurd h2 (by omega)
    | succ n ih26 =>
      intro i hii hni g H locs hP hD hS ls hl
      refine lv_iload_n hx hb dX0_init_26 rfl (lv_at hl 1 rfl) ?_
      refine lv_bipush (v := 24) hx hb dX0_init_27 (by decide) ?_
      refine lv_icmp_ge (tgt := 51) hx hb dX0_init_29 (by decide) (fun c_29_5 => ?_) (fun c_29_5 => ?_)
      · skip
        have hE : i = 24 := z_ge (N := 24) (by decide) hii (by decide) c_29_5
        subst hE
        have hl : lv_has ls 2 [(0, .ref h0), (1, .int 24)] := hl
        refine W.widen (k := 54) (n := 326) (by omega) (by omega) ?_
        have hP9 := hP.sub (ws' := [(h0, .inr (3, [.ref n4, .ref n1, .int 0, .int 0])), (n1, .inr (5, [.ref (u2 0), .ref (u2 1), .ref (u2 2), .ref (u2 3), .int 0])), ((u2 3), .inl (cy 0, 9, .inl (fun _ => 0)))]) [0, 1, 2] rfl
        have hD9 := hD.sub (ws' := [(h0, .inr (3, [.ref n4, .ref n1, .int 0, .int 0])), (n1, .inr (5, [.ref (u2 0), .ref (u2 1), .ref (u2 2), .ref (u2 3), .int 0])), ((u2 3), .inl (cy 0, 9, .inl (fun _ => 0)))]) [0, 1, 2] (by decide) rfl
        refine W.widen (k := 56) (n := 337) (Nat.le_of_ble_eq_true rfl) (Nat.le_of_ble_eq_true rfl) ?_
        rw [hQe]
        exact W.vret hx hb hr (fun t ht hW => ⟨⟨((fun k => [n4, n1].getD k 0), u2), rfl, trivial, ⟨by rw [ht]; exact hP9, hD9⟩⟩, hS.F ht⟩) hS.2.2 dX0_init_51
      · skip
        have hlti : i < 24 := z_lt (N := 24) (by decide) hii (by decide) c_29_5
        refine lv_aload_n hx hb dX0_init_32 rfl (lv_at hl 0 rfl) ?_
        refine va_get (D := D) (ci := 3) (v := .ref n4) (C := RX0) (T := TX0) (N := 4) hx hb hts iRX0 hown hK hP 0 rfl rfl 0 (by decide) (hts _ q63) (fun _ h9 => h9) rfl dX0_init_33 ?_
        refine lv_iload_n hx hb dX0_init_36 rfl (lv_at hl 1 rfl) ?_
        refine va_new (ci := 9) (fs := [.int 0, .int 0, .int 0, .int 0, .int 0, .int 0, .int 0, .null]) (C := RX6) (T := TX6) (N := 8) hx hb hts iRX6 tyX6 tyX6_ok hown (hts _ q62) (hts _ q64) (hts _ q65) hK hP hD hS hA rfl (fun j hj => by rcases (show j = 0 ∨ j = 1 ∨ j = 2 ∨ j = 3 ∨ j = 4 ∨ j = 5 ∨ j = 6 ∨ j = 7 by omega) with rfl | rfl | rfl | rfl | rfl | rfl | rfl | rfl <;> rfl) ((show (6 + 2 * i) + 1 ≤ 56 by omega)) ((show (62 + 11 * i) + 8 ≤ 337 by omega)) dX0_init_37 (fun n7 H hP hD hS => ?_)
        have hP : va_P D vwCl [(h0, .inr (3, [.ref n4, .ref n1, .int 0, .int 0])), (n1, .inr (5, [.ref (u2 0), .ref (u2 1), .ref (u2 2), .ref (u2 3), .int 0])), ((u2 3), .inl (cy 0, 9, .inl (fun _ => 0))), (n4, .inl (cy 5, 24, .inr (.inr (.inr (.inr g))))), (n7, .inr (9, [.int 0, .int 0, .int 0, .int 0, .int 0, .int 0, .int 0, .null]))] H := hP
        have hD : va_D A [(h0, .inr (3, [.ref n4, .ref n1, .int 0, .int 0])), (n1, .inr (5, [.ref (u2 0), .ref (u2 1), .ref (u2 2), .ref (u2 3), .int 0])), ((u2 3), .inl (cy 0, 9, .inl (fun _ => 0))), (n4, .inl (cy 5, 24, .inr (.inr (.inr (.inr g))))), (n7, .inr (9, [.int 0, .int 0, .int 0, .int 0, .int 0, .int 0, .int 0, .null]))] := hD
        refine W.widen (k := (7 + 2 * i)) (n := (70 + 11 * i)) (by omega) (by omega) ?_
        refine lv_dup hx hb dX0_init_40 rfl ?_
        refine zq_v (wc := [(n7, .inr (9, [.int 0, .int 0, .int 0, .int 0, .int 0, .int 0, .int 0, .null]))]) (wr := [(h0, .inr (3, [.ref n4, .ref n1, .int 0, .int 0])), (n1, .inr (5, [.ref (u2 0), .ref (u2 1), .ref (u2 2), .ref (u2 3), .int 0])), ((u2 3), .inl (cy 0, 9, .inl (fun _ => 0))), (n4, .inl (cy 5, 24, .inr (.inr (.inr (.inr g)))))]) (va_runI (As := []) (rest := [.ref n7, .int (nI i), .ref n4]) ⟨hx, hb, hml, hown, hts⟩ (k_Shot_init l D cy n7 H.size ) (cwI 0 hts (gz q67) rfl rfl rfl (hts _ q65) (hts _ q66) (hts _ q68) rfl vX6_init.2 ⟨Nat.le_of_ble_eq_true rfl, Nat.le_of_ble_eq_true rfl⟩) (zpS hK hX hY hP hD hS hA [4] (by decide) rfl) rfl rfl hl.1 rfl (lv_room (Nat.le_of_ble_eq_true rfl)) dX0_init_41 ⟨(show (7 + 2 * i) + 1 ≤ 56 by omega), (show (70 + 11 * i) + 3 ≤ 337 by omega)⟩) hP hD hS hA [4] [0, 1, 2, 3] rfl rfl (by decide) (by decide) (fun u8 H locs hw hP hD hS => ?_)
        have hP : va_P D vwCl [(h0, .inr (3, [.ref n4, .ref n1, .int 0, .int 0])), (n1, .inr (5, [.ref (u2 0), .ref (u2 1), .ref (u2 2), .ref (u2 3), .int 0])), ((u2 3), .inl (cy 0, 9, .inl (fun _ => 0))), (n4, .inl (cy 5, 24, .inr (.inr (.inr (.inr g))))), (n7, .inr (9, [.int 0, .int 0, .int 0, .int 0, .int 0, .int 1000, .int 0, .ref u8]))] H := hP
        have hD : va_D A [(h0, .inr (3, [.ref n4, .ref n1, .int 0, .int 0])), (n1, .inr (5, [.ref (u2 0), .ref (u2 1), .ref (u2 2), .ref (u2 3), .int 0])), ((u2 3), .inl (cy 0, 9, .inl (fun _ => 0))), (n4, .inl (cy 5, 24, .inr (.inr (.inr (.inr g))))), (n7, .inr (9, [.int 0, .int 0, .int 0, .int 0, .int 0, .int 1000, .int 0, .ref u8]))] := hD
        refine W.widen (k := (8 + 2 * i)) (n := (73 + 11 * i)) (by omega) (by omega) ?_
        refine va_astq (r := (RX6, TX6, 8)) hx hb hK hP hD hS 3 5 4 9 rfl rfl rfl rfl (vp_in_nI (by omega) (by decide)) dX0_init_44 (fun H locs hP hD hS => ?_)
        have hP : va_P D vwCl [(h0, .inr (3, [.ref n4, .ref n1, .int 0, .int 0])), (n1, .inr (5, [.ref (u2 0), .ref (u2 1), .ref (u2 2), .ref (u2 3), .int 0])), ((u2 3), .inl (cy 0, 9, .inl (fun _ => 0))), (n4, .inl (cy 5, 24, .inr (.inr (.inr (.inr (va_up g (nI i).toNatClampNeg (some n7))))))), (n7, .inr (9, [.int 0, .int 0, .int 0, .int 0, .int 0, .int 1000, .int 0, .ref u8]))] H := hP
        have hD : va_D A [(h0, .inr (3, [.ref n4, .ref n1, .int 0, .int 0])), (n1, .inr (5, [.ref (u2 0), .ref (u2 1), .ref (u2 2), .ref (u2 3), .int 0])), ((u2 3), .inl (cy 0, 9, .inl (fun _ => 0))), (n4, .inl (cy 5, 24, .inr (.inr (.inr (.inr (va_up g (nI i).toNatClampNeg (some n7))))))), (n7, .inr (9, [.int 0, .int 0, .int 0, .int 0, .int 0, .int 1000, .int 0, .ref u8]))] := hD
        refine lv_iinc (v := (nI (i + 1))) (lv' := [(1, .int (nI (i + 1))), (0, .ref h0)]) hx hb dX0_init_45 hl (k := 1) rfl (z_n1 i) (by decide) rfl (fun ls hl => ?_)
        refine lv_goto (tgt := 26) hx hb dX0_init_48 (by decide) ?_
        refine W.widen (k := (6 + 2 * (i + 1))) (n := (62 + 11 * (i + 1))) (by omega) (by omega) ?_
        exact ih26 (i + 1) (by omega) (by omega) _ _ _ (hP.sub [0, 1, 2, 3] rfl) (hD.sub [0, 1, 2, 3] (by decide) rfl) hS ls (lv_sub hl [1, 0] rfl)
  exact lp26_5 (24 + 1) 0 (by decide) (by decide) _ _ _ hP hD hS ls (lv_sub hl [1, 0] rfl)
