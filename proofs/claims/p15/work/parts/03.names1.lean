def RX1 : String := "WiredBeans$Bean"
def TX1 : u_T := fun k => match k with
  | 0 => ("WiredBeans$Bean", "number", "I", true)
  | 1 => ("WiredBeans$Bean", "args", "Ljava/util/ArrayList;", true)
  | 2 => ("WiredBeans$Bean", "sets", "Ljava/util/ArrayList;", true)
  | 3 => ("WiredBeans$Bean", "lookups", "Ljava/util/ArrayList;", true)
  | 4 => ("WiredBeans$Bean", "element", "LWiredBeans$Element;", false)
  | 5 => ("WiredBeans$Bean", "id", "J", false)
  | 6 => ("WiredBeans$Bean", "parent", "J", false)
  | 7 => ("WiredBeans$Bean", "depends", "J", false)
  | 8 => ("WiredBeans$Bean", "factory", "J", false)
  | 9 => ("WiredBeans$Bean", "classNumber", "I", false)
  | 10 => ("WiredBeans$Bean", "method", "I", false)
  | 11 => ("WiredBeans$Bean", "init", "I", false)
  | 12 => ("WiredBeans$Bean", "destroy", "I", false)
  | 13 => ("WiredBeans$Bean", "isAbstract", "Z", false)
  | 14 => ("WiredBeans$Bean", "isMany", "Z", false)
  | 15 => ("WiredBeans$Bean", "isLazy", "Z", false)
  | 16 => ("WiredBeans$Bean", "isBeingMade", "Z", false)
  | 17 => ("WiredBeans$Bean", "isMade", "Z", false)
  | _ => ("WiredBeans$Bean", "madeObject", "I", false)
def tyX1 : Nat → FieldType := fun k => match k with
  | 0 => .int
  | 1 => .object "java/util/ArrayList"
  | 2 => .object "java/util/ArrayList"
  | 3 => .object "java/util/ArrayList"
  | 4 => .object "WiredBeans$Element"
  | 5 => .long
  | 6 => .long
  | 7 => .long
  | 8 => .long
  | 9 => .int
  | 10 => .int
  | 11 => .int
  | 12 => .int
  | 13 => .boolean
  | 14 => .boolean
  | 15 => .boolean
  | 16 => .boolean
  | 17 => .boolean
  | _ => .int
abbrev wsX10 : List Cond := u_ws RX1 TX1 19
theorem nmX1 : ∀ a, a < 19 → ∀ b, b < 19 → a ≠ b → (TX1 a).2.1 ≠ (TX1 b).2.1 := by decide +kernel
theorem tyX1_ok : ∀ k, k < 19 → parseFieldDescriptor (TX1 k).2.2.1 = some (tyX1 k) := by decide +kernel
def RX2 : String := "WiredBeans$DeclaredClass"
def TX2 : u_T := fun k => match k with
  | 0 => ("WiredBeans$DeclaredClass", "constructors", "[LWiredBeans$Signature;", true)
  | 1 => ("WiredBeans$DeclaredClass", "factories", "[LWiredBeans$Signature;", true)
  | 2 => ("WiredBeans$DeclaredClass", "constructorCount", "I", false)
  | 3 => ("WiredBeans$DeclaredClass", "factoryCount", "I", false)
  | 4 => ("WiredBeans$DeclaredClass", "number", "I", true)
  | 5 => ("WiredBeans$DeclaredClass", "setterTypes", "[I", true)
  | 6 => ("WiredBeans$DeclaredClass", "setterCount", "I", false)
  | _ => ("WiredBeans$DeclaredClass", "parent", "LWiredBeans$DeclaredClass;", false)
def tyX2 : Nat → FieldType := fun k => match k with
  | 0 => .array (.object "WiredBeans$Signature")
  | 1 => .array (.object "WiredBeans$Signature")
  | 2 => .int
  | 3 => .int
  | 4 => .int
  | 5 => .array .int
  | 6 => .int
  | _ => .object "WiredBeans$DeclaredClass"
abbrev wsX20 : List Cond := u_ws RX2 TX2 8
theorem nmX2 : ∀ a, a < 8 → ∀ b, b < 8 → a ≠ b → (TX2 a).2.1 ≠ (TX2 b).2.1 := by decide +kernel
theorem tyX2_ok : ∀ k, k < 8 → parseFieldDescriptor (TX2 k).2.2.1 = some (tyX2 k) := by decide +kernel
def RX3 : String := "WiredBeans$Element"
def TX3 : u_T := fun k => match k with
  | 0 => ("WiredBeans$Element", "text", "[C", true)
  | 1 => ("WiredBeans$Element", "textLength", "I", false)
  | 2 => ("WiredBeans$Element", "textEnd", "I", false)
  | 3 => ("WiredBeans$Element", "place", "I", false)
  | 4 => ("WiredBeans$Element", "word", "LWiredBeans$Word;", false)
  | 5 => ("WiredBeans$Element", "outer", "LWiredBeans$Element;", false)
  | 6 => ("WiredBeans$Element", "firstInner", "LWiredBeans$Element;", false)
  | 7 => ("WiredBeans$Element", "next", "LWiredBeans$Element;", false)
  | 8 => ("WiredBeans$Element", "innerCount", "I", false)
  | 9 => ("WiredBeans$Element", "firstAttribute", "I", false)
  | 10 => ("WiredBeans$Element", "attributeCount", "I", false)
  | 11 => ("WiredBeans$Element", "name", "J", false)
  | 12 => ("WiredBeans$Element", "target", "J", false)
  | 13 => ("WiredBeans$Element", "number", "J", false)
  | 14 => ("WiredBeans$Element", "truth", "I", false)
  | 15 => ("WiredBeans$Element", "letter", "I", false)
  | 16 => ("WiredBeans$Element", "at", "I", false)
  | 17 => ("WiredBeans$Element", "type", "I", false)
  | 18 => ("WiredBeans$Element", "kind", "LWiredBeans$Word;", false)
  | 19 => ("WiredBeans$Element", "content", "LWiredBeans$Element;", false)
  | _ => ("WiredBeans$Element", "bean", "LWiredBeans$Bean;", false)
def tyX3 : Nat → FieldType := fun k => match k with
  | 0 => .array .char
  | 1 => .int
  | 2 => .int
  | 3 => .int
  | 4 => .object "WiredBeans$Word"
  | 5 => .object "WiredBeans$Element"
  | 6 => .object "WiredBeans$Element"
  | 7 => .object "WiredBeans$Element"
  | 8 => .int
  | 9 => .int
  | 10 => .int
  | 11 => .long
  | 12 => .long
  | 13 => .long
  | 14 => .int
  | 15 => .int
  | 16 => .int
  | 17 => .int
  | 18 => .object "WiredBeans$Word"
  | 19 => .object "WiredBeans$Element"
  | _ => .object "WiredBeans$Bean"
abbrev wsX30 : List Cond := u_ws RX3 TX3 21
theorem nmX3 : ∀ a, a < 21 → ∀ b, b < 21 → a ≠ b → (TX3 a).2.1 ≠ (TX3 b).2.1 := by decide +kernel
theorem tyX3_ok : ∀ k, k < 21 → parseFieldDescriptor (TX3 k).2.2.1 = some (tyX3 k) := by decide +kernel
def RX4 : String := "WiredBeans$EventRow"
def TX4 : u_T := fun k => match k with
  | 0 => ("WiredBeans$EventRow", "numbers", "[I", true)
  | _ => ("WiredBeans$EventRow", "count", "I", false)
def tyX4 : Nat → FieldType := fun k => match k with
  | 0 => .array .int
  | _ => .int
abbrev wsX40 : List Cond := u_ws RX4 TX4 2
theorem nmX4 : ∀ a, a < 2 → ∀ b, b < 2 → a ≠ b → (TX4 a).2.1 ≠ (TX4 b).2.1 := by decide +kernel
theorem tyX4_ok : ∀ k, k < 2 → parseFieldDescriptor (TX4 k).2.2.1 = some (tyX4 k) := by decide +kernel
def RX5 : String := "WiredBeans$Maker"
def TX5 : u_T := fun k => match k with
  | 0 => ("WiredBeans$Maker", "wiring", "LWiredBeans$Wiring;", true)
  | 1 => ("WiredBeans$Maker", "classes", "[LWiredBeans$DeclaredClass;", true)
  | 2 => ("WiredBeans$Maker", "row", "LWiredBeans$EventRow;", true)
  | 3 => ("WiredBeans$Maker", "objectClasses", "[I", true)
  | 4 => ("WiredBeans$Maker", "objectBeans", "[I", true)
  | 5 => ("WiredBeans$Maker", "objectCount", "I", false)
  | 6 => ("WiredBeans$Maker", "finished", "[LWiredBeans$Bean;", true)
  | 7 => ("WiredBeans$Maker", "finishedCount", "I", false)
  | 8 => ("WiredBeans$Maker", "worked", "[I", true)
  | 9 => ("WiredBeans$Maker", "argAtPlace", "[I", true)
  | 10 => ("WiredBeans$Maker", "innermost", "LWiredBeans$Bean;", false)
  | 11 => ("WiredBeans$Maker", "failure", "I", false)
  | _ => ("WiredBeans$Maker", "failureBean", "I", false)
def tyX5 : Nat → FieldType := fun k => match k with
  | 0 => .object "WiredBeans$Wiring"
  | 1 => .array (.object "WiredBeans$DeclaredClass")
  | 2 => .object "WiredBeans$EventRow"
  | 3 => .array .int
  | 4 => .array .int
  | 5 => .int
  | 6 => .array (.object "WiredBeans$Bean")
  | 7 => .int
  | 8 => .array .int
  | 9 => .array .int
  | 10 => .object "WiredBeans$Bean"
  | 11 => .int
  | _ => .int
abbrev wsX50 : List Cond := u_ws RX5 TX5 13
theorem nmX5 : ∀ a, a < 13 → ∀ b, b < 13 → a ≠ b → (TX5 a).2.1 ≠ (TX5 b).2.1 := by decide +kernel
theorem tyX5_ok : ∀ k, k < 13 → parseFieldDescriptor (TX5 k).2.2.1 = some (tyX5 k) := by decide +kernel
def RX6 : String := "WiredBeans$Paper"
def TX6 : u_T := fun k => match k with
  | 0 => ("WiredBeans$Paper", "elements", "[LWiredBeans$Element;", true)
  | 1 => ("WiredBeans$Paper", "attributeKeys", "[J", true)
  | 2 => ("WiredBeans$Paper", "valueStarts", "[I", true)
  | 3 => ("WiredBeans$Paper", "valueLengths", "[I", true)
  | 4 => ("WiredBeans$Paper", "values", "[C", true)
  | 5 => ("WiredBeans$Paper", "count", "I", false)
  | 6 => ("WiredBeans$Paper", "attributes", "I", false)
  | _ => ("WiredBeans$Paper", "valuesEnd", "I", false)
def tyX6 : Nat → FieldType := fun k => match k with
  | 0 => .array (.object "WiredBeans$Element")
  | 1 => .array .long
  | 2 => .array .int
  | 3 => .array .int
  | 4 => .array .char
  | 5 => .int
  | 6 => .int
  | _ => .int
abbrev wsX60 : List Cond := u_ws RX6 TX6 8
theorem nmX6 : ∀ a, a < 8 → ∀ b, b < 8 → a ≠ b → (TX6 a).2.1 ≠ (TX6 b).2.1 := by decide +kernel
theorem tyX6_ok : ∀ k, k < 8 → parseFieldDescriptor (TX6 k).2.2.1 = some (tyX6 k) := by decide +kernel
def RX7 : String := "WiredBeans$Reader"
def TX7 : u_T := fun k => match k with
  | 0 => ("WiredBeans$Reader", "paper", "LWiredBeans$Paper;", true)
  | 1 => ("WiredBeans$Reader", "text", "[C", false)
  | 2 => ("WiredBeans$Reader", "length", "I", false)
  | 3 => ("WiredBeans$Reader", "at", "I", false)
  | 4 => ("WiredBeans$Reader", "depth", "I", false)
  | _ => ("WiredBeans$Reader", "open", "LWiredBeans$Element;", false)
def tyX7 : Nat → FieldType := fun k => match k with
  | 0 => .object "WiredBeans$Paper"
  | 1 => .array .char
  | 2 => .int
  | 3 => .int
  | 4 => .int
  | _ => .object "WiredBeans$Element"
abbrev wsX70 : List Cond := u_ws RX7 TX7 6
theorem nmX7 : ∀ a, a < 6 → ∀ b, b < 6 → a ≠ b → (TX7 a).2.1 ≠ (TX7 b).2.1 := by decide +kernel
theorem tyX7_ok : ∀ k, k < 6 → parseFieldDescriptor (TX7 k).2.2.1 = some (tyX7 k) := by decide +kernel
def RX8 : String := "WiredBeans$Signature"
def TX8 : u_T := fun k => match k with
  | 0 => ("WiredBeans$Signature", "owner", "I", true)
  | 1 => ("WiredBeans$Signature", "number", "I", true)
  | 2 => ("WiredBeans$Signature", "types", "[I", true)
  | 3 => ("WiredBeans$Signature", "count", "I", false)
  | 4 => ("WiredBeans$Signature", "name", "I", false)
  | 5 => ("WiredBeans$Signature", "isStatic", "Z", false)
  | _ => ("WiredBeans$Signature", "result", "I", false)
def tyX8 : Nat → FieldType := fun k => match k with
  | 0 => .int
  | 1 => .int
  | 2 => .array .int
  | 3 => .int
  | 4 => .int
  | 5 => .boolean
  | _ => .int
abbrev wsX80 : List Cond := u_ws RX8 TX8 7
theorem nmX8 : ∀ a, a < 7 → ∀ b, b < 7 → a ≠ b → (TX8 a).2.1 ≠ (TX8 b).2.1 := by decide +kernel
theorem tyX8_ok : ∀ k, k < 7 → parseFieldDescriptor (TX8 k).2.2.1 = some (tyX8 k) := by decide +kernel
def RX9 : String := "WiredBeans$Structure"
def TX9 : u_T := fun k => match k with
  | _ => ("WiredBeans$Structure", "paper", "LWiredBeans$Paper;", true)
def tyX9 : Nat → FieldType := fun k => match k with
  | _ => .object "WiredBeans$Paper"
abbrev wsX90 : List Cond := u_ws RX9 TX9 1
theorem nmX9 : ∀ a, a < 1 → ∀ b, b < 1 → a ≠ b → (TX9 a).2.1 ≠ (TX9 b).2.1 := by decide +kernel
theorem tyX9_ok : ∀ k, k < 1 → parseFieldDescriptor (TX9 k).2.2.1 = some (tyX9 k) := by decide +kernel
def RX10 : String := "WiredBeans$Wiring"
def TX10 : u_T := fun k => match k with
  | 0 => ("WiredBeans$Wiring", "paper", "LWiredBeans$Paper;", true)
  | 1 => ("WiredBeans$Wiring", "beans", "[LWiredBeans$Bean;", true)
  | 2 => ("WiredBeans$Wiring", "chain", "[LWiredBeans$Bean;", true)
  | _ => ("WiredBeans$Wiring", "count", "I", false)
def tyX10 : Nat → FieldType := fun k => match k with
  | 0 => .object "WiredBeans$Paper"
  | 1 => .array (.object "WiredBeans$Bean")
  | 2 => .array (.object "WiredBeans$Bean")
  | _ => .int
abbrev wsX100 : List Cond := u_ws RX10 TX10 4
theorem nmX10 : ∀ a, a < 4 → ∀ b, b < 4 → a ≠ b → (TX10 a).2.1 ≠ (TX10 b).2.1 := by decide +kernel
theorem tyX10_ok : ∀ k, k < 4 → parseFieldDescriptor (TX10 k).2.2.1 = some (tyX10 k) := by decide +kernel
def RX11 : String := "WiredBeans$Word"
def RX12 : String := "WiredBeans"
def TX12 : u_T := fun k => match k with
  | 0 => ("WiredBeans", "classes", "[LWiredBeans$DeclaredClass;", true)
  | 1 => ("WiredBeans", "typed", "[C", true)
  | 2 => ("WiredBeans", "paper", "LWiredBeans$Paper;", true)
  | 3 => ("WiredBeans", "reader", "LWiredBeans$Reader;", true)
  | 4 => ("WiredBeans", "structure", "LWiredBeans$Structure;", true)
  | 5 => ("WiredBeans", "wiring", "LWiredBeans$Wiring;", true)
  | 6 => ("WiredBeans", "row", "LWiredBeans$EventRow;", true)
  | 7 => ("WiredBeans", "maker", "LWiredBeans$Maker;", true)
  | 8 => ("WiredBeans", "typedLength", "I", false)
  | 9 => ("WiredBeans", "hasDocument", "Z", false)
  | 10 => ("WiredBeans", "faultNumber", "I", false)
  | _ => ("WiredBeans", "faultPlace", "I", false)
def tyX12 : Nat → FieldType := fun k => match k with
  | 0 => .array (.object "WiredBeans$DeclaredClass")
  | 1 => .array .char
  | 2 => .object "WiredBeans$Paper"
  | 3 => .object "WiredBeans$Reader"
  | 4 => .object "WiredBeans$Structure"
  | 5 => .object "WiredBeans$Wiring"
  | 6 => .object "WiredBeans$EventRow"
  | 7 => .object "WiredBeans$Maker"
  | 8 => .int
  | 9 => .boolean
  | 10 => .int
  | _ => .int
abbrev wsX120 : List Cond := u_ws RX12 TX12 12
theorem nmX12 : ∀ a, a < 12 → ∀ b, b < 12 → a ≠ b → (TX12 a).2.1 ≠ (TX12 b).2.1 := by decide +kernel
theorem tyX12_ok : ∀ k, k < 12 → parseFieldDescriptor (TX12 k).2.2.1 = some (tyX12 k) := by decide +kernel
def RX13 : String := "WiredBeansModel"
def TX13 : u_T := fun k => match k with
  | 0 => ("WiredBeansModel", "elementNames", "[J", true)
  | 1 => ("WiredBeansModel", "words", "[J", true)
  | 2 => ("WiredBeansModel", "entities", "[J", true)
  | 3 => ("WiredBeansModel", "entityLengths", "[I", true)
  | 4 => ("WiredBeansModel", "entitySigns", "[I", true)
  | 5 => ("WiredBeansModel", "thrown", "I", false)
  | 6 => ("WiredBeansModel", "parents", "[I", true)
  | 7 => ("WiredBeansModel", "makers", "[I", true)
  | 8 => ("WiredBeansModel", "makerSize", "[I", true)
  | 9 => ("WiredBeansModel", "makerType", "[I", true)
  | 10 => ("WiredBeansModel", "setters", "[I", true)
  | 11 => ("WiredBeansModel", "setterName", "[I", true)
  | 12 => ("WiredBeansModel", "setterType", "[I", true)
  | 13 => ("WiredBeansModel", "factories", "[I", true)
  | 14 => ("WiredBeansModel", "factoryName", "[I", true)
  | 15 => ("WiredBeansModel", "factoryResult", "[I", true)
  | 16 => ("WiredBeansModel", "factorySize", "[I", true)
  | 17 => ("WiredBeansModel", "factoryType", "[I", true)
  | 18 => ("WiredBeansModel", "factoryStatic", "[Z", true)
  | 19 => ("WiredBeansModel", "text", "[B", true)
  | 20 => ("WiredBeansModel", "size", "I", false)
  | 21 => ("WiredBeansModel", "at", "I", false)
  | 22 => ("WiredBeansModel", "fault", "I", false)
  | 23 => ("WiredBeansModel", "faultPlace", "I", false)
  | 24 => ("WiredBeansModel", "elements", "I", false)
  | 25 => ("WiredBeansModel", "pool", "I", false)
  | 26 => ("WiredBeansModel", "kinds", "[I", true)
  | 27 => ("WiredBeansModel", "places", "[I", true)
  | 28 => ("WiredBeansModel", "above", "[I", true)
  | 29 => ("WiredBeansModel", "within", "[I", true)
  | 30 => ("WiredBeansModel", "attributes", "[I", true)
  | 31 => ("WiredBeansModel", "textSize", "[I", true)
  | 32 => ("WiredBeansModel", "pending", "[I", true)
  | 33 => ("WiredBeansModel", "textAt", "[I", true)
  | 34 => ("WiredBeansModel", "names", "[J", true)
  | 35 => ("WiredBeansModel", "attributeName", "[J", true)
  | 36 => ("WiredBeansModel", "attributeAt", "[I", true)
  | 37 => ("WiredBeansModel", "attributeSize", "[I", true)
  | 38 => ("WiredBeansModel", "characters", "[B", true)
  | 39 => ("WiredBeansModel", "texts", "[B", true)
  | 40 => ("WiredBeansModel", "document", "Z", false)
  | 41 => ("WiredBeansModel", "beans", "I", false)
  | 42 => ("WiredBeansModel", "beanElement", "[I", true)
  | 43 => ("WiredBeansModel", "beanOf", "[I", true)
  | 44 => ("WiredBeansModel", "setMany", "[I", true)
  | 45 => ("WiredBeansModel", "setElement", "[I", true)
  | 46 => ("WiredBeansModel", "lookupMany", "[I", true)
  | 47 => ("WiredBeansModel", "lookupElement", "[I", true)
  | 48 => ("WiredBeansModel", "objects", "I", false)
  | 49 => ("WiredBeansModel", "events", "I", false)
  | 50 => ("WiredBeansModel", "made", "I", false)
  | 51 => ("WiredBeansModel", "failure", "I", false)
  | 52 => ("WiredBeansModel", "failureBean", "I", false)
  | 53 => ("WiredBeansModel", "objectClass", "[I", true)
  | 54 => ("WiredBeansModel", "objectBean", "[I", true)
  | 55 => ("WiredBeansModel", "eventKind", "[I", true)
  | 56 => ("WiredBeansModel", "eventObject", "[I", true)
  | 57 => ("WiredBeansModel", "eventSecond", "[I", true)
  | 58 => ("WiredBeansModel", "eventThird", "[I", true)
  | 59 => ("WiredBeansModel", "madeOrder", "[I", true)
  | 60 => ("WiredBeansModel", "own", "[I", true)
  | 61 => ("WiredBeansModel", "isMade", "[Z", true)
  | 62 => ("WiredBeansModel", "making", "[Z", true)
  | 63 => ("WiredBeansModel", "high", "I", false)
  | 64 => ("WiredBeansModel", "pileBean", "[I", true)
  | 65 => ("WiredBeansModel", "pilePhase", "[I", true)
  | 66 => ("WiredBeansModel", "pileIndex", "[I", true)
  | 67 => ("WiredBeansModel", "pileItem", "[I", true)
  | 68 => ("WiredBeansModel", "pileFactory", "[I", true)
  | 69 => ("WiredBeansModel", "pileObject", "[I", true)
  | 70 => ("WiredBeansModel", "valueKind", "[I", true)
  | 71 => ("WiredBeansModel", "value", "[I", true)
  | 72 => ("WiredBeansModel", "itemKind", "[I", true)
  | 73 => ("WiredBeansModel", "item", "[I", true)
  | 74 => ("WiredBeansModel", "got", "I", false)
  | 75 => ("WiredBeansModel", "spot", "[I", true)
  | _ => ("WiredBeansModel", "closed", "Z", false)
def tyX13 : Nat → FieldType := fun k => match k with
  | 0 => .array .long
  | 1 => .array .long
  | 2 => .array .long
  | 3 => .array .int
  | 4 => .array .int
  | 5 => .int
  | 6 => .array .int
  | 7 => .array .int
  | 8 => .array .int
  | 9 => .array .int
  | 10 => .array .int
  | 11 => .array .int
  | 12 => .array .int
  | 13 => .array .int
  | 14 => .array .int
  | 15 => .array .int
  | 16 => .array .int
  | 17 => .array .int
  | 18 => .array .boolean
  | 19 => .array .byte
  | 20 => .int
  | 21 => .int
  | 22 => .int
  | 23 => .int
  | 24 => .int
  | 25 => .int
  | 26 => .array .int
  | 27 => .array .int
  | 28 => .array .int
  | 29 => .array .int
  | 30 => .array .int
  | 31 => .array .int
  | 32 => .array .int
  | 33 => .array .int
  | 34 => .array .long
  | 35 => .array .long
  | 36 => .array .int
  | 37 => .array .int
  | 38 => .array .byte
  | 39 => .array .byte
  | 40 => .boolean
  | 41 => .int
  | 42 => .array .int
  | 43 => .array .int
  | 44 => .array .int
  | 45 => .array .int
  | 46 => .array .int
  | 47 => .array .int
  | 48 => .int
  | 49 => .int
  | 50 => .int
  | 51 => .int
  | 52 => .int
  | 53 => .array .int
  | 54 => .array .int
  | 55 => .array .int
  | 56 => .array .int
  | 57 => .array .int
  | 58 => .array .int
  | 59 => .array .int
  | 60 => .array .int
  | 61 => .array .boolean
  | 62 => .array .boolean
  | 63 => .int
  | 64 => .array .int
  | 65 => .array .int
  | 66 => .array .int
  | 67 => .array .int
  | 68 => .array .int
  | 69 => .array .int
  | 70 => .array .int
  | 71 => .array .int
  | 72 => .array .int
  | 73 => .array .int
  | 74 => .int
  | 75 => .array .int
  | _ => .boolean
abbrev wsX130 : List Cond := u_ws RX13 TX13 77
theorem nmX13 : ∀ a, a < 77 → ∀ b, b < 77 → a ≠ b → (TX13 a).2.1 ≠ (TX13 b).2.1 := by decide +kernel
theorem tyX13_ok : ∀ k, k < 77 → parseFieldDescriptor (TX13 k).2.2.1 = some (tyX13 k) := by decide +kernel
def RJx29ce0 : String := "java/lang/Enum"
def RJ0 : String := "java/lang/String"
def RJ1 : String := "java/lang/StringLatin1"
def RJ2 : String := "java/lang/StringUTF16"
def RJxa1e45 : String := "java/util/AbstractCollection"
def RJxc12de : String := "java/util/AbstractList"
def RJx4a65c : String := "java/util/ArrayList"
def TJx4a65c : u_T := fun k => match k with
  | 0 => ("java/util/AbstractList", "modCount", "I", false)
  | 1 => ("java/util/ArrayList", "elementData", "[Ljava/lang/Object;", false)
  | _ => ("java/util/ArrayList", "size", "I", false)
def tyJx4a65c : Nat → FieldType := fun k => match k with
  | 0 => .int
  | 1 => .array (.object "java/lang/Object")
  | _ => .int
abbrev wsJx4a65c0 : List Cond := u_ws RJx4a65c TJx4a65c 3
theorem nmJx4a65c : ∀ a, a < 3 → ∀ b, b < 3 → a ≠ b → (TJx4a65c a).2.1 ≠ (TJx4a65c b).2.1 := by decide +kernel
theorem tyJx4a65c_ok : ∀ k, k < 3 → parseFieldDescriptor (TJx4a65c k).2.2.1 = some (tyJx4a65c k) := by decide +kernel
def RJ7 : String := "java/util/Arrays"
def RJ15 : String := "java/util/Objects"
def RJ8 : String := "jdk/internal/util/ArraysSupport"
def RJ3 : String := "jdk/internal/util/Preconditions"
def RL : String := "WiredBeansLaw"
abbrev cL_law : ByteArray := code
abbrev cJ0_charAt_5068e : ByteArray := prog_26_method_56_code
def yJ0_charAt_5068e : MethodName := ⟨RJ0, "charAt", "(I)C"⟩
abbrev cJ0_checkIndex_df160 : ByteArray := prog_26_method_155_code
def yJ0_checkIndex_df160 : MethodName := ⟨RJ0, "checkIndex", "(II)V"⟩
abbrev cJ0_coder_7d493 : ByteArray := prog_26_method_152_code
def yJ0_coder_7d493 : MethodName := ⟨RJ0, "coder", "()B"⟩
abbrev cJ0_isLatin1_aae02 : ByteArray := prog_26_method_154_code
def yJ0_isLatin1_aae02 : MethodName := ⟨RJ0, "isLatin1", "()Z"⟩
abbrev cJ0_length_8abf5 : ByteArray := prog_26_method_54_code
def yJ0_length_8abf5 : MethodName := ⟨RJ0, "length", "()I"⟩
abbrev cJ15_checkIndex_7cf53 : ByteArray := prog_38_method_17_code
def yJ15_checkIndex_7cf53 : MethodName := ⟨RJ15, "checkIndex", "(II)I"⟩
abbrev cJ1_charAt_3b067 : ByteArray := prog_27_method_2_code
def yJ1_charAt_3b067 : MethodName := ⟨RJ1, "charAt", "([BI)C"⟩
abbrev cJ2_charAt_3b067 : ByteArray := prog_28_method_83_code
def yJ2_charAt_3b067 : MethodName := ⟨RJ2, "charAt", "([BI)C"⟩
abbrev cJ2_checkIndex_2214a : ByteArray := prog_28_method_91_code
def yJ2_checkIndex_2214a : MethodName := ⟨RJ2, "checkIndex", "(I[B)V"⟩
abbrev cJ2_getChar_3b067 : ByteArray := prog_28_method_5_code
def yJ2_getChar_3b067 : MethodName := ⟨RJ2, "getChar", "([BI)C"⟩
abbrev cJ2_length_9d52b : ByteArray := prog_28_method_6_code
def yJ2_length_9d52b : MethodName := ⟨RJ2, "length", "([B)I"⟩
abbrev cJ3_checkIndex_8e157 : ByteArray := prog_42_method_11_code
def yJ3_checkIndex_8e157 : MethodName := ⟨RJ3, "checkIndex", "(IILjava/util/function/BiFunction;)I"⟩
abbrev cJ7_copyOf_1904c : ByteArray := prog_35_method_119_code
def yJ7_copyOf_1904c : MethodName := ⟨RJ7, "copyOf", "([Ljava/lang/Object;I)[Ljava/lang/Object;"⟩
abbrev cJ7_copyOf_6403c : ByteArray := prog_35_method_120_code
def yJ7_copyOf_6403c : MethodName := ⟨RJ7, "copyOf", "([Ljava/lang/Object;ILjava/lang/Class;)[Ljava/lang/Object;"⟩
abbrev cJ8_hugeLength_7cf53 : ByteArray := prog_41_method_28_code
def yJ8_hugeLength_7cf53 : MethodName := ⟨RJ8, "hugeLength", "(II)I"⟩
abbrev cJ8_newLength_cabcc : ByteArray := prog_41_method_27_code
def yJ8_newLength_cabcc : MethodName := ⟨RJ8, "newLength", "(III)I"⟩
abbrev cJx29ce0_ordinal_8abf5 : ByteArray := prog_18_method_2_code
def yJx29ce0_ordinal_8abf5 : MethodName := ⟨RJx29ce0, "ordinal", "()I"⟩
abbrev cJx4a65c_add_72be8 : ByteArray := prog_34_method_24_code
def yJx4a65c_add_72be8 : MethodName := ⟨RJx4a65c, "add", "(Ljava/lang/Object;[Ljava/lang/Object;I)V"⟩
abbrev cJx4a65c_add_9ea2d : ByteArray := prog_34_method_25_code
def yJx4a65c_add_9ea2d : MethodName := ⟨RJx4a65c, "add", "(Ljava/lang/Object;)Z"⟩
abbrev cJx4a65c_clear_da8c8 : ByteArray := prog_34_method_40_code
def yJx4a65c_clear_da8c8 : MethodName := ⟨RJx4a65c, "clear", "()V"⟩
abbrev cJx4a65c_elementData_915e3 : ByteArray := prog_34_method_18_code
def yJx4a65c_elementData_915e3 : MethodName := ⟨RJx4a65c, "elementData", "(I)Ljava/lang/Object;"⟩
abbrev cJx4a65c_get_915e3 : ByteArray := prog_34_method_20_code
def yJx4a65c_get_915e3 : MethodName := ⟨RJx4a65c, "get", "(I)Ljava/lang/Object;"⟩
abbrev cJx4a65c_grow_92f84 : ByteArray := prog_34_method_6_code
def yJx4a65c_grow_92f84 : MethodName := ⟨RJx4a65c, "grow", "(I)[Ljava/lang/Object;"⟩
abbrev cJx4a65c_grow_d5877 : ByteArray := prog_34_method_7_code
def yJx4a65c_grow_d5877 : MethodName := ⟨RJx4a65c, "grow", "()[Ljava/lang/Object;"⟩
abbrev cJx4a65c_init_da8c8 : ByteArray := prog_34_method_2_code
def yJx4a65c_init_da8c8 : MethodName := ⟨RJx4a65c, "<init>", "()V"⟩
abbrev cJx4a65c_set_bcc79 : ByteArray := prog_34_method_23_code
def yJx4a65c_set_bcc79 : MethodName := ⟨RJx4a65c, "set", "(ILjava/lang/Object;)Ljava/lang/Object;"⟩
abbrev cJx4a65c_size_8abf5 : ByteArray := prog_34_method_8_code
def yJx4a65c_size_8abf5 : MethodName := ⟨RJx4a65c, "size", "()I"⟩
abbrev cJxa1e45_init_da8c8 : ByteArray := prog_32_method_1_code
def yJxa1e45_init_da8c8 : MethodName := ⟨RJxa1e45, "<init>", "()V"⟩
abbrev cJxc12de_init_da8c8 : ByteArray := prog_33_method_1_code
def yJxc12de_init_da8c8 : MethodName := ⟨RJxc12de, "<init>", "()V"⟩
abbrev cL_call : ByteArray := method_6_code
def yL_call : MethodName := ⟨RL, "call", "(LWiredBeans;II[J)I"⟩
abbrev cL_get : ByteArray := method_5_code
def yL_get : MethodName := ⟨RL, "get", "(LWiredBeans;J[J)I"⟩
abbrev cL_read : ByteArray := method_3_code
def yL_read : MethodName := ⟨RL, "read", "(LWiredBeans;[J)I"⟩
abbrev cL_refresh : ByteArray := method_4_code
def yL_refresh : MethodName := ⟨RL, "refresh", "(LWiredBeans;[J)I"⟩
abbrev cX10_called : ByteArray := prog_12_method_13_code
def yX10_called : MethodName := ⟨RX10, "called", "(J)LWiredBeans$Bean;"⟩
abbrev cX10_comesToItself : ByteArray := prog_12_method_10_code
def yX10_comesToItself : MethodName := ⟨RX10, "comesToItself", "(LWiredBeans$Bean;)Z"⟩
abbrev cX10_count : ByteArray := prog_12_method_3_code
def yX10_count : MethodName := ⟨RX10, "count", "()I"⟩
abbrev cX10_firstWrongPlace : ByteArray := prog_12_method_5_code
def yX10_firstWrongPlace : MethodName := ⟨RX10, "firstWrongPlace", "()I"⟩
abbrev cX10_forgetBeans : ByteArray := prog_12_method_2_code
def yX10_forgetBeans : MethodName := ⟨RX10, "forgetBeans", "()V"⟩
abbrev cX10_hasRightParent : ByteArray := prog_12_method_9_code
def yX10_hasRightParent : MethodName := ⟨RX10, "hasRightParent", "(LWiredBeans$Bean;)Z"⟩
abbrev cX10_init : ByteArray := prog_12_method_1_code
def yX10_init : MethodName := ⟨RX10, "<init>", "(LWiredBeans$Paper;)V"⟩
abbrev cX10_isRight : ByteArray := prog_12_method_8_code
def yX10_isRight : MethodName := ⟨RX10, "isRight", "(I)Z"⟩
abbrev cX10_merge : ByteArray := prog_12_method_11_code
def yX10_merge : MethodName := ⟨RX10, "merge", "(LWiredBeans$Bean;)V"⟩
abbrev cX10_nameBehindAlias : ByteArray := prog_12_method_14_code
def yX10_nameBehindAlias : MethodName := ⟨RX10, "nameBehindAlias", "(J)J"⟩
abbrev cX10_numbered : ByteArray := prog_12_method_4_code
def yX10_numbered : MethodName := ⟨RX10, "numbered", "(I)LWiredBeans$Bean;"⟩
abbrev cX10_settle : ByteArray := prog_12_method_6_code
def yX10_settle : MethodName := ⟨RX10, "settle", "(LWiredBeans$Element;)V"⟩
abbrev cX10_settleContent : ByteArray := prog_12_method_7_code
def yX10_settleContent : MethodName := ⟨RX10, "settleContent", "(LWiredBeans$Element;)V"⟩
abbrev cX10_withId : ByteArray := prog_12_method_12_code
def yX10_withId : MethodName := ⟨RX10, "withId", "(J)LWiredBeans$Bean;"⟩
abbrev cX11_withKey : ByteArray := prog_13_method_5_code
def yX11_withKey : MethodName := ⟨RX11, "withKey", "(J)LWiredBeans$Word;"⟩
abbrev cX12_areTypes : ByteArray := prog_1_method_20_code
def yX12_areTypes : MethodName := ⟨RX12, "areTypes", "(IIII)Z"⟩
abbrev cX12_bean : ByteArray := prog_1_method_16_code
def yX12_bean : MethodName := ⟨RX12, "bean", "(II)I"⟩
abbrev cX12_call : ByteArray := prog_1_method_11_code
def yX12_call : MethodName := ⟨RX12, "call", "(II)I"⟩
abbrev cX12_close : ByteArray := prog_1_method_12_code
def yX12_close : MethodName := ⟨RX12, "close", "()I"⟩
abbrev cX12_constructor : ByteArray := prog_1_method_3_code
def yX12_constructor : MethodName := ⟨RX12, "constructor", "(IIIII)Z"⟩
abbrev cX12_declare : ByteArray := prog_1_method_2_code
def yX12_declare : MethodName := ⟨RX12, "declare", "(II)Z"⟩
abbrev cX12_event : ByteArray := prog_1_method_14_code
def yX12_event : MethodName := ⟨RX12, "event", "(II)I"⟩
abbrev cX12_events : ByteArray := prog_1_method_13_code
def yX12_events : MethodName := ⟨RX12, "events", "()I"⟩
abbrev cX12_factory : ByteArray := prog_1_method_5_code
def yX12_factory : MethodName := ⟨RX12, "factory", "(IIZIIIII)Z"⟩
abbrev cX12_fault : ByteArray := prog_1_method_8_code
def yX12_fault : MethodName := ⟨RX12, "fault", "(I)I"⟩
abbrev cX12_get : ByteArray := prog_1_method_10_code
def yX12_get : MethodName := ⟨RX12, "get", "(J)I"⟩
abbrev cX12_init : ByteArray := prog_1_method_1_code
def yX12_init : MethodName := ⟨RX12, "<init>", "()V"⟩
abbrev cX12_isClass : ByteArray := prog_1_method_17_code
def yX12_isClass : MethodName := ⟨RX12, "isClass", "(I)Z"⟩
abbrev cX12_isLetter : ByteArray := prog_1_method_18_code
def yX12_isLetter : MethodName := ⟨RX12, "isLetter", "(I)Z"⟩
abbrev cX12_isType : ByteArray := prog_1_method_19_code
def yX12_isType : MethodName := ⟨RX12, "isType", "(I)Z"⟩
abbrev cX12_object : ByteArray := prog_1_method_15_code
def yX12_object : MethodName := ⟨RX12, "object", "(II)I"⟩
abbrev cX12_read : ByteArray := prog_1_method_7_code
def yX12_read : MethodName := ⟨RX12, "read", "()I"⟩
abbrev cX12_refresh : ByteArray := prog_1_method_9_code
def yX12_refresh : MethodName := ⟨RX12, "refresh", "()I"⟩
abbrev cX12_setter : ByteArray := prog_1_method_4_code
def yX12_setter : MethodName := ⟨RX12, "setter", "(III)Z"⟩
abbrev cX12_type : ByteArray := prog_1_method_6_code
def yX12_type : MethodName := ⟨RX12, "type", "(IIIII)I"⟩
abbrev cX12_typedBehind : ByteArray := prog_1_method_21_code
def yX12_typedBehind : MethodName := ⟨RX12, "typedBehind", "(II)I"⟩
abbrev cX12_withoutZeros : ByteArray := prog_1_method_22_code
def yX12_withoutZeros : MethodName := ⟨RX12, "withoutZeros", "(J)J"⟩
abbrev cX13_add : ByteArray := prog_15_method_29_code
def yX13_add : MethodName := ⟨RX13, "add", "(II)V"⟩
abbrev cX13_agrees : ByteArray := prog_15_method_25_code
def yX13_agrees : MethodName := ⟨RX13, "agrees", "(II)Z"⟩
abbrev cX13_ahead : ByteArray := prog_15_method_42_code
def yX13_ahead : MethodName := ⟨RX13, "ahead", "(IZ)I"⟩
abbrev cX13_areTypes : ByteArray := prog_15_method_5_code
def yX13_areTypes : MethodName := ⟨RX13, "areTypes", "(IIII)Z"⟩
abbrev cX13_arg : ByteArray := prog_15_method_57_code
def yX13_arg : MethodName := ⟨RX13, "arg", "(II)I"⟩
abbrev cX13_args : ByteArray := prog_15_method_58_code
def yX13_args : MethodName := ⟨RX13, "args", "(I)I"⟩
abbrev cX13_argsOf : ByteArray := prog_15_method_56_code
def yX13_argsOf : MethodName := ⟨RX13, "argsOf", "(I)I"⟩
abbrev cX13_attribute : ByteArray := prog_15_method_27_code
def yX13_attribute : MethodName := ⟨RX13, "attribute", "(I)V"⟩
abbrev cX13_bad : ByteArray := prog_15_method_15_code
def yX13_bad : MethodName := ⟨RX13, "bad", "(I)V"⟩
abbrev cX13_badBeans : ByteArray := prog_15_method_51_code
def yX13_badBeans : MethodName := ⟨RX13, "badBeans", "()I"⟩
abbrev cX13_badStructure : ByteArray := prog_15_method_46_code
def yX13_badStructure : MethodName := ⟨RX13, "badStructure", "()I"⟩
abbrev cX13_bean : ByteArray := prog_15_method_99_code
def yX13_bean : MethodName := ⟨RX13, "bean", "(II)I"⟩
abbrev cX13_begin : ByteArray := prog_15_method_30_code
def yX13_begin : MethodName := ⟨RX13, "begin", "(II)I"⟩
abbrev cX13_between : ByteArray := prog_15_method_22_code
def yX13_between : MethodName := ⟨RX13, "between", "()V"⟩
abbrev cX13_call : ByteArray := prog_15_method_93_code
def yX13_call : MethodName := ⟨RX13, "call", "(II)I"⟩
abbrev cX13_called : ByteArray := prog_15_method_68_code
def yX13_called : MethodName := ⟨RX13, "called", "(J)I"⟩
abbrev cX13_chosen : ByteArray := prog_15_method_83_code
def yX13_chosen : MethodName := ⟨RX13, "chosen", "(IZI)I"⟩
abbrev cX13_classIn : ByteArray := prog_15_method_37_code
def yX13_classIn : MethodName := ⟨RX13, "classIn", "(J)I"⟩
abbrev cX13_classOf : ByteArray := prog_15_method_54_code
def yX13_classOf : MethodName := ⟨RX13, "classOf", "(I)I"⟩
abbrev cX13_classWithFactory : ByteArray := prog_15_method_13_code
def yX13_classWithFactory : MethodName := ⟨RX13, "classWithFactory", "(IIZ)I"⟩
abbrev cX13_clear : ByteArray := prog_15_method_61_code
def yX13_clear : MethodName := ⟨RX13, "clear", "()V"⟩
abbrev cX13_close : ByteArray := prog_15_method_95_code
def yX13_close : MethodName := ⟨RX13, "close", "()I"⟩
abbrev cX13_comesToItself : ByteArray := prog_15_method_50_code
def yX13_comesToItself : MethodName := ⟨RX13, "comesToItself", "(I)Z"⟩
abbrev cX13_comment : ByteArray := prog_15_method_21_code
def yX13_comment : MethodName := ⟨RX13, "comment", "()V"⟩
abbrev cX13_constructor : ByteArray := prog_15_method_8_code
def yX13_constructor : MethodName := ⟨RX13, "constructor", "(IIIII)Z"⟩
abbrev cX13_declare : ByteArray := prog_15_method_7_code
def yX13_declare : MethodName := ⟨RX13, "declare", "(II)Z"⟩
abbrev cX13_deliver : ByteArray := prog_15_method_73_code
def yX13_deliver : MethodName := ⟨RX13, "deliver", "()V"⟩
abbrev cX13_end : ByteArray := prog_15_method_31_code
def yX13_end : MethodName := ⟨RX13, "end", "(I)V"⟩
abbrev cX13_entity : ByteArray := prog_15_method_24_code
def yX13_entity : MethodName := ⟨RX13, "entity", "()I"⟩
abbrev cX13_event : ByteArray := prog_15_method_97_code
def yX13_event : MethodName := ⟨RX13, "event", "(II)I"⟩
abbrev cX13_events : ByteArray := prog_15_method_96_code
def yX13_events : MethodName := ⟨RX13, "events", "()I"⟩
abbrev cX13_factory : ByteArray := prog_15_method_10_code
def yX13_factory : MethodName := ⟨RX13, "factory", "(IIZIIIII)Z"⟩
abbrev cX13_fails : ByteArray := prog_15_method_65_code
def yX13_fails : MethodName := ⟨RX13, "fails", "(I)V"⟩
abbrev cX13_fault : ByteArray := prog_15_method_63_code
def yX13_fault : MethodName := ⟨RX13, "fault", "(I)I"⟩
abbrev cX13_find : ByteArray := prog_15_method_28_code
def yX13_find : MethodName := ⟨RX13, "find", "(IJ)I"⟩
abbrev cX13_finish : ByteArray := prog_15_method_86_code
def yX13_finish : MethodName := ⟨RX13, "finish", "(I)V"⟩
abbrev cX13_get : ByteArray := prog_15_method_92_code
def yX13_get : MethodName := ⟨RX13, "get", "(J)I"⟩
abbrev cX13_gets : ByteArray := prog_15_method_69_code
def yX13_gets : MethodName := ⟨RX13, "gets", "(I)Z"⟩
abbrev cX13_happens : ByteArray := prog_15_method_64_code
def yX13_happens : MethodName := ⟨RX13, "happens", "(IIII)V"⟩
abbrev cX13_has : ByteArray := prog_15_method_33_code
def yX13_has : MethodName := ⟨RX13, "has", "(IJ)Z"⟩
abbrev cX13_here : ByteArray := prog_15_method_16_code
def yX13_here : MethodName := ⟨RX13, "here", "(I)I"⟩
abbrev cX13_init : ByteArray := prog_15_method_1_code
def yX13_init : MethodName := ⟨RX13, "<init>", "()V"⟩
abbrev cX13_inner : ByteArray := prog_15_method_55_code
def yX13_inner : MethodName := ⟨RX13, "inner", "(III)I"⟩
abbrev cX13_is : ByteArray := prog_15_method_77_code
def yX13_is : MethodName := ⟨RX13, "is", "(II)Z"⟩
abbrev cX13_isAbstract : ByteArray := prog_15_method_67_code
def yX13_isAbstract : MethodName := ⟨RX13, "isAbstract", "(I)Z"⟩
abbrev cX13_isAllowed : ByteArray := prog_15_method_40_code
def yX13_isAllowed : MethodName := ⟨RX13, "isAllowed", "(IJ)Z"⟩
abbrev cX13_isClass : ByteArray := prog_15_method_3_code
def yX13_isClass : MethodName := ⟨RX13, "isClass", "(I)Z"⟩
abbrev cX13_isFactory : ByteArray := prog_15_method_12_code
def yX13_isFactory : MethodName := ⟨RX13, "isFactory", "(IIZ)Z"⟩
abbrev cX13_isGood : ByteArray := prog_15_method_45_code
def yX13_isGood : MethodName := ⟨RX13, "isGood", "(I)Z"⟩
abbrev cX13_isGoodBean : ByteArray := prog_15_method_41_code
def yX13_isGoodBean : MethodName := ⟨RX13, "isGoodBean", "(I)Z"⟩
abbrev cX13_isGoodHolder : ByteArray := prog_15_method_43_code
def yX13_isGoodHolder : MethodName := ⟨RX13, "isGoodHolder", "(I)Z"⟩
abbrev cX13_isInPlace : ByteArray := prog_15_method_44_code
def yX13_isInPlace : MethodName := ⟨RX13, "isInPlace", "(I)Z"⟩
abbrev cX13_isLetter : ByteArray := prog_15_method_6_code
def yX13_isLetter : MethodName := ⟨RX13, "isLetter", "(I)Z"⟩
abbrev cX13_isMany : ByteArray := prog_15_method_66_code
def yX13_isMany : MethodName := ⟨RX13, "isMany", "(I)Z"⟩
abbrev cX13_isOneLetter : ByteArray := prog_15_method_38_code
def yX13_isOneLetter : MethodName := ⟨RX13, "isOneLetter", "(IJ)Z"⟩
abbrev cX13_isOneOf : ByteArray := prog_15_method_36_code
def yX13_isOneOf : MethodName := ⟨RX13, "isOneOf", "(IJII)Z"⟩
abbrev cX13_isSmall : ByteArray := prog_15_method_17_code
def yX13_isSmall : MethodName := ⟨RX13, "isSmall", "(I)Z"⟩
abbrev cX13_isType : ByteArray := prog_15_method_4_code
def yX13_isType : MethodName := ⟨RX13, "isType", "(I)Z"⟩
abbrev cX13_isUsed : ByteArray := prog_15_method_49_code
def yX13_isUsed : MethodName := ⟨RX13, "isUsed", "(IJ)Z"⟩
abbrev cX13_isWhite : ByteArray := prog_15_method_18_code
def yX13_isWhite : MethodName := ⟨RX13, "isWhite", "(I)Z"⟩
abbrev cX13_isWord : ByteArray := prog_15_method_35_code
def yX13_isWord : MethodName := ⟨RX13, "isWord", "(IJ)Z"⟩
abbrev cX13_keep : ByteArray := prog_15_method_70_code
def yX13_keep : MethodName := ⟨RX13, "keep", "(IIII)V"⟩
abbrev cX13_length : ByteArray := prog_15_method_74_code
def yX13_length : MethodName := ⟨RX13, "length", "(I)I"⟩
abbrev cX13_letter : ByteArray := prog_15_method_53_code
def yX13_letter : MethodName := ⟨RX13, "letter", "(IJ)I"⟩
abbrev cX13_letters : ByteArray := prog_15_method_91_code
def yX13_letters : MethodName := ⟨RX13, "letters", "(J)J"⟩
abbrev cX13_makeObject : ByteArray := prog_15_method_84_code
def yX13_makeObject : MethodName := ⟨RX13, "makeObject", "(I)V"⟩
abbrev cX13_merge : ByteArray := prog_15_method_59_code
def yX13_merge : MethodName := ⟨RX13, "merge", "([IIII)I"⟩
abbrev cX13_mergeBean : ByteArray := prog_15_method_60_code
def yX13_mergeBean : MethodName := ⟨RX13, "mergeBean", "(I)V"⟩
abbrev cX13_must : ByteArray := prog_15_method_20_code
def yX13_must : MethodName := ⟨RX13, "must", "(I)V"⟩
abbrev cX13_name : ByteArray := prog_15_method_23_code
def yX13_name : MethodName := ⟨RX13, "name", "()J"⟩
abbrev cX13_next : ByteArray := prog_15_method_88_code
def yX13_next : MethodName := ⟨RX13, "next", "(ZI)V"⟩
abbrev cX13_numberIn : ByteArray := prog_15_method_76_code
def yX13_numberIn : MethodName := ⟨RX13, "numberIn", "(I)J"⟩
abbrev cX13_numberedEntity : ByteArray := prog_15_method_26_code
def yX13_numberedEntity : MethodName := ⟨RX13, "numberedEntity", "()I"⟩
abbrev cX13_object : ByteArray := prog_15_method_98_code
def yX13_object : MethodName := ⟨RX13, "object", "(II)I"⟩
abbrev cX13_parentOf : ByteArray := prog_15_method_48_code
def yX13_parentOf : MethodName := ⟨RX13, "parentOf", "(I)I"⟩
abbrev cX13_placed : ByteArray := prog_15_method_81_code
def yX13_placed : MethodName := ⟨RX13, "placed", "(II)Z"⟩
abbrev cX13_read : ByteArray := prog_15_method_62_code
def yX13_read : MethodName := ⟨RX13, "read", "()I"⟩
abbrev cX13_readDocument : ByteArray := prog_15_method_32_code
def yX13_readDocument : MethodName := ⟨RX13, "readDocument", "()V"⟩
abbrev cX13_refresh : ByteArray := prog_15_method_90_code
def yX13_refresh : MethodName := ⟨RX13, "refresh", "()I"⟩
abbrev cX13_run : ByteArray := prog_15_method_89_code
def yX13_run : MethodName := ⟨RX13, "run", "(I)Z"⟩
abbrev cX13_setOne : ByteArray := prog_15_method_85_code
def yX13_setOne : MethodName := ⟨RX13, "setOne", "(I)V"⟩
abbrev cX13_setter : ByteArray := prog_15_method_9_code
def yX13_setter : MethodName := ⟨RX13, "setter", "(III)Z"⟩
abbrev cX13_shut : ByteArray := prog_15_method_94_code
def yX13_shut : MethodName := ⟨RX13, "shut", "()V"⟩
abbrev cX13_sign : ByteArray := prog_15_method_75_code
def yX13_sign : MethodName := ⟨RX13, "sign", "(II)I"⟩
abbrev cX13_step : ByteArray := prog_15_method_87_code
def yX13_step : MethodName := ⟨RX13, "step", "()V"⟩
abbrev cX13_sum : ByteArray := prog_15_method_82_code
def yX13_sum : MethodName := ⟨RX13, "sum", "(II[II)I"⟩
abbrev cX13_tell : ByteArray := prog_15_method_80_code
def yX13_tell : MethodName := ⟨RX13, "tell", "(IIIII)V"⟩
abbrev cX13_tells : ByteArray := prog_15_method_52_code
def yX13_tells : MethodName := ⟨RX13, "tells", "(IJ)I"⟩
abbrev cX13_told : ByteArray := prog_15_method_79_code
def yX13_told : MethodName := ⟨RX13, "told", "(III)I"⟩
abbrev cX13_type : ByteArray := prog_15_method_14_code
def yX13_type : MethodName := ⟨RX13, "type", "(IIIII)I"⟩
abbrev cX13_typeIn : ByteArray := prog_15_method_39_code
def yX13_typeIn : MethodName := ⟨RX13, "typeIn", "(I)I"⟩
abbrev cX13_typeOfSetter : ByteArray := prog_15_method_11_code
def yX13_typeOfSetter : MethodName := ⟨RX13, "typeOfSetter", "(II)I"⟩
abbrev cX13_weight : ByteArray := prog_15_method_78_code
def yX13_weight : MethodName := ⟨RX13, "weight", "(III)I"⟩
abbrev cX13_white : ByteArray := prog_15_method_19_code
def yX13_white : MethodName := ⟨RX13, "white", "()I"⟩
abbrev cX13_withId : ByteArray := prog_15_method_47_code
def yX13_withId : MethodName := ⟨RX13, "withId", "(J)I"⟩
abbrev cX13_word : ByteArray := prog_15_method_34_code
def yX13_word : MethodName := ⟨RX13, "word", "(IJ)J"⟩
abbrev cX13_worked : ByteArray := prog_15_method_71_code
def yX13_worked : MethodName := ⟨RX13, "worked", "(III)Z"⟩
abbrev cX13_workedOut : ByteArray := prog_15_method_72_code
def yX13_workedOut : MethodName := ⟨RX13, "workedOut", "(II)Z"⟩
abbrev cX1_begin : ByteArray := prog_3_method_2_code
def yX1_begin : MethodName := ⟨RX1, "begin", "(LWiredBeans$Element;LWiredBeans$Paper;)V"⟩
abbrev cX1_init : ByteArray := prog_3_method_1_code
def yX1_init : MethodName := ⟨RX1, "<init>", "(I)V"⟩
abbrev cX1_lookupNamed : ByteArray := prog_3_method_6_code
def yX1_lookupNamed : MethodName := ⟨RX1, "lookupNamed", "(I)LWiredBeans$Element;"⟩
abbrev cX1_overlay : ByteArray := prog_3_method_3_code
def yX1_overlay : MethodName := ⟨RX1, "overlay", "(LWiredBeans$Element;LWiredBeans$Paper;)V"⟩
abbrev cX1_overlayInner : ByteArray := prog_3_method_4_code
def yX1_overlayInner : MethodName := ⟨RX1, "overlayInner", "(LWiredBeans$Element;)V"⟩
abbrev cX1_putNamed : ByteArray := prog_3_method_5_code
def yX1_putNamed : MethodName := ⟨RX1, "putNamed", "(Ljava/util/ArrayList;LWiredBeans$Element;)V"⟩
abbrev cX1_told : ByteArray := prog_3_method_7_code
def yX1_told : MethodName := ⟨RX1, "told", "(I)I"⟩
abbrev cX2_addConstructor : ByteArray := prog_4_method_3_code
def yX2_addConstructor : MethodName := ⟨RX2, "addConstructor", "(IIII)Z"⟩
abbrev cX2_addFactory : ByteArray := prog_4_method_4_code
def yX2_addFactory : MethodName := ⟨RX2, "addFactory", "(IZIIIII)Z"⟩
abbrev cX2_addSetter : ByteArray := prog_4_method_5_code
def yX2_addSetter : MethodName := ⟨RX2, "addSetter", "(II)Z"⟩
abbrev cX2_begin : ByteArray := prog_4_method_2_code
def yX2_begin : MethodName := ⟨RX2, "begin", "(LWiredBeans$DeclaredClass;)V"⟩
abbrev cX2_init : ByteArray := prog_4_method_1_code
def yX2_init : MethodName := ⟨RX2, "<init>", "(I)V"⟩
abbrev cX2_ownsFactory : ByteArray := prog_4_method_8_code
def yX2_ownsFactory : MethodName := ⟨RX2, "ownsFactory", "(IZ)Z"⟩
abbrev cX2_setterType : ByteArray := prog_4_method_6_code
def yX2_setterType : MethodName := ⟨RX2, "setterType", "(I)I"⟩
abbrev cX2_stepsTo : ByteArray := prog_4_method_9_code
def yX2_stepsTo : MethodName := ⟨RX2, "stepsTo", "(I)I"⟩
abbrev cX2_withFactory : ByteArray := prog_4_method_7_code
def yX2_withFactory : MethodName := ⟨RX2, "withFactory", "(IZ)LWiredBeans$DeclaredClass;"⟩
abbrev cX3_addInner : ByteArray := prog_5_method_4_code
def yX3_addInner : MethodName := ⟨RX3, "addInner", "(LWiredBeans$Element;)V"⟩
abbrev cX3_begin : ByteArray := prog_5_method_2_code
def yX3_begin : MethodName := ⟨RX3, "begin", "(ILWiredBeans$Element;I)V"⟩
abbrev cX3_forgetWiring : ByteArray := prog_5_method_3_code
def yX3_forgetWiring : MethodName := ⟨RX3, "forgetWiring", "()V"⟩
abbrev cX3_init : ByteArray := prog_5_method_1_code
def yX3_init : MethodName := ⟨RX3, "<init>", "()V"⟩
abbrev cX3_isIn : ByteArray := prog_5_method_7_code
def yX3_isIn : MethodName := ⟨RX3, "isIn", "(LWiredBeans$Word;)Z"⟩
abbrev cX3_takeWhite : ByteArray := prog_5_method_6_code
def yX3_takeWhite : MethodName := ⟨RX3, "takeWhite", "(C)V"⟩
abbrev cX3_takesText : ByteArray := prog_5_method_5_code
def yX3_takesText : MethodName := ⟨RX3, "takesText", "(C)Z"⟩
abbrev cX3_textAsNumber : ByteArray := prog_5_method_10_code
def yX3_textAsNumber : MethodName := ⟨RX3, "textAsNumber", "()J"⟩
abbrev cX3_textIs : ByteArray := prog_5_method_9_code
def yX3_textIs : MethodName := ⟨RX3, "textIs", "(Ljava/lang/String;)Z"⟩
abbrev cX3_weighText : ByteArray := prog_5_method_8_code
def yX3_weighText : MethodName := ⟨RX3, "weighText", "()V"⟩
abbrev cX4_add : ByteArray := prog_6_method_4_code
def yX4_add : MethodName := ⟨RX4, "add", "(IIII)V"⟩
abbrev cX4_clear : ByteArray := prog_6_method_2_code
def yX4_clear : MethodName := ⟨RX4, "clear", "()V"⟩
abbrev cX4_count : ByteArray := prog_6_method_3_code
def yX4_count : MethodName := ⟨RX4, "count", "()I"⟩
abbrev cX4_init : ByteArray := prog_6_method_1_code
def yX4_init : MethodName := ⟨RX4, "<init>", "()V"⟩
abbrev cX4_number : ByteArray := prog_6_method_5_code
def yX4_number : MethodName := ⟨RX4, "number", "(II)I"⟩
abbrev cX5_applySets : ByteArray := prog_7_method_33_code
def yX5_applySets : MethodName := ⟨RX5, "applySets", "(LWiredBeans$Bean;I)V"⟩
abbrev cX5_beanOfObject : ByteArray := prog_7_method_9_code
def yX5_beanOfObject : MethodName := ⟨RX5, "beanOfObject", "(I)I"⟩
abbrev cX5_bringToBe : ByteArray := prog_7_method_32_code
def yX5_bringToBe : MethodName := ⟨RX5, "bringToBe", "(LWiredBeans$Bean;LWiredBeans$Signature;I)V"⟩
abbrev cX5_chooseFor : ByteArray := prog_7_method_25_code
def yX5_chooseFor : MethodName := ⟨RX5, "chooseFor", "(LWiredBeans$Bean;II)LWiredBeans$Signature;"⟩
abbrev cX5_classOfObject : ByteArray := prog_7_method_8_code
def yX5_classOfObject : MethodName := ⟨RX5, "classOfObject", "(I)I"⟩
abbrev cX5_destroyAll : ByteArray := prog_7_method_12_code
def yX5_destroyAll : MethodName := ⟨RX5, "destroyAll", "()V"⟩
abbrev cX5_failWith : ByteArray := prog_7_method_15_code
def yX5_failWith : MethodName := ⟨RX5, "failWith", "(I)I"⟩
abbrev cX5_failure : ByteArray := prog_7_method_4_code
def yX5_failure : MethodName := ⟨RX5, "failure", "()I"⟩
abbrev cX5_failureBean : ByteArray := prog_7_method_5_code
def yX5_failureBean : MethodName := ⟨RX5, "failureBean", "()I"⟩
abbrev cX5_finish : ByteArray := prog_7_method_19_code
def yX5_finish : MethodName := ⟨RX5, "finish", "(LWiredBeans$Bean;)V"⟩
abbrev cX5_forgetFailure : ByteArray := prog_7_method_3_code
def yX5_forgetFailure : MethodName := ⟨RX5, "forgetFailure", "()V"⟩
abbrev cX5_forgetMade : ByteArray := prog_7_method_11_code
def yX5_forgetMade : MethodName := ⟨RX5, "forgetMade", "()V"⟩
abbrev cX5_init : ByteArray := prog_7_method_1_code
def yX5_init : MethodName := ⟨RX5, "<init>", "(LWiredBeans$Wiring;[LWiredBeans$DeclaredClass;LWiredBeans$EventRow;)V"⟩
abbrev cX5_isObject : ByteArray := prog_7_method_7_code
def yX5_isObject : MethodName := ⟨RX5, "isObject", "(I)Z"⟩
abbrev cX5_itemValue : ByteArray := prog_7_method_23_code
def yX5_itemValue : MethodName := ⟨RX5, "itemValue", "(LWiredBeans$Element;I)I"⟩
abbrev cX5_lookupOf : ByteArray := prog_7_method_10_code
def yX5_lookupOf : MethodName := ⟨RX5, "lookupOf", "(II)LWiredBeans$Element;"⟩
abbrev cX5_make : ByteArray := prog_7_method_18_code
def yX5_make : MethodName := ⟨RX5, "make", "(LWiredBeans$Bean;I)I"⟩
abbrev cX5_objectCalled : ByteArray := prog_7_method_13_code
def yX5_objectCalled : MethodName := ⟨RX5, "objectCalled", "(J)I"⟩
abbrev cX5_objectCount : ByteArray := prog_7_method_6_code
def yX5_objectCount : MethodName := ⟨RX5, "objectCount", "()I"⟩
abbrev cX5_objectOf : ByteArray := prog_7_method_24_code
def yX5_objectOf : MethodName := ⟨RX5, "objectOf", "(LWiredBeans$Element;I)I"⟩
abbrev cX5_objectWeight : ByteArray := prog_7_method_31_code
def yX5_objectWeight : MethodName := ⟨RX5, "objectWeight", "(II)I"⟩
abbrev cX5_obtain : ByteArray := prog_7_method_17_code
def yX5_obtain : MethodName := ⟨RX5, "obtain", "(JI)I"⟩
abbrev cX5_placeOthers : ByteArray := prog_7_method_27_code
def yX5_placeOthers : MethodName := ⟨RX5, "placeOthers", "(LWiredBeans$Bean;I)V"⟩
abbrev cX5_placesArgs : ByteArray := prog_7_method_26_code
def yX5_placesArgs : MethodName := ⟨RX5, "placesArgs", "(LWiredBeans$Bean;)Z"⟩
abbrev cX5_renewsAll : ByteArray := prog_7_method_14_code
def yX5_renewsAll : MethodName := ⟨RX5, "renewsAll", "()Z"⟩
abbrev cX5_slot : ByteArray := prog_7_method_20_code
def yX5_slot : MethodName := ⟨RX5, "slot", "(II)I"⟩
abbrev cX5_startAfresh : ByteArray := prog_7_method_2_code
def yX5_startAfresh : MethodName := ⟨RX5, "startAfresh", "()V"⟩
abbrev cX5_stopMaking : ByteArray := prog_7_method_16_code
def yX5_stopMaking : MethodName := ⟨RX5, "stopMaking", "()V"⟩
abbrev cX5_sumFor : ByteArray := prog_7_method_28_code
def yX5_sumFor : MethodName := ⟨RX5, "sumFor", "(LWiredBeans$Bean;LWiredBeans$Signature;I)I"⟩
abbrev cX5_tellValue : ByteArray := prog_7_method_34_code
def yX5_tellValue : MethodName := ⟨RX5, "tellValue", "(IIILWiredBeans$Element;II)V"⟩
abbrev cX5_textValue : ByteArray := prog_7_method_36_code
def yX5_textValue : MethodName := ⟨RX5, "textValue", "(LWiredBeans$Element;I)I"⟩
abbrev cX5_textWeight : ByteArray := prog_7_method_30_code
def yX5_textWeight : MethodName := ⟨RX5, "textWeight", "(LWiredBeans$Element;I)I"⟩
abbrev cX5_valueOf : ByteArray := prog_7_method_35_code
def yX5_valueOf : MethodName := ⟨RX5, "valueOf", "(LWiredBeans$Element;II)I"⟩
abbrev cX5_weightOf : ByteArray := prog_7_method_29_code
def yX5_weightOf : MethodName := ⟨RX5, "weightOf", "(LWiredBeans$Element;II)I"⟩
abbrev cX5_workOut : ByteArray := prog_7_method_22_code
def yX5_workOut : MethodName := ⟨RX5, "workOut", "(LWiredBeans$Element;II)V"⟩
abbrev cX5_workOutArgs : ByteArray := prog_7_method_21_code
def yX5_workOutArgs : MethodName := ⟨RX5, "workOutArgs", "(LWiredBeans$Bean;I)V"⟩
abbrev cX6_addAttribute : ByteArray := prog_8_method_7_code
def yX6_addAttribute : MethodName := ⟨RX6, "addAttribute", "(LWiredBeans$Element;J)V"⟩
abbrev cX6_addElement : ByteArray := prog_8_method_6_code
def yX6_addElement : MethodName := ⟨RX6, "addElement", "(ILWiredBeans$Element;)LWiredBeans$Element;"⟩
abbrev cX6_attributeWord : ByteArray := prog_8_method_11_code
def yX6_attributeWord : MethodName := ⟨RX6, "attributeWord", "(I)LWiredBeans$Word;"⟩
abbrev cX6_classValue : ByteArray := prog_8_method_19_code
def yX6_classValue : MethodName := ⟨RX6, "classValue", "(LWiredBeans$Element;LWiredBeans$Word;)I"⟩
abbrev cX6_clear : ByteArray := prog_8_method_2_code
def yX6_clear : MethodName := ⟨RX6, "clear", "()V"⟩
abbrev cX6_count : ByteArray := prog_8_method_3_code
def yX6_count : MethodName := ⟨RX6, "count", "()I"⟩
abbrev cX6_element : ByteArray := prog_8_method_4_code
def yX6_element : MethodName := ⟨RX6, "element", "(I)LWiredBeans$Element;"⟩
abbrev cX6_find : ByteArray := prog_8_method_12_code
def yX6_find : MethodName := ⟨RX6, "find", "(LWiredBeans$Element;LWiredBeans$Word;)I"⟩
abbrev cX6_has : ByteArray := prog_8_method_10_code
def yX6_has : MethodName := ⟨RX6, "has", "(LWiredBeans$Element;LWiredBeans$Word;)Z"⟩
abbrev cX6_hasKey : ByteArray := prog_8_method_9_code
def yX6_hasKey : MethodName := ⟨RX6, "hasKey", "(LWiredBeans$Element;J)Z"⟩
abbrev cX6_init : ByteArray := prog_8_method_1_code
def yX6_init : MethodName := ⟨RX6, "<init>", "(I)V"⟩
abbrev cX6_isFull : ByteArray := prog_8_method_5_code
def yX6_isFull : MethodName := ⟨RX6, "isFull", "()Z"⟩
abbrev cX6_letterValue : ByteArray := prog_8_method_17_code
def yX6_letterValue : MethodName := ⟨RX6, "letterValue", "(LWiredBeans$Element;LWiredBeans$Word;)I"⟩
abbrev cX6_nameValue : ByteArray := prog_8_method_15_code
def yX6_nameValue : MethodName := ⟨RX6, "nameValue", "(LWiredBeans$Element;LWiredBeans$Word;)J"⟩
abbrev cX6_placeValue : ByteArray := prog_8_method_18_code
def yX6_placeValue : MethodName := ⟨RX6, "placeValue", "(LWiredBeans$Element;LWiredBeans$Word;)I"⟩
abbrev cX6_takesValue : ByteArray := prog_8_method_8_code
def yX6_takesValue : MethodName := ⟨RX6, "takesValue", "(C)Z"⟩
abbrev cX6_typeValue : ByteArray := prog_8_method_20_code
def yX6_typeValue : MethodName := ⟨RX6, "typeValue", "(LWiredBeans$Element;LWiredBeans$Word;)I"⟩
abbrev cX6_valueChar : ByteArray := prog_8_method_14_code
def yX6_valueChar : MethodName := ⟨RX6, "valueChar", "(II)C"⟩
abbrev cX6_valueIs : ByteArray := prog_8_method_16_code
def yX6_valueIs : MethodName := ⟨RX6, "valueIs", "(LWiredBeans$Element;LWiredBeans$Word;LWiredBeans$Word;)Z"⟩
abbrev cX6_valueLength : ByteArray := prog_8_method_13_code
def yX6_valueLength : MethodName := ⟨RX6, "valueLength", "(I)I"⟩
abbrev cX6_valueToText : ByteArray := prog_8_method_21_code
def yX6_valueToText : MethodName := ⟨RX6, "valueToText", "(LWiredBeans$Element;LWiredBeans$Word;)V"⟩
abbrev cX7_charAt : ByteArray := prog_9_method_4_code
def yX7_charAt : MethodName := ⟨RX7, "charAt", "(I)C"⟩
abbrev cX7_closeElement : ByteArray := prog_9_method_12_code
def yX7_closeElement : MethodName := ⟨RX7, "closeElement", "()V"⟩
abbrev cX7_expect : ByteArray := prog_9_method_5_code
def yX7_expect : MethodName := ⟨RX7, "expect", "(C)V"⟩
abbrev cX7_firstWrongPlace : ByteArray := prog_9_method_2_code
def yX7_firstWrongPlace : MethodName := ⟨RX7, "firstWrongPlace", "([CI)I"⟩
abbrev cX7_init : ByteArray := prog_9_method_1_code
def yX7_init : MethodName := ⟨RX7, "<init>", "(LWiredBeans$Paper;)V"⟩
abbrev cX7_isNameLetter : ByteArray := prog_9_method_6_code
def yX7_isNameLetter : MethodName := ⟨RX7, "isNameLetter", "(C)Z"⟩
abbrev cX7_leaveElement : ByteArray := prog_9_method_13_code
def yX7_leaveElement : MethodName := ⟨RX7, "leaveElement", "()V"⟩
abbrev cX7_openElement : ByteArray := prog_9_method_11_code
def yX7_openElement : MethodName := ⟨RX7, "openElement", "()V"⟩
abbrev cX7_readAttribute : ByteArray := prog_9_method_15_code
def yX7_readAttribute : MethodName := ⟨RX7, "readAttribute", "()V"⟩
abbrev cX7_readCharacter : ByteArray := prog_9_method_16_code
def yX7_readCharacter : MethodName := ⟨RX7, "readCharacter", "()C"⟩
abbrev cX7_readContent : ByteArray := prog_9_method_10_code
def yX7_readContent : MethodName := ⟨RX7, "readContent", "()V"⟩
abbrev cX7_readEntity : ByteArray := prog_9_method_17_code
def yX7_readEntity : MethodName := ⟨RX7, "readEntity", "(Ljava/lang/String;C)C"⟩
abbrev cX7_readName : ByteArray := prog_9_method_14_code
def yX7_readName : MethodName := ⟨RX7, "readName", "()J"⟩
abbrev cX7_readNumbered : ByteArray := prog_9_method_18_code
def yX7_readNumbered : MethodName := ⟨RX7, "readNumbered", "()C"⟩
abbrev cX7_refuseMore : ByteArray := prog_9_method_3_code
def yX7_refuseMore : MethodName := ⟨RX7, "refuseMore", "()V"⟩
abbrev cX7_skipAround : ByteArray := prog_9_method_8_code
def yX7_skipAround : MethodName := ⟨RX7, "skipAround", "()V"⟩
abbrev cX7_skipComment : ByteArray := prog_9_method_9_code
def yX7_skipComment : MethodName := ⟨RX7, "skipComment", "()V"⟩
abbrev cX7_skipsWhite : ByteArray := prog_9_method_7_code
def yX7_skipsWhite : MethodName := ⟨RX7, "skipsWhite", "()Z"⟩
abbrev cX8_describe : ByteArray := prog_10_method_2_code
def yX8_describe : MethodName := ⟨RX8, "describe", "(IZI)V"⟩
abbrev cX8_init : ByteArray := prog_10_method_1_code
def yX8_init : MethodName := ⟨RX8, "<init>", "(II)V"⟩
abbrev cX8_isCalled : ByteArray := prog_10_method_4_code
def yX8_isCalled : MethodName := ⟨RX8, "isCalled", "(IZ)Z"⟩
abbrev cX8_setTypes : ByteArray := prog_10_method_3_code
def yX8_setTypes : MethodName := ⟨RX8, "setTypes", "(IIII)V"⟩
abbrev cX9_beanHasWhatItNeeds : ByteArray := prog_11_method_13_code
def yX9_beanHasWhatItNeeds : MethodName := ⟨RX9, "beanHasWhatItNeeds", "(LWiredBeans$Element;)Z"⟩
abbrev cX9_beanMayHave : ByteArray := prog_11_method_10_code
def yX9_beanMayHave : MethodName := ⟨RX9, "beanMayHave", "(LWiredBeans$Word;Z)Z"⟩
abbrev cX9_firstWrongPlace : ByteArray := prog_11_method_2_code
def yX9_firstWrongPlace : MethodName := ⟨RX9, "firstWrongPlace", "()I"⟩
abbrev cX9_hasRightAttributes : ByteArray := prog_11_method_8_code
def yX9_hasRightAttributes : MethodName := ⟨RX9, "hasRightAttributes", "(LWiredBeans$Element;)Z"⟩
abbrev cX9_hasRightCount : ByteArray := prog_11_method_14_code
def yX9_hasRightCount : MethodName := ⟨RX9, "hasRightCount", "(LWiredBeans$Element;)Z"⟩
abbrev cX9_hasRightValue : ByteArray := prog_11_method_11_code
def yX9_hasRightValue : MethodName := ⟨RX9, "hasRightValue", "(LWiredBeans$Element;LWiredBeans$Word;)Z"⟩
abbrev cX9_hasWhatItNeeds : ByteArray := prog_11_method_12_code
def yX9_hasWhatItNeeds : MethodName := ⟨RX9, "hasWhatItNeeds", "(LWiredBeans$Element;)Z"⟩
abbrev cX9_init : ByteArray := prog_11_method_1_code
def yX9_init : MethodName := ⟨RX9, "<init>", "(LWiredBeans$Paper;)V"⟩
abbrev cX9_isFirstOfName : ByteArray := prog_11_method_7_code
def yX9_isFirstOfName : MethodName := ⟨RX9, "isFirstOfName", "(LWiredBeans$Element;)Z"⟩
abbrev cX9_isHeld : ByteArray := prog_11_method_5_code
def yX9_isHeld : MethodName := ⟨RX9, "isHeld", "(LWiredBeans$Element;)Z"⟩
abbrev cX9_isRight : ByteArray := prog_11_method_3_code
def yX9_isRight : MethodName := ⟨RX9, "isRight", "(LWiredBeans$Element;)Z"⟩
abbrev cX9_likeBefore : ByteArray := prog_11_method_6_code
def yX9_likeBefore : MethodName := ⟨RX9, "likeBefore", "(LWiredBeans$Element;)I"⟩
abbrev cX9_mayHave : ByteArray := prog_11_method_9_code
def yX9_mayHave : MethodName := ⟨RX9, "mayHave", "(LWiredBeans$Element;LWiredBeans$Word;)Z"⟩
abbrev cX9_standsRight : ByteArray := prog_11_method_4_code
def yX9_standsRight : MethodName := ⟨RX9, "standsRight", "(LWiredBeans$Element;)Z"⟩
abbrev vwCl : List vw_C := [(RJx4a65c, TJx4a65c, 3), (RX1, TX1, 19), (RX2, TX2, 8), (RX3, TX3, 21), (RX4, TX4, 2), (RX5, TX5, 13), (RX6, TX6, 8), (RX7, TX7, 6), (RX8, TX8, 7), (RX9, TX9, 1), (RX10, TX10, 4), (RX12, TX12, 12), (RX13, TX13, 77)]
def tbA_0 : List Cond := [.selects RX12 yX12_typedBehind yX12_typedBehind, .selects RX5 yX5_forgetMade yX5_forgetMade, .selects RX5 yX5_isObject yX5_isObject, .selects RX7 yX7_skipAround yX7_skipAround, .selects RX7 yX7_skipsWhite yX7_skipsWhite, .selects RX7 yX7_charAt yX7_charAt, .selects RX7 yX7_skipComment yX7_skipComment, .selects RX7 yX7_expect yX7_expect, .selects RX7 yX7_openElement yX7_openElement, .selects RX7 yX7_readName yX7_readName, .selects RX3 yX3_forgetWiring yX3_forgetWiring, .selects RX7 yX7_readAttribute yX7_readAttribute, .selects RX7 yX7_readCharacter yX7_readCharacter, .selects RX7 yX7_readEntity yX7_readEntity, .selects RX7 yX7_readNumbered yX7_readNumbered, .selects RX7 yX7_leaveElement yX7_leaveElement, .selects RX7 yX7_readContent yX7_readContent, .selects RX3 yX3_takeWhite yX3_takeWhite, .selects RX7 yX7_closeElement yX7_closeElement, .selects RX7 yX7_refuseMore yX7_refuseMore, .selects RX9 yX9_isRight yX9_isRight, .selects RX9 yX9_standsRight yX9_standsRight, .selects RX9 yX9_isHeld yX9_isHeld, .selects RX9 yX9_likeBefore yX9_likeBefore]
def tbA_1 : List Cond := [.selects RX9 yX9_isFirstOfName yX9_isFirstOfName, .selects RX6 yX6_find yX6_find, .selects RX6 yX6_valueLength yX6_valueLength, .selects RX6 yX6_valueChar yX6_valueChar, .selects RX9 yX9_hasRightAttributes yX9_hasRightAttributes, .selects RX9 yX9_mayHave yX9_mayHave, .selects RX9 yX9_beanMayHave yX9_beanMayHave, .selects RX9 yX9_hasRightValue yX9_hasRightValue, .selects RX9 yX9_hasWhatItNeeds yX9_hasWhatItNeeds, .selects RX9 yX9_beanHasWhatItNeeds yX9_beanHasWhatItNeeds, .selects RX9 yX9_hasRightCount yX9_hasRightCount, .selects RX10 yX10_settle yX10_settle, .selects RX10 yX10_settleContent yX10_settleContent, .selects RX3 yX3_textAsNumber yX3_textAsNumber, .selects RX3 yX3_textIs yX3_textIs, .selects RX10 yX10_isRight yX10_isRight, .selects RX10 yX10_hasRightParent yX10_hasRightParent, .selects RX10 yX10_withId yX10_withId, .selects RX10 yX10_comesToItself yX10_comesToItself, .selects RX10 yX10_merge yX10_merge, .selects RX1 yX1_overlayInner yX1_overlayInner, .selects RJx4a65c yJx4a65c_add_72be8 yJx4a65c_add_72be8, .selects RJx4a65c yJx4a65c_grow_d5877 yJx4a65c_grow_d5877, .selects RJx4a65c yJx4a65c_grow_92f84 yJx4a65c_grow_92f84]
def tbA_2 : List Cond := [.selects RX5 yX5_obtain yX5_obtain, .selects RX10 yX10_nameBehindAlias yX10_nameBehindAlias, .selects RX5 yX5_failWith yX5_failWith, .selects RX5 yX5_make yX5_make, .selects RX5 yX5_workOutArgs yX5_workOutArgs, .selects RX5 yX5_workOut yX5_workOut, .selects RX5 yX5_itemValue yX5_itemValue, .selects RX5 yX5_objectOf yX5_objectOf, .selects RX5 yX5_chooseFor yX5_chooseFor, .selects RX2 yX2_ownsFactory yX2_ownsFactory, .selects RX5 yX5_placesArgs yX5_placesArgs, .selects RX5 yX5_placeOthers yX5_placeOthers, .selects RX5 yX5_sumFor yX5_sumFor, .selects RX5 yX5_weightOf yX5_weightOf, .selects RX5 yX5_objectWeight yX5_objectWeight, .selects RX5 yX5_bringToBe yX5_bringToBe, .selects RX5 yX5_tellValue yX5_tellValue, .selects RX5 yX5_valueOf yX5_valueOf, .selects RX5 yX5_applySets yX5_applySets, .selects RX5 yX5_finish yX5_finish, .selects RX5 yX5_stopMaking yX5_stopMaking, .selects RX13 yX13_clear yX13_clear, .selects RX13 yX13_readDocument yX13_readDocument, .selects RX13 yX13_between yX13_between]
def tbA_3 : List Cond := [.selects RX13 yX13_white yX13_white, .selects RX13 yX13_here yX13_here, .selects RX13 yX13_isWhite yX13_isWhite, .selects RX13 yX13_comment yX13_comment, .selects RX13 yX13_must yX13_must, .selects RX13 yX13_bad yX13_bad, .selects RX13 yX13_isSmall yX13_isSmall, .selects RX13 yX13_begin yX13_begin, .selects RX13 yX13_name yX13_name, .selects RX13 yX13_attribute yX13_attribute, .selects RX13 yX13_find yX13_find, .selects RX13 yX13_entity yX13_entity, .selects RX13 yX13_numberedEntity yX13_numberedEntity, .selects RX13 yX13_agrees yX13_agrees, .selects RX13 yX13_add yX13_add, .selects RX13 yX13_end yX13_end, .selects RX13 yX13_badStructure yX13_badStructure, .selects RX13 yX13_isGood yX13_isGood, .selects RX13 yX13_isInPlace yX13_isInPlace, .selects RX13 yX13_isAllowed yX13_isAllowed, .selects RX13 yX13_isWord yX13_isWord, .selects RX13 yX13_isGoodBean yX13_isGoodBean, .selects RX13 yX13_has yX13_has, .selects RX13 yX13_isOneLetter yX13_isOneLetter]
def tbA_4 : List Cond := [.selects RX13 yX13_word yX13_word, .selects RX13 yX13_isOneOf yX13_isOneOf, .selects RX13 yX13_isGoodHolder yX13_isGoodHolder, .selects RX13 yX13_ahead yX13_ahead, .selects RX13 yX13_typeIn yX13_typeIn, .selects RX13 yX13_badBeans yX13_badBeans, .selects RX13 yX13_isUsed yX13_isUsed, .selects RX13 yX13_parentOf yX13_parentOf, .selects RX13 yX13_withId yX13_withId, .selects RX13 yX13_comesToItself yX13_comesToItself, .selects RX13 yX13_mergeBean yX13_mergeBean, .selects RX13 yX13_inner yX13_inner, .selects RX13 yX13_merge yX13_merge, .selects RX13 yX13_isAbstract yX13_isAbstract, .selects RX13 yX13_isMany yX13_isMany, .selects RX13 yX13_run yX13_run, .selects RX13 yX13_gets yX13_gets, .selects RX13 yX13_fails yX13_fails, .selects RX13 yX13_step yX13_step, .selects RX13 yX13_called yX13_called, .selects RX13 yX13_deliver yX13_deliver, .selects RX13 yX13_arg yX13_arg, .selects RX13 yX13_argsOf yX13_argsOf, .selects RX13 yX13_keep yX13_keep]
def tbA_5 : List Cond := [.selects RX13 yX13_tells yX13_tells, .selects RX13 yX13_args yX13_args, .selects RX13 yX13_workedOut yX13_workedOut, .selects RX13 yX13_worked yX13_worked, .selects RX13 yX13_next yX13_next, .selects RX13 yX13_makeObject yX13_makeObject, .selects RX13 yX13_letter yX13_letter, .selects RX13 yX13_classOf yX13_classOf, .selects RX13 yX13_classWithFactory yX13_classWithFactory, .selects RX13 yX13_isFactory yX13_isFactory, .selects RX13 yX13_chosen yX13_chosen, .selects RX13 yX13_sum yX13_sum, .selects RX13 yX13_placed yX13_placed, .selects RX13 yX13_weight yX13_weight, .selects RX13 yX13_numberIn yX13_numberIn, .selects RX13 yX13_length yX13_length, .selects RX13 yX13_sign yX13_sign, .selects RX13 yX13_is yX13_is, .selects RX13 yX13_happens yX13_happens, .selects RX13 yX13_tell yX13_tell, .selects RX13 yX13_told yX13_told, .selects RX13 yX13_finish yX13_finish, .selects RX13 yX13_setOne yX13_setOne, .selects RX13 yX13_typeOfSetter yX13_typeOfSetter]
def tbA_6 : List Cond := [.selects RX13 yX13_shut yX13_shut, .initialized RL, .initialized RX12, .initialized RX2, .initialized RX8, .initialized RX6, .initialized RX3, .initialized RX7, .initialized RX9, .initialized RX10, .initialized RX1, .initialized RJxa1e45, .initialized RJxc12de, .initialized RJx4a65c, .initialized RX4, .initialized RX5, .initialized RX13, .initialized "java/lang/IllegalArgumentException", .initialized RJx29ce0, .initialized RX11, .initialized RJ0, .initialized RJ1, .initialized RJ3, .initialized RJ2]
def tbA_7 : List Cond := [.initialized RJ8, .initialized "java/lang/Math", .initialized RJ7, .initialized "java/lang/System", .initialized RJ15, .initialized "java/lang/IllegalStateException", .initialized "java/lang/UnsupportedOperationException", .initialized "java/lang/IndexOutOfBoundsException", .classLink RL 8 RX12, .instantiable RX12 12, .methodLink RL 32 yX12_init, .instanceMethod yX12_init, .methodLink RX12 1 objectInit, .instanceMethod objectInit, .classLink RX12 9 RX2, .instantiable RX2 8, .methodLink RX12 15 yX2_init, .instanceMethod yX2_init, .methodLink RX2 3 objectInit, .classLink RX2 15 RX8, .instantiable RX8 7, .methodLink RX2 24 yX8_init, .instanceMethod yX8_init, .methodLink RX8 3 objectInit]
def tbA_8 : List Cond := [.fieldLink RX8 9 "WiredBeans$Signature" "owner" "I", .fieldLink RX5 333 "WiredBeans$Signature" "owner" "I", .fieldLink RX8 15 "WiredBeans$Signature" "number" "I", .fieldLink RX5 332 "WiredBeans$Signature" "number" "I", .fieldLink RX8 18 "WiredBeans$Signature" "types" "[I", .fieldLink RX5 292 "WiredBeans$Signature" "types" "[I", .fieldLink RX8 32 "WiredBeans$Signature" "count" "I", .fieldLink RX5 290 "WiredBeans$Signature" "count" "I", .fieldLink RX8 22 "WiredBeans$Signature" "name" "I", .fieldLink RX5 329 "WiredBeans$Signature" "name" "I", .fieldLink RX8 25 "WiredBeans$Signature" "isStatic" "Z", .fieldLink RX8 29 "WiredBeans$Signature" "result" "I", .fieldLink RX5 326 "WiredBeans$Signature" "result" "I", .arrayClass .int, .fieldLink RX2 17 "WiredBeans$DeclaredClass" "constructors" "[LWiredBeans$Signature;", .fieldLink RX5 251 "WiredBeans$DeclaredClass" "constructors" "[LWiredBeans$Signature;", .fieldLink RX2 21 "WiredBeans$DeclaredClass" "factories" "[LWiredBeans$Signature;", .fieldLink RX5 264 "WiredBeans$DeclaredClass" "factories" "[LWiredBeans$Signature;", .fieldLink RX2 35 "WiredBeans$DeclaredClass" "constructorCount" "I", .fieldLink RX5 257 "WiredBeans$DeclaredClass" "constructorCount" "I", .fieldLink RX2 38 "WiredBeans$DeclaredClass" "factoryCount" "I", .fieldLink RX5 267 "WiredBeans$DeclaredClass" "factoryCount" "I", .fieldLink RX2 9 "WiredBeans$DeclaredClass" "number" "I", .fieldLink RX2 27 "WiredBeans$DeclaredClass" "setterTypes" "[I"]
def tbA_9 : List Cond := [.fieldLink RX2 41 "WiredBeans$DeclaredClass" "setterCount" "I", .fieldLink RX2 31 "WiredBeans$DeclaredClass" "parent" "LWiredBeans$DeclaredClass;", .classLink RX12 22 RX6, .instantiable RX6 8, .methodLink RX12 24 yX6_init, .instanceMethod yX6_init, .methodLink RX6 3 objectInit, .classLink RX6 11 RX3, .instantiable RX3 21, .methodLink RX6 17 yX3_init, .instanceMethod yX3_init, .methodLink RX3 3 objectInit, .fieldLink RX3 11 "WiredBeans$Element" "text" "[C", .fieldLink RX6 99 "WiredBeans$Element" "text" "[C", .fieldLink RX5 358 "WiredBeans$Element" "text" "[C", .fieldLink RX3 15 "WiredBeans$Element" "textLength" "I", .fieldLink RX9 48 "WiredBeans$Element" "textLength" "I", .fieldLink RX6 102 "WiredBeans$Element" "textLength" "I", .fieldLink RX5 236 "WiredBeans$Element" "textLength" "I", .fieldLink RX3 19 "WiredBeans$Element" "textEnd" "I", .fieldLink RX3 22 "WiredBeans$Element" "place" "I", .fieldLink RX9 29 "WiredBeans$Element" "place" "I", .fieldLink RX10 48 "WiredBeans$Element" "place" "I", .fieldLink RX1 186 "WiredBeans$Element" "place" "I"]
def tbA_10 : List Cond := [.fieldLink RX7 111 "WiredBeans$Element" "place" "I", .fieldLink RX3 25 "WiredBeans$Element" "word" "LWiredBeans$Word;", .fieldLink RX9 35 "WiredBeans$Element" "word" "LWiredBeans$Word;", .fieldLink RX1 151 "WiredBeans$Element" "word" "LWiredBeans$Word;", .fieldLink RX10 57 "WiredBeans$Element" "word" "LWiredBeans$Word;", .fieldLink RX7 101 "WiredBeans$Element" "word" "LWiredBeans$Word;", .fieldLink RX3 29 "WiredBeans$Element" "outer" "LWiredBeans$Element;", .fieldLink RX9 68 "WiredBeans$Element" "outer" "LWiredBeans$Element;", .fieldLink RX7 114 "WiredBeans$Element" "outer" "LWiredBeans$Element;", .fieldLink RX3 33 "WiredBeans$Element" "firstInner" "LWiredBeans$Element;", .fieldLink RX1 146 "WiredBeans$Element" "firstInner" "LWiredBeans$Element;", .fieldLink RX9 101 "WiredBeans$Element" "firstInner" "LWiredBeans$Element;", .fieldLink RX10 137 "WiredBeans$Element" "firstInner" "LWiredBeans$Element;", .fieldLink RX5 214 "WiredBeans$Element" "firstInner" "LWiredBeans$Element;", .fieldLink RX3 36 "WiredBeans$Element" "next" "LWiredBeans$Element;", .fieldLink RX1 168 "WiredBeans$Element" "next" "LWiredBeans$Element;", .fieldLink RX9 104 "WiredBeans$Element" "next" "LWiredBeans$Element;", .fieldLink RX5 221 "WiredBeans$Element" "next" "LWiredBeans$Element;", .fieldLink RX3 39 "WiredBeans$Element" "innerCount" "I", .fieldLink RX9 203 "WiredBeans$Element" "innerCount" "I", .fieldLink RX5 352 "WiredBeans$Element" "innerCount" "I", .fieldLink RX3 42 "WiredBeans$Element" "firstAttribute" "I", .fieldLink RX9 117 "WiredBeans$Element" "firstAttribute" "I", .fieldLink RX6 54 "WiredBeans$Element" "firstAttribute" "I"]
def tbA_11 : List Cond := [.fieldLink RX3 45 "WiredBeans$Element" "attributeCount" "I", .fieldLink RX6 51 "WiredBeans$Element" "attributeCount" "I", .fieldLink RX9 114 "WiredBeans$Element" "attributeCount" "I", .fieldLink RX7 117 "WiredBeans$Element" "attributeCount" "I", .fieldLink RX3 51 "WiredBeans$Element" "name" "J", .fieldLink RX10 82 "WiredBeans$Element" "name" "J", .fieldLink RX3 55 "WiredBeans$Element" "target" "J", .fieldLink RX10 89 "WiredBeans$Element" "target" "J", .fieldLink RX12 172 "WiredBeans$Element" "target" "J", .fieldLink RX5 245 "WiredBeans$Element" "target" "J", .fieldLink RX3 60 "WiredBeans$Element" "number" "J", .fieldLink RX5 316 "WiredBeans$Element" "number" "J", .fieldLink RX3 63 "WiredBeans$Element" "truth" "I", .fieldLink RX5 320 "WiredBeans$Element" "truth" "I", .fieldLink RX3 66 "WiredBeans$Element" "letter" "I", .fieldLink RX1 179 "WiredBeans$Element" "letter" "I", .fieldLink RX10 128 "WiredBeans$Element" "letter" "I", .fieldLink RX5 343 "WiredBeans$Element" "letter" "I", .fieldLink RX3 69 "WiredBeans$Element" "at" "I", .fieldLink RX10 110 "WiredBeans$Element" "at" "I", .fieldLink RX5 284 "WiredBeans$Element" "at" "I", .fieldLink RX3 72 "WiredBeans$Element" "type" "I", .fieldLink RX10 119 "WiredBeans$Element" "type" "I", .fieldLink RX5 295 "WiredBeans$Element" "type" "I"]
def tbA_12 : List Cond := [.fieldLink RX3 75 "WiredBeans$Element" "kind" "LWiredBeans$Word;", .fieldLink RX10 61 "WiredBeans$Element" "kind" "LWiredBeans$Word;", .fieldLink RX5 205 "WiredBeans$Element" "kind" "LWiredBeans$Word;", .fieldLink RX3 78 "WiredBeans$Element" "content" "LWiredBeans$Element;", .fieldLink RX10 141 "WiredBeans$Element" "content" "LWiredBeans$Element;", .fieldLink RX5 193 "WiredBeans$Element" "content" "LWiredBeans$Element;", .fieldLink RX3 81 "WiredBeans$Element" "bean" "LWiredBeans$Bean;", .fieldLink RX10 95 "WiredBeans$Element" "bean" "LWiredBeans$Bean;", .fieldLink RX5 242 "WiredBeans$Element" "bean" "LWiredBeans$Bean;", .arrayClass .char, .fieldLink RX6 13 "WiredBeans$Paper" "elements" "[LWiredBeans$Element;", .fieldLink RX6 18 "WiredBeans$Paper" "attributeKeys" "[J", .fieldLink RX6 22 "WiredBeans$Paper" "valueStarts" "[I", .fieldLink RX6 26 "WiredBeans$Paper" "valueLengths" "[I", .fieldLink RX6 29 "WiredBeans$Paper" "values" "[C", .fieldLink RX6 33 "WiredBeans$Paper" "count" "I", .fieldLink RX6 37 "WiredBeans$Paper" "attributes" "I", .fieldLink RX6 40 "WiredBeans$Paper" "valuesEnd" "I", .arrayClass .long, .classLink RX12 29 RX7, .instantiable RX7 6, .methodLink RX12 31 yX7_init, .instanceMethod yX7_init, .methodLink RX7 3 objectInit]
def tbA_13 : List Cond := [.fieldLink RX7 9 "WiredBeans$Reader" "paper" "LWiredBeans$Paper;", .fieldLink RX7 15 "WiredBeans$Reader" "text" "[C", .fieldLink RX7 19 "WiredBeans$Reader" "length" "I", .fieldLink RX7 23 "WiredBeans$Reader" "at" "I", .fieldLink RX7 26 "WiredBeans$Reader" "depth" "I", .fieldLink RX7 29 "WiredBeans$Reader" "open" "LWiredBeans$Element;", .classLink RX12 38 RX9, .instantiable RX9 1, .methodLink RX12 40 yX9_init, .instanceMethod yX9_init, .methodLink RX9 3 objectInit, .fieldLink RX9 9 "WiredBeans$Structure" "paper" "LWiredBeans$Paper;", .classLink RX12 45 RX10, .instantiable RX10 4, .methodLink RX12 47 yX10_init, .instanceMethod yX10_init, .methodLink RX10 3 objectInit, .classLink RX10 17 RX1, .instantiable RX1 19, .methodLink RX10 23 yX1_init, .instanceMethod yX1_init, .methodLink RX1 3 objectInit, .classLink RX1 15 RJx4a65c, .instantiable RJx4a65c 3]
def tbA_14 : List Cond := [.methodLink RX1 17 yJx4a65c_init_da8c8, .instanceMethod yJx4a65c_init_da8c8, .methodLink RJx4a65c 1 yJxc12de_init_da8c8, .instanceMethod yJxc12de_init_da8c8, .methodLink RJxc12de 1 yJxa1e45_init_da8c8, .instanceMethod yJxa1e45_init_da8c8, .methodLink RJxa1e45 1 objectInit, .fieldLink RJx4a65c 39 "java/util/ArrayList" "DEFAULTCAPACITY_EMPTY_ELEMENTDATA" "[Ljava/lang/Object;", .fieldLink RJx4a65c 9 "java/util/ArrayList" "elementData" "[Ljava/lang/Object;", .fieldLink RJx4a65c 48 "java/util/ArrayList" "size" "I", .fieldLink RJxc12de 7 "java/util/AbstractList" "modCount" "I", .fieldLink RJx4a65c 63 "java/util/ArrayList" "modCount" "I", .sameField "java/util/ArrayList" "java/util/AbstractList" "modCount" "I", .fieldLink RX1 9 "WiredBeans$Bean" "number" "I", .fieldLink RX5 128 "WiredBeans$Bean" "number" "I", .fieldLink RX1 18 "WiredBeans$Bean" "args" "Ljava/util/ArrayList;", .fieldLink RX5 178 "WiredBeans$Bean" "args" "Ljava/util/ArrayList;", .fieldLink RX1 22 "WiredBeans$Bean" "sets" "Ljava/util/ArrayList;", .fieldLink RX5 340 "WiredBeans$Bean" "sets" "Ljava/util/ArrayList;", .fieldLink RX1 25 "WiredBeans$Bean" "lookups" "Ljava/util/ArrayList;", .fieldLink RX1 28 "WiredBeans$Bean" "element" "LWiredBeans$Element;", .fieldLink RX10 172 "WiredBeans$Bean" "element" "LWiredBeans$Element;", .fieldLink RX1 47 "WiredBeans$Bean" "id" "J", .fieldLink RX10 177 "WiredBeans$Bean" "id" "J"]
def tbA_15 : List Cond := [.fieldLink RX5 108 "WiredBeans$Bean" "id" "J", .fieldLink RX1 54 "WiredBeans$Bean" "parent" "J", .fieldLink RX10 162 "WiredBeans$Bean" "parent" "J", .fieldLink RX1 60 "WiredBeans$Bean" "depends" "J", .fieldLink RX5 147 "WiredBeans$Bean" "depends" "J", .fieldLink RX1 92 "WiredBeans$Bean" "factory" "J", .fieldLink RX5 153 "WiredBeans$Bean" "factory" "J", .fieldLink RX1 95 "WiredBeans$Bean" "classNumber" "I", .fieldLink RX5 150 "WiredBeans$Bean" "classNumber" "I", .fieldLink RX1 98 "WiredBeans$Bean" "method" "I", .fieldLink RX5 248 "WiredBeans$Bean" "method" "I", .fieldLink RX1 101 "WiredBeans$Bean" "init" "I", .fieldLink RX5 171 "WiredBeans$Bean" "init" "I", .fieldLink RX1 104 "WiredBeans$Bean" "destroy" "I", .fieldLink RX5 89 "WiredBeans$Bean" "destroy" "I", .fieldLink RX1 73 "WiredBeans$Bean" "isAbstract" "Z", .fieldLink RX5 112 "WiredBeans$Bean" "isAbstract" "Z", .fieldLink RX1 83 "WiredBeans$Bean" "isMany" "Z", .fieldLink RX5 115 "WiredBeans$Bean" "isMany" "Z", .fieldLink RX1 89 "WiredBeans$Bean" "isLazy" "Z", .fieldLink RX5 118 "WiredBeans$Bean" "isLazy" "Z", .fieldLink RX1 107 "WiredBeans$Bean" "isBeingMade" "Z", .fieldLink RX5 132 "WiredBeans$Bean" "isBeingMade" "Z", .fieldLink RX1 110 "WiredBeans$Bean" "isMade" "Z"]
def tbA_16 : List Cond := [.fieldLink RX5 82 "WiredBeans$Bean" "isMade" "Z", .fieldLink RX1 113 "WiredBeans$Bean" "madeObject" "I", .fieldLink RX5 92 "WiredBeans$Bean" "madeObject" "I", .fieldLink RX10 9 "WiredBeans$Wiring" "paper" "LWiredBeans$Paper;", .fieldLink RX10 19 "WiredBeans$Wiring" "beans" "[LWiredBeans$Bean;", .fieldLink RX10 26 "WiredBeans$Wiring" "chain" "[LWiredBeans$Bean;", .fieldLink RX10 29 "WiredBeans$Wiring" "count" "I", .classLink RX12 52 RX4, .instantiable RX4 2, .methodLink RX12 54 yX4_init, .instanceMethod yX4_init, .methodLink RX4 3 objectInit, .fieldLink RX4 11 "WiredBeans$EventRow" "numbers" "[I", .fieldLink RX4 15 "WiredBeans$EventRow" "count" "I", .classLink RX12 59 RX5, .instantiable RX5 13, .methodLink RX12 61 yX5_init, .instanceMethod yX5_init, .methodLink RX5 7 objectInit, .classLink RX5 34 RX1, .fieldLink RX5 13 "WiredBeans$Maker" "wiring" "LWiredBeans$Wiring;", .fieldLink RX5 17 "WiredBeans$Maker" "classes" "[LWiredBeans$DeclaredClass;", .fieldLink RX5 21 "WiredBeans$Maker" "row" "LWiredBeans$EventRow;", .fieldLink RX5 25 "WiredBeans$Maker" "objectClasses" "[I"]
def tbA_17 : List Cond := [.fieldLink RX5 29 "WiredBeans$Maker" "objectBeans" "[I", .fieldLink RX5 50 "WiredBeans$Maker" "objectCount" "I", .fieldLink RX5 36 "WiredBeans$Maker" "finished" "[LWiredBeans$Bean;", .fieldLink RX5 86 "WiredBeans$Maker" "finishedCount" "I", .fieldLink RX5 40 "WiredBeans$Maker" "worked" "[I", .fieldLink RX5 43 "WiredBeans$Maker" "argAtPlace" "[I", .fieldLink RX5 124 "WiredBeans$Maker" "innermost" "LWiredBeans$Bean;", .fieldLink RX5 61 "WiredBeans$Maker" "failure" "I", .fieldLink RX5 46 "WiredBeans$Maker" "failureBean" "I", .fieldLink RX12 11 "WiredBeans" "classes" "[LWiredBeans$DeclaredClass;", .fieldLink RX12 18 "WiredBeans" "typed" "[C", .fieldLink RX12 25 "WiredBeans" "paper" "LWiredBeans$Paper;", .fieldLink RX12 34 "WiredBeans" "reader" "LWiredBeans$Reader;", .fieldLink RX12 41 "WiredBeans" "structure" "LWiredBeans$Structure;", .fieldLink RX12 48 "WiredBeans" "wiring" "LWiredBeans$Wiring;", .fieldLink RX12 55 "WiredBeans" "row" "LWiredBeans$EventRow;", .fieldLink RX12 64 "WiredBeans" "maker" "LWiredBeans$Maker;", .fieldLink RX12 101 "WiredBeans" "typedLength" "I", .fieldLink RX12 122 "WiredBeans" "hasDocument" "Z", .fieldLink RX12 111 "WiredBeans" "faultNumber" "I", .fieldLink RX12 68 "WiredBeans" "faultPlace" "I", .methodLink RL 36 yX12_declare, .instanceMethod yX12_declare, .selects RX12 yX12_declare yX12_declare]
def tbA_18 : List Cond := [.methodLink RX12 72 yX12_isClass, .static yX12_isClass, .methodLink RX12 76 yX2_begin, .instanceMethod yX2_begin, .selects RX2 yX2_begin yX2_begin, .methodLink RL 41 yX12_constructor, .instanceMethod yX12_constructor, .selects RX12 yX12_constructor yX12_constructor, .methodLink RX12 80 yX12_areTypes, .static yX12_areTypes, .methodLink RX12 90 yX12_isType, .static yX12_isType, .methodLink RX12 84 yX2_addConstructor, .instanceMethod yX2_addConstructor, .selects RX2 yX2_addConstructor yX2_addConstructor, .methodLink RX2 44 yX8_describe, .instanceMethod yX8_describe, .selects RX8 yX8_describe yX8_describe, .methodLink RX2 48 yX8_setTypes, .instanceMethod yX8_setTypes, .selects RX8 yX8_setTypes yX8_setTypes, .methodLink RL 46 yX12_setter, .instanceMethod yX12_setter, .selects RX12 yX12_setter yX12_setter]
def tbA_19 : List Cond := [.methodLink RX12 87 yX12_isLetter, .static yX12_isLetter, .methodLink RX12 93 yX2_addSetter, .instanceMethod yX2_addSetter, .selects RX2 yX2_addSetter yX2_addSetter, .methodLink RL 51 yX12_factory, .instanceMethod yX12_factory, .selects RX12 yX12_factory yX12_factory, .methodLink RX12 97 yX2_addFactory, .instanceMethod yX2_addFactory, .selects RX2 yX2_addFactory yX2_addFactory, .methodLink RL 56 yX12_type, .instanceMethod yX12_type, .selects RX12 yX12_type yX12_type, .methodLink RX12 104 yX12_typedBehind, .instanceMethod yX12_typedBehind, .methodLink RL 67 yX12_fault, .instanceMethod yX12_fault, .selects RX12 yX12_fault yX12_fault, .methodLink RX12 135 yX5_failure, .instanceMethod yX5_failure, .selects RX5 yX5_failure yX5_failure, .methodLink RX12 138 yX5_failureBean, .instanceMethod yX5_failureBean]
def tbA_20 : List Cond := [.selects RX5 yX5_failureBean yX5_failureBean, .methodLink RL 85 yX12_close, .instanceMethod yX12_close, .selects RX12 yX12_close yX12_close, .methodLink RX12 178 yX5_destroyAll, .instanceMethod yX5_destroyAll, .selects RX5 yX5_destroyAll yX5_destroyAll, .methodLink RX5 95 yX4_add, .instanceMethod yX4_add, .selects RX4 yX4_add yX4_add, .methodLink RX5 53 yX5_forgetMade, .instanceMethod yX5_forgetMade, .methodLink RX5 78 yX10_count, .instanceMethod yX10_count, .selects RX10 yX10_count yX10_count, .methodLink RX5 68 yX10_numbered, .instanceMethod yX10_numbered, .selects RX10 yX10_numbered yX10_numbered, .methodLink RX12 181 yX4_count, .instanceMethod yX4_count, .selects RX4 yX4_count yX4_count, .methodLink RL 89 yX12_events, .instanceMethod yX12_events, .selects RX12 yX12_events yX12_events]
def tbA_21 : List Cond := [.methodLink RL 93 yX12_event, .instanceMethod yX12_event, .selects RX12 yX12_event yX12_event, .methodLink RX12 182 yX4_number, .instanceMethod yX4_number, .selects RX4 yX4_number yX4_number, .methodLink RL 97 yX12_object, .instanceMethod yX12_object, .selects RX12 yX12_object yX12_object, .methodLink RX12 185 yX5_classOfObject, .instanceMethod yX5_classOfObject, .selects RX5 yX5_classOfObject yX5_classOfObject, .methodLink RX5 64 yX5_isObject, .instanceMethod yX5_isObject, .methodLink RX12 189 yX5_beanOfObject, .instanceMethod yX5_beanOfObject, .selects RX5 yX5_beanOfObject yX5_beanOfObject, .methodLink RL 101 yX12_bean, .instanceMethod yX12_bean, .selects RX12 yX12_bean yX12_bean, .methodLink RX12 132 yX10_count, .methodLink RX12 192 yX10_numbered, .methodLink RX12 196 yX1_told, .instanceMethod yX1_told]
def tbA_22 : List Cond := [.selects RX1 yX1_told yX1_told, .methodLink RX1 171 yJx4a65c_size_8abf5, .instanceMethod yJx4a65c_size_8abf5, .selects RJx4a65c yJx4a65c_size_8abf5 yJx4a65c_size_8abf5, .methodLink RL 61 yL_read, .static yL_read, .classLink RL 13 "java/lang/IllegalArgumentException", .methodLink RL 7 yX12_read, .instanceMethod yX12_read, .selects RX12 yX12_read yX12_read, .methodLink RX12 108 yX5_startAfresh, .instanceMethod yX5_startAfresh, .selects RX5 yX5_startAfresh yX5_startAfresh, .methodLink RX5 56 yX4_clear, .instanceMethod yX4_clear, .selects RX4 yX4_clear yX4_clear, .methodLink RX12 114 yX7_firstWrongPlace, .instanceMethod yX7_firstWrongPlace, .selects RX7 yX7_firstWrongPlace yX7_firstWrongPlace, .classLink RX7 50 "java/lang/IllegalArgumentException", .methodLink RX7 33 yX6_clear, .instanceMethod yX6_clear, .selects RX6 yX6_clear yX6_clear, .methodLink RX7 38 yX7_skipAround]
def tbA_23 : List Cond := [.instanceMethod yX7_skipAround, .methodLink RX7 53 yX7_skipsWhite, .instanceMethod yX7_skipsWhite, .methodLink RX7 57 yX7_charAt, .instanceMethod yX7_charAt, .methodLink RX7 61 yX7_skipComment, .instanceMethod yX7_skipComment, .methodLink RX7 64 yX7_expect, .instanceMethod yX7_expect, .methodLink RX7 41 yX7_openElement, .instanceMethod yX7_openElement, .methodLink RX7 81 yX7_isNameLetter, .static yX7_isNameLetter, .methodLink RX7 84 yX6_isFull, .instanceMethod yX6_isFull, .selects RX6 yX6_isFull yX6_isFull, .methodLink RX7 87 yX7_readName, .instanceMethod yX7_readName, .methodLink RX7 91 yX6_addElement, .instanceMethod yX6_addElement, .selects RX6 yX6_addElement yX6_addElement, .methodLink RX6 43 yX3_begin, .instanceMethod yX3_begin, .selects RX3 yX3_begin yX3_begin]
def tbA_24 : List Cond := [.methodLink RX3 48 yX3_forgetWiring, .instanceMethod yX3_forgetWiring, .constantLong RX3 58 (1099511627776), .methodLink RX6 47 yX3_addInner, .instanceMethod yX3_addInner, .selects RX3 yX3_addInner yX3_addInner, .methodLink RX7 95 yX11_withKey, .static yX11_withKey, .fieldLink RX11 143 "WiredBeans$Word" "ALL" "[LWiredBeans$Word;", .methodLink RX7 105 yX7_readAttribute, .instanceMethod yX7_readAttribute, .methodLink RX7 120 yX6_hasKey, .instanceMethod yX6_hasKey, .selects RX6 yX6_hasKey yX6_hasKey, .methodLink RX7 124 yX6_addAttribute, .instanceMethod yX6_addAttribute, .selects RX6 yX6_addAttribute yX6_addAttribute, .methodLink RX7 68 yX7_readCharacter, .instanceMethod yX7_readCharacter, .methodLink RX7 133 yX7_readEntity, .instanceMethod yX7_readEntity, .methodLink RX7 148 yJ0_length_8abf5, .instanceMethod yJ0_length_8abf5, .selects RJ0 yJ0_length_8abf5 yJ0_length_8abf5]
def tbA_25 : List Cond := [.methodLink RJ0 335 yJ0_coder_7d493, .instanceMethod yJ0_coder_7d493, .selects RJ0 yJ0_coder_7d493 yJ0_coder_7d493, .fieldLink RJ0 38 "java/lang/String" "COMPACT_STRINGS" "Z", .methodLink RX7 153 yJ0_charAt_5068e, .instanceMethod yJ0_charAt_5068e, .selects RJ0 yJ0_charAt_5068e yJ0_charAt_5068e, .methodLink RJ0 492 yJ0_isLatin1_aae02, .instanceMethod yJ0_isLatin1_aae02, .selects RJ0 yJ0_isLatin1_aae02 yJ0_isLatin1_aae02, .methodLink RJ0 495 yJ1_charAt_3b067, .static yJ1_charAt_3b067, .methodLink RJ1 9 yJ0_checkIndex_df160, .static yJ0_checkIndex_df160, .fieldLink RJ0 1053 "jdk/internal/util/Preconditions" "SIOOBE_FORMATTER" "Ljava/util/function/BiFunction;", .methodLink RJ0 1059 yJ3_checkIndex_8e157, .static yJ3_checkIndex_8e157, .methodLink RJ0 498 yJ2_charAt_3b067, .static yJ2_charAt_3b067, .methodLink RJ2 67 yJ2_checkIndex_2214a, .static yJ2_checkIndex_2214a, .methodLink RJ2 48 yJ2_length_9d52b, .static yJ2_length_9d52b, .methodLink RJ2 414 yJ0_checkIndex_df160]
def tbA_26 : List Cond := [.methodLink RJ2 71 yJ2_getChar_3b067, .static yJ2_getChar_3b067, .fieldLink RJ2 44 "java/lang/StringUTF16" "$assertionsDisabled" "Z", .fieldLink RJ2 59 "java/lang/StringUTF16" "HI_BYTE_SHIFT" "I", .fieldLink RJ2 63 "java/lang/StringUTF16" "LO_BYTE_SHIFT" "I", .methodLink RX7 145 yX7_readNumbered, .instanceMethod yX7_readNumbered, .methodLink RX7 128 yX6_takesValue, .instanceMethod yX6_takesValue, .selects RX6 yX6_takesValue yX6_takesValue, .methodLink RX7 108 yX7_leaveElement, .instanceMethod yX7_leaveElement, .methodLink RX7 44 yX7_readContent, .instanceMethod yX7_readContent, .methodLink RX7 72 yX3_takesText, .instanceMethod yX3_takesText, .selects RX3 yX3_takesText yX3_takesText, .methodLink RX3 87 yX3_takeWhite, .instanceMethod yX3_takeWhite, .methodLink RX7 78 yX7_closeElement, .instanceMethod yX7_closeElement, .methodLink RX7 47 yX7_refuseMore, .instanceMethod yX7_refuseMore, .methodLink RX12 118 yX9_firstWrongPlace]
def tbA_27 : List Cond := [.instanceMethod yX9_firstWrongPlace, .selects RX9 yX9_firstWrongPlace yX9_firstWrongPlace, .methodLink RX9 15 yX6_count, .instanceMethod yX6_count, .selects RX6 yX6_count yX6_count, .methodLink RX9 21 yX6_element, .instanceMethod yX6_element, .selects RX6 yX6_element yX6_element, .methodLink RX9 25 yX9_isRight, .instanceMethod yX9_isRight, .methodLink RX9 39 yX9_standsRight, .instanceMethod yX9_standsRight, .fieldLink RX9 59 "WiredBeans$1" "$SwitchMap$WiredBeans$Word" "[I", .methodLink RX9 65 ⟨"WiredBeans$Word", "ordinal", "()I"⟩, .sameMethod "WiredBeans$Word" "java/lang/Enum" "ordinal" "()I", .selects RX11 ⟨"WiredBeans$Word", "ordinal", "()I"⟩ yJx29ce0_ordinal_8abf5, .instanceMethod yJx29ce0_ordinal_8abf5, .fieldLink RX9 72 "WiredBeans$Word" "BEANS" "LWiredBeans$Word;", .methodLink RX9 75 yX3_isIn, .instanceMethod yX3_isIn, .selects RX3 yX3_isIn yX3_isIn, .methodLink RX9 79 yX9_isHeld, .instanceMethod yX9_isHeld, .fieldLink RX9 92 "WiredBeans$Word" "ARG" "LWiredBeans$Word;"]
def tbA_28 : List Cond := [.fieldLink RX9 95 "WiredBeans$Word" "SET" "LWiredBeans$Word;", .fieldLink RX9 98 "WiredBeans$Word" "LIST" "LWiredBeans$Word;", .fieldLink RX9 82 "WiredBeans$Word" "BEAN" "LWiredBeans$Word;", .methodLink RX9 85 yX9_likeBefore, .instanceMethod yX9_likeBefore, .methodLink RX9 89 yX9_isFirstOfName, .instanceMethod yX9_isFirstOfName, .fieldLink RX9 107 "WiredBeans$Word" "NAME" "LWiredBeans$Word;", .methodLink RX9 110 yX6_letterValue, .instanceMethod yX6_letterValue, .selects RX6 yX6_letterValue yX6_letterValue, .methodLink RX6 71 yX6_find, .instanceMethod yX6_find, .methodLink RX6 75 yX6_valueLength, .instanceMethod yX6_valueLength, .methodLink RX6 79 yX6_valueChar, .instanceMethod yX6_valueChar, .methodLink RX9 42 yX9_hasRightAttributes, .instanceMethod yX9_hasRightAttributes, .methodLink RX9 120 yX6_attributeWord, .instanceMethod yX6_attributeWord, .selects RX6 yX6_attributeWord yX6_attributeWord, .methodLink RX6 67 yX11_withKey, .methodLink RX9 124 yX9_mayHave]
def tbA_29 : List Cond := [.instanceMethod yX9_mayHave, .fieldLink RX9 131 "WiredBeans$Word" "TO" "LWiredBeans$Word;", .methodLink RX9 134 yX9_beanMayHave, .instanceMethod yX9_beanMayHave, .fieldLink RX9 138 "WiredBeans$Word" "AT" "LWiredBeans$Word;", .fieldLink RX9 141 "WiredBeans$Word" "TYPE" "LWiredBeans$Word;", .fieldLink RX9 51 "WiredBeans$Word" "VALUE" "LWiredBeans$Word;", .fieldLink RX9 144 "WiredBeans$Word" "REF" "LWiredBeans$Word;", .methodLink RX9 128 yX9_hasRightValue, .instanceMethod yX9_hasRightValue, .fieldLink RX9 147 "WiredBeans$Word" "ALIAS" "LWiredBeans$Word;", .methodLink RX9 150 yX6_nameValue, .instanceMethod yX6_nameValue, .selects RX6 yX6_nameValue yX6_nameValue, .methodLink RX9 154 yX6_classValue, .instanceMethod yX6_classValue, .selects RX6 yX6_classValue yX6_classValue, .fieldLink RX9 157 "WiredBeans$Word" "YES" "LWiredBeans$Word;", .methodLink RX9 160 yX6_valueIs, .instanceMethod yX6_valueIs, .selects RX6 yX6_valueIs yX6_valueIs, .methodLink RX6 83 yX6_nameValue, .fieldLink RX9 164 "WiredBeans$Word" "NO" "LWiredBeans$Word;", .fieldLink RX9 167 "WiredBeans$Word" "ONE" "LWiredBeans$Word;"]
def tbA_30 : List Cond := [.fieldLink RX9 170 "WiredBeans$Word" "MANY" "LWiredBeans$Word;", .methodLink RX9 173 yX6_placeValue, .instanceMethod yX6_placeValue, .selects RX6 yX6_placeValue yX6_placeValue, .methodLink RX9 176 yX6_typeValue, .instanceMethod yX6_typeValue, .selects RX6 yX6_typeValue yX6_typeValue, .methodLink RX6 87 yX6_classValue, .fieldLink RX6 90 "WiredBeans$1" "$SwitchMap$WiredBeans$Word" "[I", .methodLink RX6 95 ⟨"WiredBeans$Word", "ordinal", "()I"⟩, .methodLink RX9 45 yX9_hasWhatItNeeds, .instanceMethod yX9_hasWhatItNeeds, .methodLink RX9 179 yX6_has, .instanceMethod yX6_has, .selects RX6 yX6_has yX6_has, .methodLink RX6 63 yX6_hasKey, .methodLink RX9 182 yX9_beanHasWhatItNeeds, .instanceMethod yX9_beanHasWhatItNeeds, .fieldLink RX9 185 "WiredBeans$Word" "ID" "LWiredBeans$Word;", .fieldLink RX9 188 "WiredBeans$Word" "FACTORY" "LWiredBeans$Word;", .fieldLink RX9 191 "WiredBeans$Word" "METHOD" "LWiredBeans$Word;", .fieldLink RX9 194 "WiredBeans$Word" "ABSTRACT" "LWiredBeans$Word;", .fieldLink RX9 197 "WiredBeans$Word" "CLASS" "LWiredBeans$Word;", .fieldLink RX9 200 "WiredBeans$Word" "PARENT" "LWiredBeans$Word;"]
def tbA_31 : List Cond := [.methodLink RX9 56 yX9_hasRightCount, .instanceMethod yX9_hasRightCount, .methodLink RX12 121 yX10_firstWrongPlace, .instanceMethod yX10_firstWrongPlace, .selects RX10 yX10_firstWrongPlace yX10_firstWrongPlace, .methodLink RX10 33 yX6_count, .methodLink RX10 36 yX6_element, .methodLink RX10 40 yX10_settle, .instanceMethod yX10_settle, .fieldLink RX10 64 "WiredBeans$1" "$SwitchMap$WiredBeans$Word" "[I", .methodLink RX10 70 ⟨"WiredBeans$Word", "ordinal", "()I"⟩, .fieldLink RX10 75 "WiredBeans$Word" "TO" "LWiredBeans$Word;", .methodLink RX10 78 yX6_nameValue, .fieldLink RX10 86 "WiredBeans$Word" "NAME" "LWiredBeans$Word;", .fieldLink RX10 92 "WiredBeans$Word" "ID" "LWiredBeans$Word;", .methodLink RX10 99 yX1_begin, .instanceMethod yX1_begin, .selects RX1 yX1_begin yX1_begin, .methodLink RX1 32 yJx4a65c_clear_da8c8, .instanceMethod yJx4a65c_clear_da8c8, .selects RJx4a65c yJx4a65c_clear_da8c8 yJx4a65c_clear_da8c8, .fieldLink RX1 35 "WiredBeans$Word" "ID" "LWiredBeans$Word;", .methodLink RX1 41 yX6_nameValue, .fieldLink RX1 51 "WiredBeans$Word" "PARENT" "LWiredBeans$Word;"]
def tbA_32 : List Cond := [.fieldLink RX1 57 "WiredBeans$Word" "DEPENDS" "LWiredBeans$Word;", .fieldLink RX1 63 "WiredBeans$Word" "ABSTRACT" "LWiredBeans$Word;", .fieldLink RX1 66 "WiredBeans$Word" "YES" "LWiredBeans$Word;", .methodLink RX1 69 yX6_valueIs, .fieldLink RX1 77 "WiredBeans$Word" "SCOPE" "LWiredBeans$Word;", .fieldLink RX1 80 "WiredBeans$Word" "MANY" "LWiredBeans$Word;", .fieldLink RX1 86 "WiredBeans$Word" "LAZY" "LWiredBeans$Word;", .fieldLink RX10 103 "WiredBeans$Word" "AT" "LWiredBeans$Word;", .methodLink RX10 106 yX6_placeValue, .fieldLink RX10 113 "WiredBeans$Word" "TYPE" "LWiredBeans$Word;", .methodLink RX10 116 yX6_typeValue, .methodLink RX10 122 yX10_settleContent, .instanceMethod yX10_settleContent, .fieldLink RX10 144 "WiredBeans$Word" "VALUE" "LWiredBeans$Word;", .methodLink RX10 147 yX6_has, .methodLink RX10 151 yX6_valueToText, .instanceMethod yX6_valueToText, .selects RX6 yX6_valueToText yX6_valueToText, .methodLink RX10 134 yX3_weighText, .instanceMethod yX3_weighText, .selects RX3 yX3_weighText yX3_weighText, .methodLink RX3 91 yX3_textAsNumber, .instanceMethod yX3_textAsNumber, .constantLong RX3 113 (10)]
def tbA_33 : List Cond := [.methodLink RX3 97 yX3_textIs, .instanceMethod yX3_textIs, .methodLink RX3 103 yJ0_length_8abf5, .methodLink RX3 109 yJ0_charAt_5068e, .fieldLink RX10 155 "WiredBeans$Word" "REF" "LWiredBeans$Word;", .methodLink RX10 125 yX6_letterValue, .fieldLink RX10 131 "WiredBeans$Word" "BEAN" "LWiredBeans$Word;", .methodLink RX10 44 yX10_isRight, .instanceMethod yX10_isRight, .methodLink RX10 158 yX10_hasRightParent, .instanceMethod yX10_hasRightParent, .methodLink RX10 165 yX10_withId, .instanceMethod yX10_withId, .methodLink RX10 169 yX10_comesToItself, .instanceMethod yX10_comesToItself, .methodLink RX10 53 yX10_merge, .instanceMethod yX10_merge, .methodLink RX10 174 yX1_overlay, .instanceMethod yX1_overlay, .selects RX1 yX1_overlay yX1_overlay, .fieldLink RX1 116 "WiredBeans$Word" "FACTORY" "LWiredBeans$Word;", .methodLink RX1 119 yX6_has, .fieldLink RX1 123 "WiredBeans$Word" "CLASS" "LWiredBeans$Word;", .methodLink RX1 126 yX6_classValue]
def tbA_34 : List Cond := [.fieldLink RX1 130 "WiredBeans$Word" "METHOD" "LWiredBeans$Word;", .methodLink RX1 133 yX6_letterValue, .fieldLink RX1 136 "WiredBeans$Word" "INIT" "LWiredBeans$Word;", .fieldLink RX1 139 "WiredBeans$Word" "DESTROY" "LWiredBeans$Word;", .methodLink RX1 142 yX1_overlayInner, .instanceMethod yX1_overlayInner, .fieldLink RX1 154 "WiredBeans$Word" "ARG" "LWiredBeans$Word;", .methodLink RX1 157 yJx4a65c_add_9ea2d, .instanceMethod yJx4a65c_add_9ea2d, .selects RJx4a65c yJx4a65c_add_9ea2d yJx4a65c_add_9ea2d, .methodLink RJx4a65c 131 yJx4a65c_add_72be8, .instanceMethod yJx4a65c_add_72be8, .methodLink RJx4a65c 129 yJx4a65c_grow_d5877, .instanceMethod yJx4a65c_grow_d5877, .methodLink RJx4a65c 69 yJx4a65c_grow_92f84, .instanceMethod yJx4a65c_grow_92f84, .methodLink RJx4a65c 73 yJ8_newLength_cabcc, .static yJ8_newLength_cabcc, .methodLink RJ8 194 Lib.Math.max.name, .static Lib.Math.max.name, .constant RJ8 200 (2147483639), .methodLink RJ8 201 yJ8_hugeLength_7cf53, .static yJ8_hugeLength_7cf53, .methodLink RJx4a65c 66 yJ7_copyOf_1904c]
def tbA_35 : List Cond := [.static yJ7_copyOf_1904c, .methodLink RJ7 86 ⟨"java/lang/Object", "getClass", "()Ljava/lang/Class;"⟩, .instanceMethod ⟨"java/lang/Object", "getClass", "()Ljava/lang/Class;"⟩, .native ⟨"java/lang/Object", "getClass", "()Ljava/lang/Class;"⟩, .methodLink RJ7 300 yJ7_copyOf_6403c, .static yJ7_copyOf_6403c, .classLink RJ7 110 "[Ljava/lang/Object;", .classLink RJ7 2 "java/lang/Object", .methodLink RJ7 304 Lib.Math.min.name, .static Lib.Math.min.name, .methodLink RJ7 150 arraycopyName, .static arraycopyName, .native arraycopyName, .methodLink RJx4a65c 79 Lib.Math.max.name, .classLink RJx4a65c 7 "java/lang/Object", .fieldLink RX1 161 "WiredBeans$Word" "SET" "LWiredBeans$Word;", .methodLink RX1 164 yX1_putNamed, .static yX1_putNamed, .methodLink RX1 175 yJx4a65c_get_915e3, .instanceMethod yJx4a65c_get_915e3, .selects RJx4a65c yJx4a65c_get_915e3 yJx4a65c_get_915e3, .methodLink RJx4a65c 118 yJ15_checkIndex_7cf53, .static yJ15_checkIndex_7cf53, .methodLink RJ15 105 yJ3_checkIndex_8e157]
def tbA_36 : List Cond := [.methodLink RJx4a65c 123 yJx4a65c_elementData_915e3, .instanceMethod yJx4a65c_elementData_915e3, .selects RJx4a65c yJx4a65c_elementData_915e3 yJx4a65c_elementData_915e3, .classLink RX1 147 "WiredBeans$Element", .methodLink RX1 182 yJx4a65c_set_bcc79, .instanceMethod yJx4a65c_set_bcc79, .selects RJx4a65c yJx4a65c_set_bcc79 yJx4a65c_set_bcc79, .methodLink RX12 126 yX10_forgetBeans, .instanceMethod yX10_forgetBeans, .selects RX10 yX10_forgetBeans yX10_forgetBeans, .classLink RX12 129 "java/lang/IllegalArgumentException", .arrayClass .byte, .methodLink RL 72 yL_refresh, .static yL_refresh, .classLink RL 18 "java/lang/IllegalStateException", .classLink RL 20 "java/lang/UnsupportedOperationException", .methodLink RL 15 yX12_refresh, .instanceMethod yX12_refresh, .selects RX12 yX12_refresh yX12_refresh, .methodLink RX12 141 yX5_forgetFailure, .instanceMethod yX5_forgetFailure, .selects RX5 yX5_forgetFailure yX5_forgetFailure, .classLink RX12 144 "java/lang/IllegalStateException", .methodLink RX12 147 yX5_renewsAll]
def tbA_37 : List Cond := [.instanceMethod yX5_renewsAll, .selects RX5 yX5_renewsAll yX5_renewsAll, .classLink RX5 103 "java/lang/UnsupportedOperationException", .methodLink RX5 99 yX5_obtain, .instanceMethod yX5_obtain, .methodLink RX5 135 yX10_called, .instanceMethod yX10_called, .selects RX10 yX10_called yX10_called, .methodLink RX10 180 yX10_nameBehindAlias, .instanceMethod yX10_nameBehindAlias, .fieldLink RX10 184 "WiredBeans$Word" "ALIAS" "LWiredBeans$Word;", .methodLink RX5 139 yX5_failWith, .instanceMethod yX5_failWith, .methodLink RX5 143 yX5_make, .instanceMethod yX5_make, .methodLink RX5 156 yX5_workOutArgs, .instanceMethod yX5_workOutArgs, .methodLink RX5 182 yJx4a65c_size_8abf5, .methodLink RX5 187 yJx4a65c_get_915e3, .classLink RX5 191 "WiredBeans$Element", .methodLink RX5 197 yX5_slot, .static yX5_slot, .methodLink RX5 201 yX5_workOut, .instanceMethod yX5_workOut]
def tbA_38 : List Cond := [.fieldLink RX5 209 "WiredBeans$Word" "LIST" "LWiredBeans$Word;", .methodLink RX5 217 yX5_itemValue, .instanceMethod yX5_itemValue, .fieldLink RX5 233 "WiredBeans$Word" "VALUE" "LWiredBeans$Word;", .fieldLink RX5 239 "WiredBeans$Word" "NULL" "LWiredBeans$Word;", .methodLink RX5 230 yX5_objectOf, .instanceMethod yX5_objectOf, .fieldLink RX5 224 "WiredBeans$Word" "REF" "LWiredBeans$Word;", .fieldLink RX5 227 "WiredBeans$Word" "BEAN" "LWiredBeans$Word;", .methodLink RX5 160 yX5_chooseFor, .instanceMethod yX5_chooseFor, .methodLink RX5 260 yX2_withFactory, .instanceMethod yX2_withFactory, .selects RX2 yX2_withFactory yX2_withFactory, .methodLink RX2 52 yX2_ownsFactory, .instanceMethod yX2_ownsFactory, .methodLink RX2 56 yX8_isCalled, .instanceMethod yX8_isCalled, .selects RX8 yX8_isCalled yX8_isCalled, .methodLink RX5 270 yX5_placesArgs, .instanceMethod yX5_placesArgs, .methodLink RX5 287 yX5_placeOthers, .instanceMethod yX5_placeOthers, .methodLink RX5 274 yX8_isCalled]
def tbA_39 : List Cond := [.methodLink RX5 280 yX5_sumFor, .instanceMethod yX5_sumFor, .methodLink RX5 298 yX5_weightOf, .instanceMethod yX5_weightOf, .fieldLink RX5 302 "WiredBeans$1" "$SwitchMap$WiredBeans$Word" "[I", .methodLink RX5 307 ⟨"WiredBeans$Word", "ordinal", "()I"⟩, .methodLink RX5 310 yX5_textWeight, .static yX5_textWeight, .constantLong RX5 318 (1099511627776), .methodLink RX5 313 yX5_objectWeight, .instanceMethod yX5_objectWeight, .methodLink RX5 323 yX2_stepsTo, .instanceMethod yX2_stepsTo, .selects RX2 yX2_stepsTo yX2_stepsTo, .methodLink RX5 164 yX5_bringToBe, .instanceMethod yX5_bringToBe, .methodLink RX5 336 yX5_tellValue, .instanceMethod yX5_tellValue, .methodLink RX5 349 yX5_valueOf, .instanceMethod yX5_valueOf, .methodLink RX5 355 yX5_textValue, .static yX5_textValue, .methodLink RX5 168 yX5_applySets, .instanceMethod yX5_applySets]
def tbA_40 : List Cond := [.methodLink RX5 346 yX2_setterType, .instanceMethod yX2_setterType, .selects RX2 yX2_setterType yX2_setterType, .methodLink RX5 174 yX5_finish, .instanceMethod yX5_finish, .methodLink RX5 105 yX5_stopMaking, .instanceMethod yX5_stopMaking, .methodLink RX5 121 yX5_destroyAll, .classLink RX12 151 "java/lang/UnsupportedOperationException", .methodLink RX12 154 yX5_objectCount, .instanceMethod yX5_objectCount, .selects RX5 yX5_objectCount yX5_objectCount, .methodLink RL 77 yL_get, .static yL_get, .methodLink RL 22 yX12_get, .instanceMethod yX12_get, .selects RX12 yX12_get yX12_get, .methodLink RX12 157 yX12_withoutZeros, .static yX12_withoutZeros, .constantLong RX12 201 (255), .methodLink RX12 161 yX5_objectCalled, .instanceMethod yX5_objectCalled, .selects RX5 yX5_objectCalled yX5_objectCalled, .methodLink RL 81 yL_call]
def tbA_41 : List Cond := [.static yL_call, .classLink RL 30 "java/lang/IndexOutOfBoundsException", .methodLink RL 26 yX12_call, .instanceMethod yX12_call, .selects RX12 yX12_call yX12_call, .methodLink RX12 165 yX5_lookupOf, .instanceMethod yX5_lookupOf, .selects RX5 yX5_lookupOf yX5_lookupOf, .methodLink RX5 74 yX1_lookupNamed, .instanceMethod yX1_lookupNamed, .selects RX1 yX1_lookupNamed yX1_lookupNamed, .classLink RX12 169 "java/lang/IndexOutOfBoundsException", .classLink RL 33 RX13, .instantiable RX13 77, .methodLink RL 35 yX13_init, .instanceMethod yX13_init, .methodLink RX13 1 objectInit, .constantLong RX13 7 (422607679091), .constantLong RX13 9 (418430673267), .constantLong RX13 11 (1650811246), .constantLong RX13 13 (6386279), .constantLong RX13 15 (7562612), .constantLong RX13 17 (1818850164), .constantLong RX13 19 (508440638821)]
def tbA_42 : List Cond := [.constantLong RX13 21 (7497062), .constantLong RX13 23 (1853189228), .constantLong RX13 25 (119225866483056), .constantLong RX13 33 (7955827), .constantLong RX13 35 (28271), .constantLong RX13 37 (7302757), .constantLong RX13 39 (1835101817), .constantLong RX13 41 (6909556), .constantLong RX13 43 (500136506472), .constantLong RX13 45 (1667785074), .constantLong RX13 47 (1952807028), .constantLong RX13 49 (7499639), .constantLong RX13 51 (1953658213), .constantLong RX13 53 (439721161573), .constantLong RX13 58 (7107643), .constantLong RX13 60 (6779963), .constantLong RX13 62 (1634562107), .constantLong RX13 64 (487301542971), .constantLong RX13 66 (418498179899), .fieldLink RX13 27 "WiredBeansModel" "elementNames" "[J", .fieldLink RX13 55 "WiredBeansModel" "words" "[J", .fieldLink RX13 68 "WiredBeansModel" "entities" "[J", .fieldLink RX13 71 "WiredBeansModel" "entityLengths" "[I", .fieldLink RX13 75 "WiredBeansModel" "entitySigns" "[I"]
def tbA_43 : List Cond := [.fieldLink RX13 252 "WiredBeansModel" "thrown" "I", .fieldLink RX13 78 "WiredBeansModel" "parents" "[I", .fieldLink RX13 81 "WiredBeansModel" "makers" "[I", .fieldLink RX13 84 "WiredBeansModel" "makerSize" "[I", .fieldLink RX13 87 "WiredBeansModel" "makerType" "[I", .fieldLink RX13 90 "WiredBeansModel" "setters" "[I", .fieldLink RX13 93 "WiredBeansModel" "setterName" "[I", .fieldLink RX13 96 "WiredBeansModel" "setterType" "[I", .fieldLink RX13 99 "WiredBeansModel" "factories" "[I", .fieldLink RX13 102 "WiredBeansModel" "factoryName" "[I", .fieldLink RX13 105 "WiredBeansModel" "factoryResult" "[I", .fieldLink RX13 108 "WiredBeansModel" "factorySize" "[I", .fieldLink RX13 111 "WiredBeansModel" "factoryType" "[I", .fieldLink RX13 114 "WiredBeansModel" "factoryStatic" "[Z", .fieldLink RX13 118 "WiredBeansModel" "text" "[B", .fieldLink RX13 273 "WiredBeansModel" "size" "I", .fieldLink RX13 279 "WiredBeansModel" "at" "I", .fieldLink RX13 276 "WiredBeansModel" "fault" "I", .fieldLink RX13 122 "WiredBeansModel" "faultPlace" "I", .fieldLink RX13 329 "WiredBeansModel" "elements" "I", .fieldLink RX13 323 "WiredBeansModel" "pool" "I", .fieldLink RX13 126 "WiredBeansModel" "kinds" "[I", .fieldLink RX13 129 "WiredBeansModel" "places" "[I", .fieldLink RX13 132 "WiredBeansModel" "above" "[I"]
def tbA_44 : List Cond := [.fieldLink RX13 135 "WiredBeansModel" "within" "[I", .fieldLink RX13 138 "WiredBeansModel" "attributes" "[I", .fieldLink RX13 141 "WiredBeansModel" "textSize" "[I", .fieldLink RX13 144 "WiredBeansModel" "pending" "[I", .fieldLink RX13 147 "WiredBeansModel" "textAt" "[I", .fieldLink RX13 150 "WiredBeansModel" "names" "[J", .fieldLink RX13 153 "WiredBeansModel" "attributeName" "[J", .fieldLink RX13 156 "WiredBeansModel" "attributeAt" "[I", .fieldLink RX13 159 "WiredBeansModel" "attributeSize" "[I", .fieldLink RX13 162 "WiredBeansModel" "characters" "[B", .fieldLink RX13 165 "WiredBeansModel" "texts" "[B", .fieldLink RX13 477 "WiredBeansModel" "document" "Z", .fieldLink RX13 439 "WiredBeansModel" "beans" "I", .fieldLink RX13 168 "WiredBeansModel" "beanElement" "[I", .fieldLink RX13 171 "WiredBeansModel" "beanOf" "[I", .fieldLink RX13 174 "WiredBeansModel" "setMany" "[I", .fieldLink RX13 177 "WiredBeansModel" "setElement" "[I", .fieldLink RX13 180 "WiredBeansModel" "lookupMany" "[I", .fieldLink RX13 183 "WiredBeansModel" "lookupElement" "[I", .fieldLink RX13 480 "WiredBeansModel" "objects" "I", .fieldLink RX13 471 "WiredBeansModel" "events" "I", .fieldLink RX13 474 "WiredBeansModel" "made" "I", .fieldLink RX13 498 "WiredBeansModel" "failure" "I", .fieldLink RX13 186 "WiredBeansModel" "failureBean" "I"]
def tbA_45 : List Cond := [.fieldLink RX13 189 "WiredBeansModel" "objectClass" "[I", .fieldLink RX13 192 "WiredBeansModel" "objectBean" "[I", .fieldLink RX13 195 "WiredBeansModel" "eventKind" "[I", .fieldLink RX13 198 "WiredBeansModel" "eventObject" "[I", .fieldLink RX13 201 "WiredBeansModel" "eventSecond" "[I", .fieldLink RX13 204 "WiredBeansModel" "eventThird" "[I", .fieldLink RX13 207 "WiredBeansModel" "madeOrder" "[I", .fieldLink RX13 210 "WiredBeansModel" "own" "[I", .fieldLink RX13 213 "WiredBeansModel" "isMade" "[Z", .fieldLink RX13 216 "WiredBeansModel" "making" "[Z", .fieldLink RX13 501 "WiredBeansModel" "high" "I", .fieldLink RX13 219 "WiredBeansModel" "pileBean" "[I", .fieldLink RX13 222 "WiredBeansModel" "pilePhase" "[I", .fieldLink RX13 225 "WiredBeansModel" "pileIndex" "[I", .fieldLink RX13 228 "WiredBeansModel" "pileItem" "[I", .fieldLink RX13 231 "WiredBeansModel" "pileFactory" "[I", .fieldLink RX13 234 "WiredBeansModel" "pileObject" "[I", .fieldLink RX13 237 "WiredBeansModel" "valueKind" "[I", .fieldLink RX13 240 "WiredBeansModel" "value" "[I", .fieldLink RX13 243 "WiredBeansModel" "itemKind" "[I", .fieldLink RX13 246 "WiredBeansModel" "item" "[I", .fieldLink RX13 513 "WiredBeansModel" "got" "I", .fieldLink RX13 249 "WiredBeansModel" "spot" "[I", .fieldLink RX13 335 "WiredBeansModel" "closed" "Z"]
def tbA_46 : List Cond := [.arrayClass .boolean, .methodLink RL 40 yX13_declare, .instanceMethod yX13_declare, .selects RX13 yX13_declare yX13_declare, .methodLink RX13 259 yX13_isClass, .static yX13_isClass, .methodLink RL 45 yX13_constructor, .instanceMethod yX13_constructor, .selects RX13 yX13_constructor yX13_constructor, .methodLink RX13 262 yX13_areTypes, .static yX13_areTypes, .methodLink RX13 255 yX13_isType, .static yX13_isType, .methodLink RL 50 yX13_setter, .instanceMethod yX13_setter, .selects RX13 yX13_setter yX13_setter, .methodLink RX13 266 yX13_isLetter, .static yX13_isLetter, .methodLink RL 55 yX13_factory, .instanceMethod yX13_factory, .selects RX13 yX13_factory yX13_factory, .methodLink RL 60 yX13_type, .instanceMethod yX13_type, .selects RX13 yX13_type yX13_type]
def tbA_47 : List Cond := [.methodLink RL 66 yX13_read, .instanceMethod yX13_read, .selects RX13 yX13_read yX13_read, .methodLink RX13 483 yX13_clear, .instanceMethod yX13_clear, .methodLink RX13 486 yX13_readDocument, .instanceMethod yX13_readDocument, .methodLink RX13 339 yX13_between, .instanceMethod yX13_between, .methodLink RX13 296 yX13_white, .instanceMethod yX13_white, .methodLink RX13 282 yX13_here, .instanceMethod yX13_here, .methodLink RX13 286 yX13_isWhite, .instanceMethod yX13_isWhite, .methodLink RX13 300 yX13_comment, .instanceMethod yX13_comment, .methodLink RX13 293 yX13_must, .instanceMethod yX13_must, .methodLink RX13 289 yX13_bad, .instanceMethod yX13_bad, .methodLink RX13 303 yX13_isSmall, .instanceMethod yX13_isSmall, .methodLink RX13 342 yX13_begin]
def tbA_48 : List Cond := [.instanceMethod yX13_begin, .methodLink RX13 315 yX13_name, .instanceMethod yX13_name, .methodLink RX13 332 yX13_attribute, .instanceMethod yX13_attribute, .methodLink RX13 319 yX13_find, .instanceMethod yX13_find, .methodLink RX13 326 yX13_entity, .instanceMethod yX13_entity, .methodLink RX13 306 yX13_numberedEntity, .instanceMethod yX13_numberedEntity, .methodLink RX13 309 yX13_agrees, .instanceMethod yX13_agrees, .constantLong RX13 313 (255), .methodLink RX13 346 yX13_add, .instanceMethod yX13_add, .methodLink RX13 350 yX13_end, .instanceMethod yX13_end, .methodLink RX13 489 yX13_badStructure, .instanceMethod yX13_badStructure, .methodLink RX13 436 yX13_isGood, .instanceMethod yX13_isGood, .methodLink RX13 415 yX13_isInPlace, .instanceMethod yX13_isInPlace]
def tbA_49 : List Cond := [.methodLink RX13 418 yX13_isAllowed, .instanceMethod yX13_isAllowed, .constantLong RX13 380 (1851878757), .constantLong RX13 382 (29807), .constantLong RX13 384 (26980), .constantLong RX13 386 (427020088179), .constantLong RX13 388 (123563833388660), .constantLong RX13 390 (7017298113369039732), .constantLong RX13 392 (495589486693), .constantLong RX13 394 (1818327673), .constantLong RX13 396 (28817527407604345), .constantLong RX13 398 (120282512125796), .constantLong RX13 400 (1768843636), .constantLong RX13 402 (28259044220366713), .constantLong RX13 404 (28259031083541619), .constantLong RX13 406 (24948), .constantLong RX13 374 (1954115685), .methodLink RX13 369 yX13_isWord, .instanceMethod yX13_isWord, .methodLink RX13 421 yX13_isGoodBean, .instanceMethod yX13_isGoodBean, .methodLink RX13 355 yX13_has, .instanceMethod yX13_has, .methodLink RX13 408 yX13_isOneLetter]
def tbA_50 : List Cond := [.instanceMethod yX13_isOneLetter, .methodLink RX13 359 yX13_word, .instanceMethod yX13_word, .constantLong RX13 353 (-1), .constantLong RX13 372 (256), .methodLink RX13 376 yX13_classIn, .static yX13_classIn, .constantLong RX13 363 (75), .constantLong RX13 365 (48), .constantLong RX13 367 (55), .methodLink RX13 411 yX13_isOneOf, .instanceMethod yX13_isOneOf, .methodLink RX13 424 yX13_isGoodHolder, .instanceMethod yX13_isGoodHolder, .methodLink RX13 427 yX13_ahead, .instanceMethod yX13_ahead, .constantLong RX13 431 (50), .methodLink RX13 433 yX13_typeIn, .instanceMethod yX13_typeIn, .methodLink RX13 492 yX13_badBeans, .instanceMethod yX13_badBeans, .methodLink RX13 448 yX13_isUsed, .instanceMethod yX13_isUsed, .methodLink RX13 445 yX13_parentOf]
def tbA_51 : List Cond := [.instanceMethod yX13_parentOf, .methodLink RX13 442 yX13_withId, .instanceMethod yX13_withId, .methodLink RX13 451 yX13_comesToItself, .instanceMethod yX13_comesToItself, .methodLink RX13 495 yX13_mergeBean, .instanceMethod yX13_mergeBean, .methodLink RX13 457 yX13_inner, .instanceMethod yX13_inner, .methodLink RX13 467 yX13_merge, .instanceMethod yX13_merge, .methodLink RL 71 yX13_fault, .instanceMethod yX13_fault, .selects RX13 yX13_fault yX13_fault, .methodLink RL 74 yX13_refresh, .instanceMethod yX13_refresh, .selects RX13 yX13_refresh yX13_refresh, .methodLink RX13 507 yX13_isAbstract, .instanceMethod yX13_isAbstract, .methodLink RX13 510 yX13_isMany, .instanceMethod yX13_isMany, .methodLink RX13 614 yX13_run, .instanceMethod yX13_run, .methodLink RX13 523 yX13_gets]
def tbA_52 : List Cond := [.instanceMethod yX13_gets, .methodLink RX13 504 yX13_fails, .instanceMethod yX13_fails, .methodLink RX13 611 yX13_step, .instanceMethod yX13_step, .methodLink RX13 520 yX13_called, .instanceMethod yX13_called, .methodLink RX13 592 yX13_deliver, .instanceMethod yX13_deliver, .methodLink RX13 464 yX13_arg, .instanceMethod yX13_arg, .methodLink RX13 461 yX13_argsOf, .instanceMethod yX13_argsOf, .methodLink RX13 516 yX13_keep, .instanceMethod yX13_keep, .methodLink RX13 454 yX13_tells, .instanceMethod yX13_tells, .methodLink RX13 557 yX13_args, .instanceMethod yX13_args, .methodLink RX13 595 yX13_workedOut, .instanceMethod yX13_workedOut, .methodLink RX13 526 yX13_worked, .instanceMethod yX13_worked, .methodLink RX13 598 yX13_next]
def tbA_53 : List Cond := [.instanceMethod yX13_next, .methodLink RX13 602 yX13_makeObject, .instanceMethod yX13_makeObject, .methodLink RX13 567 yX13_letter, .instanceMethod yX13_letter, .methodLink RX13 574 yX13_classOf, .instanceMethod yX13_classOf, .methodLink RX13 577 yX13_classWithFactory, .instanceMethod yX13_classWithFactory, .methodLink RX13 269 yX13_isFactory, .instanceMethod yX13_isFactory, .methodLink RX13 581 yX13_chosen, .instanceMethod yX13_chosen, .constant RX13 566 (1000000), .methodLink RX13 570 yX13_sum, .instanceMethod yX13_sum, .methodLink RX13 560 yX13_placed, .instanceMethod yX13_placed, .methodLink RX13 563 yX13_weight, .instanceMethod yX13_weight, .methodLink RX13 544 yX13_numberIn, .instanceMethod yX13_numberIn, .methodLink RX13 530 yX13_length, .instanceMethod yX13_length]
def tbA_54 : List Cond := [.methodLink RX13 533 yX13_sign, .instanceMethod yX13_sign, .constantLong RX13 536 (10), .constantLong RX13 538 (-2147483648), .constantLong RX13 540 (2147483647), .constantLong RX13 542 (-9000000000000000000), .methodLink RX13 548 yX13_is, .instanceMethod yX13_is, .methodLink RX13 554 yX13_happens, .instanceMethod yX13_happens, .methodLink RX13 585 yX13_tell, .instanceMethod yX13_tell, .methodLink RX13 551 yX13_told, .instanceMethod yX13_told, .methodLink RX13 605 yX13_finish, .instanceMethod yX13_finish, .methodLink RX13 608 yX13_setOne, .instanceMethod yX13_setOne, .methodLink RX13 589 yX13_typeOfSetter, .instanceMethod yX13_typeOfSetter, .methodLink RX13 617 yX13_shut, .instanceMethod yX13_shut, .methodLink RL 80 yX13_get, .instanceMethod yX13_get]
def tbA_55 : List Cond := [.selects RX13 yX13_get yX13_get, .methodLink RX13 620 yX13_letters, .static yX13_letters, .methodLink RL 84 yX13_call, .instanceMethod yX13_call, .selects RX13 yX13_call yX13_call, .methodLink RL 88 yX13_close, .instanceMethod yX13_close, .selects RX13 yX13_close yX13_close, .methodLink RL 92 yX13_events, .instanceMethod yX13_events, .selects RX13 yX13_events yX13_events, .methodLink RL 96 yX13_event, .instanceMethod yX13_event, .selects RX13 yX13_event yX13_event, .methodLink RL 100 yX13_object, .instanceMethod yX13_object, .selects RX13 yX13_object yX13_object, .methodLink RL 104 yX13_bean, .instanceMethod yX13_bean, .selects RX13 yX13_bean yX13_bean, .constantLong RL 75 (4294967295), .selects "[Ljava/lang/Object;" ⟨"java/lang/Object", "getClass", "()Ljava/lang/Class;"⟩ ⟨"java/lang/Object", "getClass", "()Ljava/lang/Class;"⟩, .fieldLink RX11 129 "WiredBeans$Word" "key" "J"]
def tbA_56 : List Cond := [.fieldLink RJ0 9 "java/lang/String" "value" "[B", .fieldLink RJ0 15 "java/lang/String" "coder" "B", .fieldLink RJx29ce0 7 "java/lang/Enum" "ordinal" "I", .fieldLink RX6 57 "WiredBeans$Word" "key" "J", .selects RX12 yX12_typedBehind yX12_typedBehind, .selects RX12 yX12_typedBehind yX12_typedBehind, .selects RX12 yX12_typedBehind yX12_typedBehind, .selects RX12 yX12_typedBehind yX12_typedBehind, .selects RX12 yX12_typedBehind yX12_typedBehind, .selects RX12 yX12_typedBehind yX12_typedBehind, .selects RX12 yX12_typedBehind yX12_typedBehind, .selects RX12 yX12_typedBehind yX12_typedBehind, .selects RX12 yX12_typedBehind yX12_typedBehind, .selects RX12 yX12_typedBehind yX12_typedBehind, .selects RX12 yX12_typedBehind yX12_typedBehind, .selects RX12 yX12_typedBehind yX12_typedBehind, .selects RX12 yX12_typedBehind yX12_typedBehind, .selects RX12 yX12_typedBehind yX12_typedBehind, .selects RX12 yX12_typedBehind yX12_typedBehind, .selects RX12 yX12_typedBehind yX12_typedBehind, .selects RX12 yX12_typedBehind yX12_typedBehind, .selects RX12 yX12_typedBehind yX12_typedBehind, .selects RX12 yX12_typedBehind yX12_typedBehind, .selects RX12 yX12_typedBehind yX12_typedBehind]
def tbA_57 : List Cond := [.code yX12_init cX12_init 2 none, .code objectInit ⟨#[0xb1]⟩ 1 none, .code yX2_init cX2_init 3 none, .code yX8_init cX8_init 3 none, .code yX6_init cX6_init 3 none, .code yX3_init cX3_init 1 none, .code yX7_init cX7_init 2 none, .code yX9_init cX9_init 2 none, .code yX10_init cX10_init 3 none, .code yX1_init cX1_init 2 none, .code yJx4a65c_init_da8c8 cJx4a65c_init_da8c8 1 none, .code yJxc12de_init_da8c8 cJxc12de_init_da8c8 1 none, .code yJxa1e45_init_da8c8 cJxa1e45_init_da8c8 1 none, .code yX4_init cX4_init 1 none, .code yX5_init cX5_init 4 none, .code yX12_declare cX12_declare 3 (some .boolean), .code yX12_isClass cX12_isClass 1 (some .boolean), .code yX2_begin cX2_begin 3 none, .code yX12_constructor cX12_constructor 6 (some .boolean), .code yX12_areTypes cX12_areTypes 4 (some .boolean), .code yX12_isType cX12_isType 1 (some .boolean), .code yX2_addConstructor cX2_addConstructor 5 (some .boolean), .code yX8_describe cX8_describe 4 none, .code yX8_setTypes cX8_setTypes 5 none]
def tbA_58 : List Cond := [.code yX12_setter cX12_setter 4 (some .boolean), .code yX12_isLetter cX12_isLetter 1 (some .boolean), .code yX2_addSetter cX2_addSetter 3 (some .boolean), .code yX12_factory cX12_factory 9 (some .boolean), .code yX2_addFactory cX2_addFactory 8 (some .boolean), .code yX12_type cX12_type 7 (some .int), .code yX12_typedBehind cX12_typedBehind 6 (some .int), .code yX12_fault cX12_fault 2 (some .int), .code yX5_failure cX5_failure 1 (some .int), .code yX5_failureBean cX5_failureBean 1 (some .int), .code yX12_close cX12_close 1 (some .int), .code yX5_destroyAll cX5_destroyAll 2 none, .code yX4_add cX4_add 6 none, .code yX5_forgetMade cX5_forgetMade 2 none, .code yX10_count cX10_count 1 (some .int), .code yX10_numbered cX10_numbered 2 (some (.object "WiredBeans$Bean")), .code yX4_count cX4_count 1 (some .int), .code yX12_events cX12_events 1 (some .int), .code yX12_event cX12_event 3 (some .int), .code yX4_number cX4_number 3 (some .int), .code yX12_object cX12_object 3 (some .int), .code yX5_classOfObject cX5_classOfObject 2 (some .int), .code yX5_isObject cX5_isObject 2 (some .boolean), .code yX5_beanOfObject cX5_beanOfObject 2 (some .int)]
def tbA_59 : List Cond := [.code yX12_bean cX12_bean 3 (some .int), .code yX1_told cX1_told 2 (some .int), .code yJx4a65c_size_8abf5 cJx4a65c_size_8abf5 1 (some .int), .codeWith yL_read cL_read 3 (some .int) [(0, 8, 11, 13)], .code yX12_read cX12_read 1 (some .int), .code yX5_startAfresh cX5_startAfresh 1 none, .code yX4_clear cX4_clear 1 none, .codeWith yX7_firstWrongPlace cX7_firstWrongPlace 4 (some .int) [(32, 75, 78, 50)], .code yX6_clear cX6_clear 1 none, .code yX7_skipAround cX7_skipAround 2 none, .code yX7_skipsWhite cX7_skipsWhite 2 (some .boolean), .code yX7_charAt cX7_charAt 2 (some .char), .code yX7_skipComment cX7_skipComment 1 none, .code yX7_expect cX7_expect 2 none, .code yX7_openElement cX7_openElement 5 none, .code yX7_isNameLetter cX7_isNameLetter 1 (some .boolean), .code yX6_isFull cX6_isFull 1 (some .boolean), .code yX7_readName cX7_readName 4 (some .long), .code yX6_addElement cX6_addElement 4 (some (.object "WiredBeans$Element")), .code yX3_begin cX3_begin 4 none, .code yX3_forgetWiring cX3_forgetWiring 1 none, .code yX3_addInner cX3_addInner 4 none, .code yX11_withKey cX11_withKey 6 (some (.object "WiredBeans$Word")), .code yX7_readAttribute cX7_readAttribute 4 none]
def tbA_60 : List Cond := [.code yX6_hasKey cX6_hasKey 5 (some .boolean), .code yX6_addAttribute cX6_addAttribute 4 none, .code yX7_readCharacter cX7_readCharacter 1 (some .char), .code yX7_readEntity cX7_readEntity 4 (some .char), .code yJ0_length_8abf5 cJ0_length_8abf5 1 (some .int), .code yJ0_coder_7d493 cJ0_coder_7d493 1 (some .byte), .code yJ0_charAt_5068e cJ0_charAt_5068e 2 (some .char), .code yJ0_isLatin1_aae02 cJ0_isLatin1_aae02 1 (some .boolean), .code yJ1_charAt_3b067 cJ1_charAt_3b067 2 (some .char), .code yJ0_checkIndex_df160 cJ0_checkIndex_df160 2 none, .code yJ3_checkIndex_8e157 cJ3_checkIndex_8e157 3 (some .int), .code yJ2_charAt_3b067 cJ2_charAt_3b067 2 (some .char), .code yJ2_checkIndex_2214a cJ2_checkIndex_2214a 2 none, .code yJ2_length_9d52b cJ2_length_9d52b 1 (some .int), .code yJ2_getChar_3b067 cJ2_getChar_3b067 2 (some .char), .code yX7_readNumbered cX7_readNumbered 3 (some .char), .code yX6_takesValue cX6_takesValue 3 (some .boolean), .code yX7_leaveElement cX7_leaveElement 1 none, .code yX7_readContent cX7_readContent 2 none, .code yX3_takesText cX3_takesText 2 (some .boolean), .code yX3_takeWhite cX3_takeWhite 2 none, .code yX7_closeElement cX7_closeElement 3 none, .code yX7_refuseMore cX7_refuseMore 1 none, .code yX9_firstWrongPlace cX9_firstWrongPlace 2 (some .int)]
def tbA_61 : List Cond := [.code yX6_count cX6_count 1 (some .int), .code yX6_element cX6_element 2 (some (.object "WiredBeans$Element")), .code yX9_isRight cX9_isRight 2 (some .boolean), .code yX9_standsRight cX9_standsRight 2 (some .boolean), .code yJx29ce0_ordinal_8abf5 cJx29ce0_ordinal_8abf5 1 (some .int), .code yX3_isIn cX3_isIn 2 (some .boolean), .code yX9_isHeld cX9_isHeld 2 (some .boolean), .code yX9_likeBefore cX9_likeBefore 5 (some .int), .code yX9_isFirstOfName cX9_isFirstOfName 5 (some .boolean), .code yX6_letterValue cX6_letterValue 5 (some .int), .code yX6_find cX6_find 4 (some .int), .code yX6_valueLength cX6_valueLength 2 (some .int), .code yX6_valueChar cX6_valueChar 3 (some .char), .code yX9_hasRightAttributes cX9_hasRightAttributes 4 (some .boolean), .code yX6_attributeWord cX6_attributeWord 2 (some (.object "WiredBeans$Word")), .code yX9_mayHave cX9_mayHave 3 (some .boolean), .code yX9_beanMayHave cX9_beanMayHave 3 (some .boolean), .code yX9_hasRightValue cX9_hasRightValue 3 (some .boolean), .code yX6_nameValue cX6_nameValue 9 (some .long), .code yX6_classValue cX6_classValue 5 (some .int), .code yX6_valueIs cX6_valueIs 4 (some .boolean), .code yX6_placeValue cX6_placeValue 5 (some .int), .code yX6_typeValue cX6_typeValue 5 (some .int), .code yX9_hasWhatItNeeds cX9_hasWhatItNeeds 2 (some .boolean)]
def tbA_62 : List Cond := [.code yX6_has cX6_has 3 (some .boolean), .code yX9_beanHasWhatItNeeds cX9_beanHasWhatItNeeds 2 (some .boolean), .code yX9_hasRightCount cX9_hasRightCount 2 (some .boolean), .code yX10_firstWrongPlace cX10_firstWrongPlace 2 (some .int), .code yX10_settle cX10_settle 2 none, .code yX1_begin cX1_begin 3 none, .code yJx4a65c_clear_da8c8 cJx4a65c_clear_da8c8 4 none, .code yX10_settleContent cX10_settleContent 2 none, .code yX6_valueToText cX6_valueToText 6 none, .code yX3_weighText cX3_weighText 1 none, .code yX3_textAsNumber cX3_textAsNumber 7 (some .long), .code yX3_textIs cX3_textIs 3 (some .boolean), .code yX10_isRight cX10_isRight 4 (some .boolean), .code yX10_hasRightParent cX10_hasRightParent 3 (some .boolean), .code yX10_withId cX10_withId 4 (some (.object "WiredBeans$Bean")), .code yX10_comesToItself cX10_comesToItself 4 (some .boolean), .code yX10_merge cX10_merge 5 none, .code yX1_overlay cX1_overlay 3 none, .code yX1_overlayInner cX1_overlayInner 5 none, .code yJx4a65c_add_9ea2d cJx4a65c_add_9ea2d 2 (some .boolean), .code yJx4a65c_add_72be8 cJx4a65c_add_72be8 4 none, .code yJx4a65c_grow_d5877 cJx4a65c_grow_d5877 1 (some (.array (.object "java/lang/Object"))), .code yJx4a65c_grow_92f84 cJx4a65c_grow_92f84 4 (some (.array (.object "java/lang/Object"))), .code yJ8_newLength_cabcc cJ8_newLength_cabcc 4 (some .int)]
def tbA_63 : List Cond := [.code Lib.Math.max.name Lib.Math.max.code 2 (some .int), .code yJ8_hugeLength_7cf53 cJ8_hugeLength_7cf53 3 (some .int), .code yJ7_copyOf_1904c cJ7_copyOf_1904c 2 (some (.array (.object "java/lang/Object"))), .code yJ7_copyOf_6403c cJ7_copyOf_6403c 4 (some (.array (.object "java/lang/Object"))), .code Lib.Math.min.name Lib.Math.min.code 2 (some .int), .code yX1_putNamed cX1_putNamed 3 none, .code yJx4a65c_get_915e3 cJx4a65c_get_915e3 2 (some (.object "java/lang/Object")), .code yJ15_checkIndex_7cf53 cJ15_checkIndex_7cf53 2 (some .int), .code yJx4a65c_elementData_915e3 cJx4a65c_elementData_915e3 2 (some (.object "java/lang/Object")), .code yJx4a65c_set_bcc79 cJx4a65c_set_bcc79 4 (some (.object "java/lang/Object")), .code yX10_forgetBeans cX10_forgetBeans 1 none, .codeWith yL_refresh cL_refresh 3 (some .int) [(0, 8, 11, 18), (0, 8, 14, 20)], .code yX12_refresh cX12_refresh 1 (some .int), .code yX5_forgetFailure cX5_forgetFailure 1 none, .codeWith yX5_renewsAll cX5_renewsAll 3 (some .boolean) [(11, 79, 82, 103)], .code yX5_obtain cX5_obtain 5 (some .int), .code yX10_called cX10_called 7 (some (.object "WiredBeans$Bean")), .code yX10_nameBehindAlias cX10_nameBehindAlias 5 (some .long), .code yX5_failWith cX5_failWith 2 (some .int), .code yX5_make cX5_make 5 (some .int), .code yX5_workOutArgs cX5_workOutArgs 4 none, .code yX5_slot cX5_slot 2 (some .int), .code yX5_workOut cX5_workOut 6 none, .code yX5_itemValue cX5_itemValue 3 (some .int)]
def tbA_64 : List Cond := [.code yX5_objectOf cX5_objectOf 3 (some .int), .code yX5_chooseFor cX5_chooseFor 13 (some (.object "WiredBeans$Signature")), .code yX2_withFactory cX2_withFactory 5 (some (.object "WiredBeans$DeclaredClass")), .code yX2_ownsFactory cX2_ownsFactory 4 (some .boolean), .code yX8_isCalled cX8_isCalled 3 (some .boolean), .code yX5_placesArgs cX5_placesArgs 5 (some .boolean), .code yX5_placeOthers cX5_placeOthers 5 none, .code yX5_sumFor cX5_sumFor 9 (some .int), .code yX5_weightOf cX5_weightOf 4 (some .int), .code yX5_textWeight cX5_textWeight 2 (some .int), .code yX5_objectWeight cX5_objectWeight 4 (some .int), .code yX2_stepsTo cX2_stepsTo 4 (some .int), .code yX5_bringToBe cX5_bringToBe 7 none, .code yX5_tellValue cX5_tellValue 8 none, .code yX5_valueOf cX5_valueOf 4 (some .int), .code yX5_textValue cX5_textValue 2 (some .int), .code yX5_applySets cX5_applySets 8 none, .code yX2_setterType cX2_setterType 4 (some .int), .code yX5_finish cX5_finish 2 none, .code yX5_stopMaking cX5_stopMaking 2 none, .code yX5_objectCount cX5_objectCount 1 (some .int), .codeWith yL_get cL_get 5 (some .int) [(0, 9, 12, 18), (0, 9, 16, 20)], .code yX12_get cX12_get 4 (some .int), .code yX12_withoutZeros cX12_withoutZeros 7 (some .long)]
def tbA_65 : List Cond := [.codeWith yX5_objectCalled cX5_objectCalled 4 (some .int) [(0, 6, 7, 103)], .codeWith yL_call cL_call 5 (some .int) [(0, 10, 13, 18), (0, 10, 17, 30), (0, 10, 21, 20)], .code yX12_call cX12_call 5 (some .int), .code yX5_lookupOf cX5_lookupOf 3 (some (.object "WiredBeans$Element")), .code yX1_lookupNamed cX1_lookupNamed 3 (some (.object "WiredBeans$Element")), .code yX13_init cX13_init 2 none, .code yX13_declare cX13_declare 3 (some .boolean), .code yX13_isClass cX13_isClass 1 (some .boolean), .code yX13_constructor cX13_constructor 7 (some .boolean), .code yX13_areTypes cX13_areTypes 4 (some .boolean), .code yX13_isType cX13_isType 1 (some .boolean), .code yX13_setter cX13_setter 5 (some .boolean), .code yX13_isLetter cX13_isLetter 1 (some .boolean), .code yX13_factory cX13_factory 10 (some .boolean), .code yX13_type cX13_type 10 (some .int), .code yX13_read cX13_read 4 (some .int), .code yX13_clear cX13_clear 2 none, .code yX13_readDocument cX13_readDocument 5 none, .code yX13_between cX13_between 2 none, .code yX13_white cX13_white 2 (some .int), .code yX13_here cX13_here 2 (some .int), .code yX13_isWhite cX13_isWhite 2 (some .boolean), .code yX13_comment cX13_comment 2 none, .code yX13_must cX13_must 2 none]
def tbA_66 : List Cond := [.code yX13_bad cX13_bad 2 none, .code yX13_isSmall cX13_isSmall 2 (some .boolean), .code yX13_begin cX13_begin 6 (some .int), .code yX13_name cX13_name 4 (some .long), .code yX13_attribute cX13_attribute 6 none, .code yX13_find cX13_find 5 (some .int), .code yX13_entity cX13_entity 5 (some .int), .code yX13_numberedEntity cX13_numberedEntity 3 (some .int), .code yX13_agrees cX13_agrees 4 (some .boolean), .code yX13_add cX13_add 3 none, .code yX13_end cX13_end 5 none, .code yX13_badStructure cX13_badStructure 3 (some .int), .code yX13_isGood cX13_isGood 3 (some .boolean), .code yX13_isInPlace cX13_isInPlace 3 (some .boolean), .code yX13_isAllowed cX13_isAllowed 4 (some .boolean), .code yX13_isWord cX13_isWord 6 (some .boolean), .code yX13_isGoodBean cX13_isGoodBean 8 (some .boolean), .code yX13_has cX13_has 4 (some .boolean), .code yX13_isOneLetter cX13_isOneLetter 4 (some .boolean), .code yX13_word cX13_word 8 (some .long), .code yX13_classIn cX13_classIn 2 (some .int), .code yX13_isOneOf cX13_isOneOf 6 (some .boolean), .code yX13_isGoodHolder cX13_isGoodHolder 3 (some .boolean), .code yX13_ahead cX13_ahead 5 (some .int)]
def tbA_67 : List Cond := [.code yX13_typeIn cX13_typeIn 5 (some .int), .code yX13_badBeans cX13_badBeans 4 (some .int), .code yX13_isUsed cX13_isUsed 5 (some .boolean), .code yX13_parentOf cX13_parentOf 2 (some .int), .code yX13_withId cX13_withId 4 (some .int), .code yX13_comesToItself cX13_comesToItself 4 (some .boolean), .code yX13_mergeBean cX13_mergeBean 6 none, .code yX13_inner cX13_inner 5 (some .int), .code yX13_merge cX13_merge 6 (some .int), .code yX13_fault cX13_fault 2 (some .int), .code yX13_refresh cX13_refresh 4 (some .int), .code yX13_isAbstract cX13_isAbstract 2 (some .boolean), .code yX13_isMany cX13_isMany 2 (some .boolean), .code yX13_run cX13_run 4 (some .boolean), .code yX13_gets cX13_gets 2 (some .boolean), .code yX13_fails cX13_fails 2 none, .code yX13_step cX13_step 4 none, .code yX13_called cX13_called 10 (some .int), .code yX13_deliver cX13_deliver 5 none, .code yX13_arg cX13_arg 6 (some .int), .code yX13_argsOf cX13_argsOf 3 (some .int), .code yX13_keep cX13_keep 5 none, .code yX13_tells cX13_tells 5 (some .int), .code yX13_args cX13_args 3 (some .int)]
def tbA_68 : List Cond := [.code yX13_workedOut cX13_workedOut 8 (some .boolean), .code yX13_worked cX13_worked 6 (some .boolean), .code yX13_next cX13_next 3 none, .code yX13_makeObject cX13_makeObject 9 none, .code yX13_letter cX13_letter 5 (some .int), .code yX13_classOf cX13_classOf 3 (some .int), .code yX13_classWithFactory cX13_classWithFactory 6 (some .int), .code yX13_isFactory cX13_isFactory 4 (some .boolean), .code yX13_chosen cX13_chosen 10 (some .int), .code yX13_sum cX13_sum 11 (some .int), .code yX13_placed cX13_placed 6 (some .boolean), .code yX13_weight cX13_weight 6 (some .int), .code yX13_numberIn cX13_numberIn 8 (some .long), .code yX13_length cX13_length 2 (some .int), .code yX13_sign cX13_sign 3 (some .int), .code yX13_is cX13_is 7 (some .boolean), .code yX13_happens cX13_happens 5 none, .code yX13_tell cX13_tell 7 none, .code yX13_told cX13_told 4 (some .int), .code yX13_finish cX13_finish 3 none, .code yX13_setOne cX13_setOne 6 none, .code yX13_typeOfSetter cX13_typeOfSetter 5 (some .int), .code yX13_shut cX13_shut 3 none, .code yX13_get cX13_get 3 (some .int)]
def tbA_69 : List Cond := [.code yX13_letters cX13_letters 5 (some .long), .code yX13_call cX13_call 7 (some .int), .code yX13_close cX13_close 1 (some .int), .code yX13_events cX13_events 1 (some .int), .code yX13_event cX13_event 3 (some .int), .code yX13_object cX13_object 3 (some .int), .code yX13_bean cX13_bean 4 (some .int)]
def tbG_0 : List Cond := tbA_0 ++ (tbA_1 ++ (tbA_2 ++ (tbA_3 ++ (tbA_4 ++ (tbA_5 ++ (tbA_6 ++ (tbA_7 ++ (tbA_8 ++ (tbA_9)))))))))
def tbG_1 : List Cond := tbA_10 ++ (tbA_11 ++ (tbA_12 ++ (tbA_13 ++ (tbA_14 ++ (tbA_15 ++ (tbA_16 ++ (tbA_17 ++ (tbA_18 ++ (tbA_19)))))))))
def tbG_2 : List Cond := tbA_20 ++ (tbA_21 ++ (tbA_22 ++ (tbA_23 ++ (tbA_24 ++ (tbA_25 ++ (tbA_26 ++ (tbA_27 ++ (tbA_28 ++ (tbA_29)))))))))
def tbG_3 : List Cond := tbA_30 ++ (tbA_31 ++ (tbA_32 ++ (tbA_33 ++ (tbA_34 ++ (tbA_35 ++ (tbA_36 ++ (tbA_37 ++ (tbA_38 ++ (tbA_39)))))))))
def tbG_4 : List Cond := tbA_40 ++ (tbA_41 ++ (tbA_42 ++ (tbA_43 ++ (tbA_44 ++ (tbA_45 ++ (tbA_46 ++ (tbA_47 ++ (tbA_48 ++ (tbA_49)))))))))
def tbG_5 : List Cond := tbA_50 ++ (tbA_51 ++ (tbA_52 ++ (tbA_53 ++ (tbA_54 ++ (tbA_55 ++ (tbA_56 ++ (tbA_57 ++ (tbA_58 ++ (tbA_59)))))))))
def tbG_6 : List Cond := tbA_60 ++ (tbA_61 ++ (tbA_62 ++ (tbA_63 ++ (tbA_64 ++ (tbA_65 ++ (tbA_66 ++ (tbA_67 ++ (tbA_68 ++ (tbA_69)))))))))
def tbA : List Cond := tbG_0 ++ (tbG_1 ++ (tbG_2 ++ (tbG_3 ++ (tbG_4 ++ (tbG_5 ++ (tbG_6))))))
def tbF : List Cond := wsJx4a65c0 ++ (wsX10 ++ (wsX20 ++ (wsX30 ++ (wsX40 ++ (wsX50 ++ (wsX60 ++ (wsX70 ++ (wsX80 ++ (wsX90 ++ (wsX100 ++ (wsX120 ++ (wsX130))))))))))))
def tbX : List Cond := (vx_at0 RX12 131 "java/lang/IllegalArgumentException" ["java/lang/RuntimeException", "java/lang/Exception"]).filter goodWord ++ ((vx_at0 RX7 52 "java/lang/IllegalArgumentException" ["java/lang/RuntimeException", "java/lang/Exception"]).filter goodWord ++ ((vx_at0 RX12 146 "java/lang/IllegalStateException" ["java/lang/RuntimeException", "java/lang/Exception"]).filter goodWord ++ ((vx_at0 RX12 153 "java/lang/UnsupportedOperationException" ["java/lang/RuntimeException", "java/lang/Exception"]).filter goodWord ++ ((vx_at0 RX5 131 "java/lang/UnsupportedOperationException" ["java/lang/RuntimeException", "java/lang/Exception"]).filter goodWord ++ ((vx_at0 RX12 171 "java/lang/IndexOutOfBoundsException" ["java/lang/RuntimeException", "java/lang/Exception"]).filter goodWord)))))
def tb : List Cond := tbA ++ (tbF ++ tbX)
theorem inA_0 : ∀ w ∈ tbA_0, w ∈ tb := fun _ h => List.mem_append_left _ (List.mem_append_left _ (List.mem_append_left _ (h)))
theorem inA_1 : ∀ w ∈ tbA_1, w ∈ tb := fun _ h => List.mem_append_left _ (List.mem_append_left _ (List.mem_append_right _ (List.mem_append_left _ (h))))
theorem inA_2 : ∀ w ∈ tbA_2, w ∈ tb := fun _ h => List.mem_append_left _ (List.mem_append_left _ (List.mem_append_right _ (List.mem_append_right _ (List.mem_append_left _ (h)))))
theorem inA_3 : ∀ w ∈ tbA_3, w ∈ tb := fun _ h => List.mem_append_left _ (List.mem_append_left _ (List.mem_append_right _ (List.mem_append_right _ (List.mem_append_right _ (List.mem_append_left _ (h))))))
theorem inA_4 : ∀ w ∈ tbA_4, w ∈ tb := fun _ h => List.mem_append_left _ (List.mem_append_left _ (List.mem_append_right _ (List.mem_append_right _ (List.mem_append_right _ (List.mem_append_right _ (List.mem_append_left _ (h)))))))
theorem inA_5 : ∀ w ∈ tbA_5, w ∈ tb := fun _ h => List.mem_append_left _ (List.mem_append_left _ (List.mem_append_right _ (List.mem_append_right _ (List.mem_append_right _ (List.mem_append_right _ (List.mem_append_right _ (List.mem_append_left _ (h))))))))
theorem inA_6 : ∀ w ∈ tbA_6, w ∈ tb := fun _ h => List.mem_append_left _ (List.mem_append_left _ (List.mem_append_right _ (List.mem_append_right _ (List.mem_append_right _ (List.mem_append_right _ (List.mem_append_right _ (List.mem_append_right _ (List.mem_append_left _ (h)))))))))
theorem inA_7 : ∀ w ∈ tbA_7, w ∈ tb := fun _ h => List.mem_append_left _ (List.mem_append_left _ (List.mem_append_right _ (List.mem_append_right _ (List.mem_append_right _ (List.mem_append_right _ (List.mem_append_right _ (List.mem_append_right _ (List.mem_append_right _ (List.mem_append_left _ (h))))))))))
theorem inA_8 : ∀ w ∈ tbA_8, w ∈ tb := fun _ h => List.mem_append_left _ (List.mem_append_left _ (List.mem_append_right _ (List.mem_append_right _ (List.mem_append_right _ (List.mem_append_right _ (List.mem_append_right _ (List.mem_append_right _ (List.mem_append_right _ (List.mem_append_right _ (List.mem_append_left _ (h)))))))))))
theorem inA_9 : ∀ w ∈ tbA_9, w ∈ tb := fun _ h => List.mem_append_left _ (List.mem_append_left _ (List.mem_append_right _ (List.mem_append_right _ (List.mem_append_right _ (List.mem_append_right _ (List.mem_append_right _ (List.mem_append_right _ (List.mem_append_right _ (List.mem_append_right _ (List.mem_append_right _ (h)))))))))))
theorem inA_10 : ∀ w ∈ tbA_10, w ∈ tb := fun _ h => List.mem_append_left _ (List.mem_append_right _ (List.mem_append_left _ (List.mem_append_left _ (h))))
theorem inA_11 : ∀ w ∈ tbA_11, w ∈ tb := fun _ h => List.mem_append_left _ (List.mem_append_right _ (List.mem_append_left _ (List.mem_append_right _ (List.mem_append_left _ (h)))))
theorem inA_12 : ∀ w ∈ tbA_12, w ∈ tb := fun _ h => List.mem_append_left _ (List.mem_append_right _ (List.mem_append_left _ (List.mem_append_right _ (List.mem_append_right _ (List.mem_append_left _ (h))))))
theorem inA_13 : ∀ w ∈ tbA_13, w ∈ tb := fun _ h => List.mem_append_left _ (List.mem_append_right _ (List.mem_append_left _ (List.mem_append_right _ (List.mem_append_right _ (List.mem_append_right _ (List.mem_append_left _ (h)))))))
theorem inA_14 : ∀ w ∈ tbA_14, w ∈ tb := fun _ h => List.mem_append_left _ (List.mem_append_right _ (List.mem_append_left _ (List.mem_append_right _ (List.mem_append_right _ (List.mem_append_right _ (List.mem_append_right _ (List.mem_append_left _ (h))))))))
theorem inA_15 : ∀ w ∈ tbA_15, w ∈ tb := fun _ h => List.mem_append_left _ (List.mem_append_right _ (List.mem_append_left _ (List.mem_append_right _ (List.mem_append_right _ (List.mem_append_right _ (List.mem_append_right _ (List.mem_append_right _ (List.mem_append_left _ (h)))))))))
theorem inA_16 : ∀ w ∈ tbA_16, w ∈ tb := fun _ h => List.mem_append_left _ (List.mem_append_right _ (List.mem_append_left _ (List.mem_append_right _ (List.mem_append_right _ (List.mem_append_right _ (List.mem_append_right _ (List.mem_append_right _ (List.mem_append_right _ (List.mem_append_left _ (h))))))))))
theorem inA_17 : ∀ w ∈ tbA_17, w ∈ tb := fun _ h => List.mem_append_left _ (List.mem_append_right _ (List.mem_append_left _ (List.mem_append_right _ (List.mem_append_right _ (List.mem_append_right _ (List.mem_append_right _ (List.mem_append_right _ (List.mem_append_right _ (List.mem_append_right _ (List.mem_append_left _ (h)))))))))))
theorem inA_18 : ∀ w ∈ tbA_18, w ∈ tb := fun _ h => List.mem_append_left _ (List.mem_append_right _ (List.mem_append_left _ (List.mem_append_right _ (List.mem_append_right _ (List.mem_append_right _ (List.mem_append_right _ (List.mem_append_right _ (List.mem_append_right _ (List.mem_append_right _ (List.mem_append_right _ (List.mem_append_left _ (h))))))))))))
theorem inA_19 : ∀ w ∈ tbA_19, w ∈ tb := fun _ h => List.mem_append_left _ (List.mem_append_right _ (List.mem_append_left _ (List.mem_append_right _ (List.mem_append_right _ (List.mem_append_right _ (List.mem_append_right _ (List.mem_append_right _ (List.mem_append_right _ (List.mem_append_right _ (List.mem_append_right _ (List.mem_append_right _ (h))))))))))))
theorem inA_20 : ∀ w ∈ tbA_20, w ∈ tb := fun _ h => List.mem_append_left _ (List.mem_append_right _ (List.mem_append_right _ (List.mem_append_left _ (List.mem_append_left _ (h)))))
theorem inA_21 : ∀ w ∈ tbA_21, w ∈ tb := fun _ h => List.mem_append_left _ (List.mem_append_right _ (List.mem_append_right _ (List.mem_append_left _ (List.mem_append_right _ (List.mem_append_left _ (h))))))
theorem inA_22 : ∀ w ∈ tbA_22, w ∈ tb := fun _ h => List.mem_append_left _ (List.mem_append_right _ (List.mem_append_right _ (List.mem_append_left _ (List.mem_append_right _ (List.mem_append_right _ (List.mem_append_left _ (h)))))))
theorem inA_23 : ∀ w ∈ tbA_23, w ∈ tb := fun _ h => List.mem_append_left _ (List.mem_append_right _ (List.mem_append_right _ (List.mem_append_left _ (List.mem_append_right _ (List.mem_append_right _ (List.mem_append_right _ (List.mem_append_left _ (h))))))))
theorem inA_24 : ∀ w ∈ tbA_24, w ∈ tb := fun _ h => List.mem_append_left _ (List.mem_append_right _ (List.mem_append_right _ (List.mem_append_left _ (List.mem_append_right _ (List.mem_append_right _ (List.mem_append_right _ (List.mem_append_right _ (List.mem_append_left _ (h)))))))))
theorem inA_25 : ∀ w ∈ tbA_25, w ∈ tb := fun _ h => List.mem_append_left _ (List.mem_append_right _ (List.mem_append_right _ (List.mem_append_left _ (List.mem_append_right _ (List.mem_append_right _ (List.mem_append_right _ (List.mem_append_right _ (List.mem_append_right _ (List.mem_append_left _ (h))))))))))
theorem inA_26 : ∀ w ∈ tbA_26, w ∈ tb := fun _ h => List.mem_append_left _ (List.mem_append_right _ (List.mem_append_right _ (List.mem_append_left _ (List.mem_append_right _ (List.mem_append_right _ (List.mem_append_right _ (List.mem_append_right _ (List.mem_append_right _ (List.mem_append_right _ (List.mem_append_left _ (h)))))))))))
theorem inA_27 : ∀ w ∈ tbA_27, w ∈ tb := fun _ h => List.mem_append_left _ (List.mem_append_right _ (List.mem_append_right _ (List.mem_append_left _ (List.mem_append_right _ (List.mem_append_right _ (List.mem_append_right _ (List.mem_append_right _ (List.mem_append_right _ (List.mem_append_right _ (List.mem_append_right _ (List.mem_append_left _ (h))))))))))))
theorem inA_28 : ∀ w ∈ tbA_28, w ∈ tb := fun _ h => List.mem_append_left _ (List.mem_append_right _ (List.mem_append_right _ (List.mem_append_left _ (List.mem_append_right _ (List.mem_append_right _ (List.mem_append_right _ (List.mem_append_right _ (List.mem_append_right _ (List.mem_append_right _ (List.mem_append_right _ (List.mem_append_right _ (List.mem_append_left _ (h)))))))))))))
theorem inA_29 : ∀ w ∈ tbA_29, w ∈ tb := fun _ h => List.mem_append_left _ (List.mem_append_right _ (List.mem_append_right _ (List.mem_append_left _ (List.mem_append_right _ (List.mem_append_right _ (List.mem_append_right _ (List.mem_append_right _ (List.mem_append_right _ (List.mem_append_right _ (List.mem_append_right _ (List.mem_append_right _ (List.mem_append_right _ (h)))))))))))))
theorem inA_30 : ∀ w ∈ tbA_30, w ∈ tb := fun _ h => List.mem_append_left _ (List.mem_append_right _ (List.mem_append_right _ (List.mem_append_right _ (List.mem_append_left _ (List.mem_append_left _ (h))))))
theorem inA_31 : ∀ w ∈ tbA_31, w ∈ tb := fun _ h => List.mem_append_left _ (List.mem_append_right _ (List.mem_append_right _ (List.mem_append_right _ (List.mem_append_left _ (List.mem_append_right _ (List.mem_append_left _ (h)))))))
theorem inA_32 : ∀ w ∈ tbA_32, w ∈ tb := fun _ h => List.mem_append_left _ (List.mem_append_right _ (List.mem_append_right _ (List.mem_append_right _ (List.mem_append_left _ (List.mem_append_right _ (List.mem_append_right _ (List.mem_append_left _ (h))))))))
theorem inA_33 : ∀ w ∈ tbA_33, w ∈ tb := fun _ h => List.mem_append_left _ (List.mem_append_right _ (List.mem_append_right _ (List.mem_append_right _ (List.mem_append_left _ (List.mem_append_right _ (List.mem_append_right _ (List.mem_append_right _ (List.mem_append_left _ (h)))))))))
theorem inA_34 : ∀ w ∈ tbA_34, w ∈ tb := fun _ h => List.mem_append_left _ (List.mem_append_right _ (List.mem_append_right _ (List.mem_append_right _ (List.mem_append_left _ (List.mem_append_right _ (List.mem_append_right _ (List.mem_append_right _ (List.mem_append_right _ (List.mem_append_left _ (h))))))))))
theorem inA_35 : ∀ w ∈ tbA_35, w ∈ tb := fun _ h => List.mem_append_left _ (List.mem_append_right _ (List.mem_append_right _ (List.mem_append_right _ (List.mem_append_left _ (List.mem_append_right _ (List.mem_append_right _ (List.mem_append_right _ (List.mem_append_right _ (List.mem_append_right _ (List.mem_append_left _ (h)))))))))))
theorem inA_36 : ∀ w ∈ tbA_36, w ∈ tb := fun _ h => List.mem_append_left _ (List.mem_append_right _ (List.mem_append_right _ (List.mem_append_right _ (List.mem_append_left _ (List.mem_append_right _ (List.mem_append_right _ (List.mem_append_right _ (List.mem_append_right _ (List.mem_append_right _ (List.mem_append_right _ (List.mem_append_left _ (h))))))))))))
theorem inA_37 : ∀ w ∈ tbA_37, w ∈ tb := fun _ h => List.mem_append_left _ (List.mem_append_right _ (List.mem_append_right _ (List.mem_append_right _ (List.mem_append_left _ (List.mem_append_right _ (List.mem_append_right _ (List.mem_append_right _ (List.mem_append_right _ (List.mem_append_right _ (List.mem_append_right _ (List.mem_append_right _ (List.mem_append_left _ (h)))))))))))))
theorem inA_38 : ∀ w ∈ tbA_38, w ∈ tb := fun _ h => List.mem_append_left _ (List.mem_append_right _ (List.mem_append_right _ (List.mem_append_right _ (List.mem_append_left _ (List.mem_append_right _ (List.mem_append_right _ (List.mem_append_right _ (List.mem_append_right _ (List.mem_append_right _ (List.mem_append_right _ (List.mem_append_right _ (List.mem_append_right _ (List.mem_append_left _ (h))))))))))))))
theorem inA_39 : ∀ w ∈ tbA_39, w ∈ tb := fun _ h => List.mem_append_left _ (List.mem_append_right _ (List.mem_append_right _ (List.mem_append_right _ (List.mem_append_left _ (List.mem_append_right _ (List.mem_append_right _ (List.mem_append_right _ (List.mem_append_right _ (List.mem_append_right _ (List.mem_append_right _ (List.mem_append_right _ (List.mem_append_right _ (List.mem_append_right _ (h))))))))))))))
theorem inA_40 : ∀ w ∈ tbA_40, w ∈ tb := fun _ h => List.mem_append_left _ (List.mem_append_right _ (List.mem_append_right _ (List.mem_append_right _ (List.mem_append_right _ (List.mem_append_left _ (List.mem_append_left _ (h)))))))
theorem inA_41 : ∀ w ∈ tbA_41, w ∈ tb := fun _ h => List.mem_append_left _ (List.mem_append_right _ (List.mem_append_right _ (List.mem_append_right _ (List.mem_append_right _ (List.mem_append_left _ (List.mem_append_right _ (List.mem_append_left _ (h))))))))
theorem inA_42 : ∀ w ∈ tbA_42, w ∈ tb := fun _ h => List.mem_append_left _ (List.mem_append_right _ (List.mem_append_right _ (List.mem_append_right _ (List.mem_append_right _ (List.mem_append_left _ (List.mem_append_right _ (List.mem_append_right _ (List.mem_append_left _ (h)))))))))
theorem inA_43 : ∀ w ∈ tbA_43, w ∈ tb := fun _ h => List.mem_append_left _ (List.mem_append_right _ (List.mem_append_right _ (List.mem_append_right _ (List.mem_append_right _ (List.mem_append_left _ (List.mem_append_right _ (List.mem_append_right _ (List.mem_append_right _ (List.mem_append_left _ (h))))))))))
theorem inA_44 : ∀ w ∈ tbA_44, w ∈ tb := fun _ h => List.mem_append_left _ (List.mem_append_right _ (List.mem_append_right _ (List.mem_append_right _ (List.mem_append_right _ (List.mem_append_left _ (List.mem_append_right _ (List.mem_append_right _ (List.mem_append_right _ (List.mem_append_right _ (List.mem_append_left _ (h)))))))))))
theorem inA_45 : ∀ w ∈ tbA_45, w ∈ tb := fun _ h => List.mem_append_left _ (List.mem_append_right _ (List.mem_append_right _ (List.mem_append_right _ (List.mem_append_right _ (List.mem_append_left _ (List.mem_append_right _ (List.mem_append_right _ (List.mem_append_right _ (List.mem_append_right _ (List.mem_append_right _ (List.mem_append_left _ (h))))))))))))
theorem inA_46 : ∀ w ∈ tbA_46, w ∈ tb := fun _ h => List.mem_append_left _ (List.mem_append_right _ (List.mem_append_right _ (List.mem_append_right _ (List.mem_append_right _ (List.mem_append_left _ (List.mem_append_right _ (List.mem_append_right _ (List.mem_append_right _ (List.mem_append_right _ (List.mem_append_right _ (List.mem_append_right _ (List.mem_append_left _ (h)))))))))))))
theorem inA_47 : ∀ w ∈ tbA_47, w ∈ tb := fun _ h => List.mem_append_left _ (List.mem_append_right _ (List.mem_append_right _ (List.mem_append_right _ (List.mem_append_right _ (List.mem_append_left _ (List.mem_append_right _ (List.mem_append_right _ (List.mem_append_right _ (List.mem_append_right _ (List.mem_append_right _ (List.mem_append_right _ (List.mem_append_right _ (List.mem_append_left _ (h))))))))))))))
theorem inA_48 : ∀ w ∈ tbA_48, w ∈ tb := fun _ h => List.mem_append_left _ (List.mem_append_right _ (List.mem_append_right _ (List.mem_append_right _ (List.mem_append_right _ (List.mem_append_left _ (List.mem_append_right _ (List.mem_append_right _ (List.mem_append_right _ (List.mem_append_right _ (List.mem_append_right _ (List.mem_append_right _ (List.mem_append_right _ (List.mem_append_right _ (List.mem_append_left _ (h)))))))))))))))
theorem inA_49 : ∀ w ∈ tbA_49, w ∈ tb := fun _ h => List.mem_append_left _ (List.mem_append_right _ (List.mem_append_right _ (List.mem_append_right _ (List.mem_append_right _ (List.mem_append_left _ (List.mem_append_right _ (List.mem_append_right _ (List.mem_append_right _ (List.mem_append_right _ (List.mem_append_right _ (List.mem_append_right _ (List.mem_append_right _ (List.mem_append_right _ (List.mem_append_right _ (h)))))))))))))))
theorem inA_50 : ∀ w ∈ tbA_50, w ∈ tb := fun _ h => List.mem_append_left _ (List.mem_append_right _ (List.mem_append_right _ (List.mem_append_right _ (List.mem_append_right _ (List.mem_append_right _ (List.mem_append_left _ (List.mem_append_left _ (h))))))))
theorem inA_51 : ∀ w ∈ tbA_51, w ∈ tb := fun _ h => List.mem_append_left _ (List.mem_append_right _ (List.mem_append_right _ (List.mem_append_right _ (List.mem_append_right _ (List.mem_append_right _ (List.mem_append_left _ (List.mem_append_right _ (List.mem_append_left _ (h)))))))))
theorem inA_52 : ∀ w ∈ tbA_52, w ∈ tb := fun _ h => List.mem_append_left _ (List.mem_append_right _ (List.mem_append_right _ (List.mem_append_right _ (List.mem_append_right _ (List.mem_append_right _ (List.mem_append_left _ (List.mem_append_right _ (List.mem_append_right _ (List.mem_append_left _ (h))))))))))
theorem inA_53 : ∀ w ∈ tbA_53, w ∈ tb := fun _ h => List.mem_append_left _ (List.mem_append_right _ (List.mem_append_right _ (List.mem_append_right _ (List.mem_append_right _ (List.mem_append_right _ (List.mem_append_left _ (List.mem_append_right _ (List.mem_append_right _ (List.mem_append_right _ (List.mem_append_left _ (h)))))))))))
theorem inA_54 : ∀ w ∈ tbA_54, w ∈ tb := fun _ h => List.mem_append_left _ (List.mem_append_right _ (List.mem_append_right _ (List.mem_append_right _ (List.mem_append_right _ (List.mem_append_right _ (List.mem_append_left _ (List.mem_append_right _ (List.mem_append_right _ (List.mem_append_right _ (List.mem_append_right _ (List.mem_append_left _ (h))))))))))))
theorem inA_55 : ∀ w ∈ tbA_55, w ∈ tb := fun _ h => List.mem_append_left _ (List.mem_append_right _ (List.mem_append_right _ (List.mem_append_right _ (List.mem_append_right _ (List.mem_append_right _ (List.mem_append_left _ (List.mem_append_right _ (List.mem_append_right _ (List.mem_append_right _ (List.mem_append_right _ (List.mem_append_right _ (List.mem_append_left _ (h)))))))))))))
theorem inA_56 : ∀ w ∈ tbA_56, w ∈ tb := fun _ h => List.mem_append_left _ (List.mem_append_right _ (List.mem_append_right _ (List.mem_append_right _ (List.mem_append_right _ (List.mem_append_right _ (List.mem_append_left _ (List.mem_append_right _ (List.mem_append_right _ (List.mem_append_right _ (List.mem_append_right _ (List.mem_append_right _ (List.mem_append_right _ (List.mem_append_left _ (h))))))))))))))
theorem inA_57 : ∀ w ∈ tbA_57, w ∈ tb := fun _ h => List.mem_append_left _ (List.mem_append_right _ (List.mem_append_right _ (List.mem_append_right _ (List.mem_append_right _ (List.mem_append_right _ (List.mem_append_left _ (List.mem_append_right _ (List.mem_append_right _ (List.mem_append_right _ (List.mem_append_right _ (List.mem_append_right _ (List.mem_append_right _ (List.mem_append_right _ (List.mem_append_left _ (h)))))))))))))))
theorem inA_58 : ∀ w ∈ tbA_58, w ∈ tb := fun _ h => List.mem_append_left _ (List.mem_append_right _ (List.mem_append_right _ (List.mem_append_right _ (List.mem_append_right _ (List.mem_append_right _ (List.mem_append_left _ (List.mem_append_right _ (List.mem_append_right _ (List.mem_append_right _ (List.mem_append_right _ (List.mem_append_right _ (List.mem_append_right _ (List.mem_append_right _ (List.mem_append_right _ (List.mem_append_left _ (h))))))))))))))))
theorem inA_59 : ∀ w ∈ tbA_59, w ∈ tb := fun _ h => List.mem_append_left _ (List.mem_append_right _ (List.mem_append_right _ (List.mem_append_right _ (List.mem_append_right _ (List.mem_append_right _ (List.mem_append_left _ (List.mem_append_right _ (List.mem_append_right _ (List.mem_append_right _ (List.mem_append_right _ (List.mem_append_right _ (List.mem_append_right _ (List.mem_append_right _ (List.mem_append_right _ (List.mem_append_right _ (h))))))))))))))))
theorem inA_60 : ∀ w ∈ tbA_60, w ∈ tb := fun _ h => List.mem_append_left _ (List.mem_append_right _ (List.mem_append_right _ (List.mem_append_right _ (List.mem_append_right _ (List.mem_append_right _ (List.mem_append_right _ (List.mem_append_left _ (h))))))))
theorem inA_61 : ∀ w ∈ tbA_61, w ∈ tb := fun _ h => List.mem_append_left _ (List.mem_append_right _ (List.mem_append_right _ (List.mem_append_right _ (List.mem_append_right _ (List.mem_append_right _ (List.mem_append_right _ (List.mem_append_right _ (List.mem_append_left _ (h)))))))))
theorem inA_62 : ∀ w ∈ tbA_62, w ∈ tb := fun _ h => List.mem_append_left _ (List.mem_append_right _ (List.mem_append_right _ (List.mem_append_right _ (List.mem_append_right _ (List.mem_append_right _ (List.mem_append_right _ (List.mem_append_right _ (List.mem_append_right _ (List.mem_append_left _ (h))))))))))
theorem inA_63 : ∀ w ∈ tbA_63, w ∈ tb := fun _ h => List.mem_append_left _ (List.mem_append_right _ (List.mem_append_right _ (List.mem_append_right _ (List.mem_append_right _ (List.mem_append_right _ (List.mem_append_right _ (List.mem_append_right _ (List.mem_append_right _ (List.mem_append_right _ (List.mem_append_left _ (h)))))))))))
theorem inA_64 : ∀ w ∈ tbA_64, w ∈ tb := fun _ h => List.mem_append_left _ (List.mem_append_right _ (List.mem_append_right _ (List.mem_append_right _ (List.mem_append_right _ (List.mem_append_right _ (List.mem_append_right _ (List.mem_append_right _ (List.mem_append_right _ (List.mem_append_right _ (List.mem_append_right _ (List.mem_append_left _ (h))))))))))))
theorem inA_65 : ∀ w ∈ tbA_65, w ∈ tb := fun _ h => List.mem_append_left _ (List.mem_append_right _ (List.mem_append_right _ (List.mem_append_right _ (List.mem_append_right _ (List.mem_append_right _ (List.mem_append_right _ (List.mem_append_right _ (List.mem_append_right _ (List.mem_append_right _ (List.mem_append_right _ (List.mem_append_right _ (List.mem_append_left _ (h)))))))))))))
theorem inA_66 : ∀ w ∈ tbA_66, w ∈ tb := fun _ h => List.mem_append_left _ (List.mem_append_right _ (List.mem_append_right _ (List.mem_append_right _ (List.mem_append_right _ (List.mem_append_right _ (List.mem_append_right _ (List.mem_append_right _ (List.mem_append_right _ (List.mem_append_right _ (List.mem_append_right _ (List.mem_append_right _ (List.mem_append_right _ (List.mem_append_left _ (h))))))))))))))
theorem inA_67 : ∀ w ∈ tbA_67, w ∈ tb := fun _ h => List.mem_append_left _ (List.mem_append_right _ (List.mem_append_right _ (List.mem_append_right _ (List.mem_append_right _ (List.mem_append_right _ (List.mem_append_right _ (List.mem_append_right _ (List.mem_append_right _ (List.mem_append_right _ (List.mem_append_right _ (List.mem_append_right _ (List.mem_append_right _ (List.mem_append_right _ (List.mem_append_left _ (h)))))))))))))))
theorem inA_68 : ∀ w ∈ tbA_68, w ∈ tb := fun _ h => List.mem_append_left _ (List.mem_append_right _ (List.mem_append_right _ (List.mem_append_right _ (List.mem_append_right _ (List.mem_append_right _ (List.mem_append_right _ (List.mem_append_right _ (List.mem_append_right _ (List.mem_append_right _ (List.mem_append_right _ (List.mem_append_right _ (List.mem_append_right _ (List.mem_append_right _ (List.mem_append_right _ (List.mem_append_left _ (h))))))))))))))))
theorem inA_69 : ∀ w ∈ tbA_69, w ∈ tb := fun _ h => List.mem_append_left _ (List.mem_append_right _ (List.mem_append_right _ (List.mem_append_right _ (List.mem_append_right _ (List.mem_append_right _ (List.mem_append_right _ (List.mem_append_right _ (List.mem_append_right _ (List.mem_append_right _ (List.mem_append_right _ (List.mem_append_right _ (List.mem_append_right _ (List.mem_append_right _ (List.mem_append_right _ (List.mem_append_right _ (h))))))))))))))))
theorem kw_0 : (.selects RX12 yX12_typedBehind yX12_typedBehind : Cond) ∈ tb := inA_0 _ (List.mem_of_getElem? (i := 0) rfl)
theorem kw_1 : (.selects RX5 yX5_forgetMade yX5_forgetMade : Cond) ∈ tb := inA_0 _ (List.mem_of_getElem? (i := 1) rfl)
theorem kw_2 : (.selects RX5 yX5_isObject yX5_isObject : Cond) ∈ tb := inA_0 _ (List.mem_of_getElem? (i := 2) rfl)
theorem kw_3 : (.selects RX7 yX7_skipAround yX7_skipAround : Cond) ∈ tb := inA_0 _ (List.mem_of_getElem? (i := 3) rfl)
theorem kw_4 : (.selects RX7 yX7_skipsWhite yX7_skipsWhite : Cond) ∈ tb := inA_0 _ (List.mem_of_getElem? (i := 4) rfl)
theorem kw_5 : (.selects RX7 yX7_charAt yX7_charAt : Cond) ∈ tb := inA_0 _ (List.mem_of_getElem? (i := 5) rfl)
theorem kw_6 : (.selects RX7 yX7_skipComment yX7_skipComment : Cond) ∈ tb := inA_0 _ (List.mem_of_getElem? (i := 6) rfl)
theorem kw_7 : (.selects RX7 yX7_expect yX7_expect : Cond) ∈ tb := inA_0 _ (List.mem_of_getElem? (i := 7) rfl)
theorem kw_8 : (.selects RX7 yX7_openElement yX7_openElement : Cond) ∈ tb := inA_0 _ (List.mem_of_getElem? (i := 8) rfl)
theorem kw_9 : (.selects RX7 yX7_readName yX7_readName : Cond) ∈ tb := inA_0 _ (List.mem_of_getElem? (i := 9) rfl)
theorem kw_10 : (.selects RX3 yX3_forgetWiring yX3_forgetWiring : Cond) ∈ tb := inA_0 _ (List.mem_of_getElem? (i := 10) rfl)
theorem kw_11 : (.selects RX7 yX7_readAttribute yX7_readAttribute : Cond) ∈ tb := inA_0 _ (List.mem_of_getElem? (i := 11) rfl)
theorem kw_12 : (.selects RX7 yX7_readCharacter yX7_readCharacter : Cond) ∈ tb := inA_0 _ (List.mem_of_getElem? (i := 12) rfl)
theorem kw_13 : (.selects RX7 yX7_readEntity yX7_readEntity : Cond) ∈ tb := inA_0 _ (List.mem_of_getElem? (i := 13) rfl)
theorem kw_14 : (.selects RX7 yX7_readNumbered yX7_readNumbered : Cond) ∈ tb := inA_0 _ (List.mem_of_getElem? (i := 14) rfl)
theorem kw_15 : (.selects RX7 yX7_leaveElement yX7_leaveElement : Cond) ∈ tb := inA_0 _ (List.mem_of_getElem? (i := 15) rfl)
theorem kw_16 : (.selects RX7 yX7_readContent yX7_readContent : Cond) ∈ tb := inA_0 _ (List.mem_of_getElem? (i := 16) rfl)
theorem kw_17 : (.selects RX3 yX3_takeWhite yX3_takeWhite : Cond) ∈ tb := inA_0 _ (List.mem_of_getElem? (i := 17) rfl)
theorem kw_18 : (.selects RX7 yX7_closeElement yX7_closeElement : Cond) ∈ tb := inA_0 _ (List.mem_of_getElem? (i := 18) rfl)
theorem kw_19 : (.selects RX7 yX7_refuseMore yX7_refuseMore : Cond) ∈ tb := inA_0 _ (List.mem_of_getElem? (i := 19) rfl)
theorem kw_20 : (.selects RX9 yX9_isRight yX9_isRight : Cond) ∈ tb := inA_0 _ (List.mem_of_getElem? (i := 20) rfl)
theorem kw_21 : (.selects RX9 yX9_standsRight yX9_standsRight : Cond) ∈ tb := inA_0 _ (List.mem_of_getElem? (i := 21) rfl)
theorem kw_22 : (.selects RX9 yX9_isHeld yX9_isHeld : Cond) ∈ tb := inA_0 _ (List.mem_of_getElem? (i := 22) rfl)
theorem kw_23 : (.selects RX9 yX9_likeBefore yX9_likeBefore : Cond) ∈ tb := inA_0 _ (List.mem_of_getElem? (i := 23) rfl)
theorem kw_24 : (.selects RX9 yX9_isFirstOfName yX9_isFirstOfName : Cond) ∈ tb := inA_1 _ (List.mem_of_getElem? (i := 0) rfl)
theorem kw_25 : (.selects RX6 yX6_find yX6_find : Cond) ∈ tb := inA_1 _ (List.mem_of_getElem? (i := 1) rfl)
theorem kw_26 : (.selects RX6 yX6_valueLength yX6_valueLength : Cond) ∈ tb := inA_1 _ (List.mem_of_getElem? (i := 2) rfl)
theorem kw_27 : (.selects RX6 yX6_valueChar yX6_valueChar : Cond) ∈ tb := inA_1 _ (List.mem_of_getElem? (i := 3) rfl)
theorem kw_28 : (.selects RX9 yX9_hasRightAttributes yX9_hasRightAttributes : Cond) ∈ tb := inA_1 _ (List.mem_of_getElem? (i := 4) rfl)
theorem kw_29 : (.selects RX9 yX9_mayHave yX9_mayHave : Cond) ∈ tb := inA_1 _ (List.mem_of_getElem? (i := 5) rfl)
theorem kw_30 : (.selects RX9 yX9_beanMayHave yX9_beanMayHave : Cond) ∈ tb := inA_1 _ (List.mem_of_getElem? (i := 6) rfl)
theorem kw_31 : (.selects RX9 yX9_hasRightValue yX9_hasRightValue : Cond) ∈ tb := inA_1 _ (List.mem_of_getElem? (i := 7) rfl)
theorem kw_32 : (.selects RX9 yX9_hasWhatItNeeds yX9_hasWhatItNeeds : Cond) ∈ tb := inA_1 _ (List.mem_of_getElem? (i := 8) rfl)
theorem kw_33 : (.selects RX9 yX9_beanHasWhatItNeeds yX9_beanHasWhatItNeeds : Cond) ∈ tb := inA_1 _ (List.mem_of_getElem? (i := 9) rfl)
theorem kw_34 : (.selects RX9 yX9_hasRightCount yX9_hasRightCount : Cond) ∈ tb := inA_1 _ (List.mem_of_getElem? (i := 10) rfl)
theorem kw_35 : (.selects RX10 yX10_settle yX10_settle : Cond) ∈ tb := inA_1 _ (List.mem_of_getElem? (i := 11) rfl)
theorem kw_36 : (.selects RX10 yX10_settleContent yX10_settleContent : Cond) ∈ tb := inA_1 _ (List.mem_of_getElem? (i := 12) rfl)
theorem kw_37 : (.selects RX3 yX3_textAsNumber yX3_textAsNumber : Cond) ∈ tb := inA_1 _ (List.mem_of_getElem? (i := 13) rfl)
theorem kw_38 : (.selects RX3 yX3_textIs yX3_textIs : Cond) ∈ tb := inA_1 _ (List.mem_of_getElem? (i := 14) rfl)
theorem kw_39 : (.selects RX10 yX10_isRight yX10_isRight : Cond) ∈ tb := inA_1 _ (List.mem_of_getElem? (i := 15) rfl)
theorem kw_40 : (.selects RX10 yX10_hasRightParent yX10_hasRightParent : Cond) ∈ tb := inA_1 _ (List.mem_of_getElem? (i := 16) rfl)
theorem kw_41 : (.selects RX10 yX10_withId yX10_withId : Cond) ∈ tb := inA_1 _ (List.mem_of_getElem? (i := 17) rfl)
theorem kw_42 : (.selects RX10 yX10_comesToItself yX10_comesToItself : Cond) ∈ tb := inA_1 _ (List.mem_of_getElem? (i := 18) rfl)
theorem kw_43 : (.selects RX10 yX10_merge yX10_merge : Cond) ∈ tb := inA_1 _ (List.mem_of_getElem? (i := 19) rfl)
theorem kw_44 : (.selects RX1 yX1_overlayInner yX1_overlayInner : Cond) ∈ tb := inA_1 _ (List.mem_of_getElem? (i := 20) rfl)
theorem kw_45 : (.selects RJx4a65c yJx4a65c_add_72be8 yJx4a65c_add_72be8 : Cond) ∈ tb := inA_1 _ (List.mem_of_getElem? (i := 21) rfl)
theorem kw_46 : (.selects RJx4a65c yJx4a65c_grow_d5877 yJx4a65c_grow_d5877 : Cond) ∈ tb := inA_1 _ (List.mem_of_getElem? (i := 22) rfl)
theorem kw_47 : (.selects RJx4a65c yJx4a65c_grow_92f84 yJx4a65c_grow_92f84 : Cond) ∈ tb := inA_1 _ (List.mem_of_getElem? (i := 23) rfl)
theorem kw_48 : (.selects RX5 yX5_obtain yX5_obtain : Cond) ∈ tb := inA_2 _ (List.mem_of_getElem? (i := 0) rfl)
theorem kw_49 : (.selects RX10 yX10_nameBehindAlias yX10_nameBehindAlias : Cond) ∈ tb := inA_2 _ (List.mem_of_getElem? (i := 1) rfl)
theorem kw_50 : (.selects RX5 yX5_failWith yX5_failWith : Cond) ∈ tb := inA_2 _ (List.mem_of_getElem? (i := 2) rfl)
theorem kw_51 : (.selects RX5 yX5_make yX5_make : Cond) ∈ tb := inA_2 _ (List.mem_of_getElem? (i := 3) rfl)
theorem kw_52 : (.selects RX5 yX5_workOutArgs yX5_workOutArgs : Cond) ∈ tb := inA_2 _ (List.mem_of_getElem? (i := 4) rfl)
theorem kw_53 : (.selects RX5 yX5_workOut yX5_workOut : Cond) ∈ tb := inA_2 _ (List.mem_of_getElem? (i := 5) rfl)
theorem kw_54 : (.selects RX5 yX5_itemValue yX5_itemValue : Cond) ∈ tb := inA_2 _ (List.mem_of_getElem? (i := 6) rfl)
theorem kw_55 : (.selects RX5 yX5_objectOf yX5_objectOf : Cond) ∈ tb := inA_2 _ (List.mem_of_getElem? (i := 7) rfl)
theorem kw_56 : (.selects RX5 yX5_chooseFor yX5_chooseFor : Cond) ∈ tb := inA_2 _ (List.mem_of_getElem? (i := 8) rfl)
theorem kw_57 : (.selects RX2 yX2_ownsFactory yX2_ownsFactory : Cond) ∈ tb := inA_2 _ (List.mem_of_getElem? (i := 9) rfl)
theorem kw_58 : (.selects RX5 yX5_placesArgs yX5_placesArgs : Cond) ∈ tb := inA_2 _ (List.mem_of_getElem? (i := 10) rfl)
theorem kw_59 : (.selects RX5 yX5_placeOthers yX5_placeOthers : Cond) ∈ tb := inA_2 _ (List.mem_of_getElem? (i := 11) rfl)
theorem kw_60 : (.selects RX5 yX5_sumFor yX5_sumFor : Cond) ∈ tb := inA_2 _ (List.mem_of_getElem? (i := 12) rfl)
theorem kw_61 : (.selects RX5 yX5_weightOf yX5_weightOf : Cond) ∈ tb := inA_2 _ (List.mem_of_getElem? (i := 13) rfl)
theorem kw_62 : (.selects RX5 yX5_objectWeight yX5_objectWeight : Cond) ∈ tb := inA_2 _ (List.mem_of_getElem? (i := 14) rfl)
theorem kw_63 : (.selects RX5 yX5_bringToBe yX5_bringToBe : Cond) ∈ tb := inA_2 _ (List.mem_of_getElem? (i := 15) rfl)
theorem kw_64 : (.selects RX5 yX5_tellValue yX5_tellValue : Cond) ∈ tb := inA_2 _ (List.mem_of_getElem? (i := 16) rfl)
theorem kw_65 : (.selects RX5 yX5_valueOf yX5_valueOf : Cond) ∈ tb := inA_2 _ (List.mem_of_getElem? (i := 17) rfl)
theorem kw_66 : (.selects RX5 yX5_applySets yX5_applySets : Cond) ∈ tb := inA_2 _ (List.mem_of_getElem? (i := 18) rfl)
theorem kw_67 : (.selects RX5 yX5_finish yX5_finish : Cond) ∈ tb := inA_2 _ (List.mem_of_getElem? (i := 19) rfl)
theorem kw_68 : (.selects RX5 yX5_stopMaking yX5_stopMaking : Cond) ∈ tb := inA_2 _ (List.mem_of_getElem? (i := 20) rfl)
theorem kw_69 : (.selects RX13 yX13_clear yX13_clear : Cond) ∈ tb := inA_2 _ (List.mem_of_getElem? (i := 21) rfl)
theorem kw_70 : (.selects RX13 yX13_readDocument yX13_readDocument : Cond) ∈ tb := inA_2 _ (List.mem_of_getElem? (i := 22) rfl)
theorem kw_71 : (.selects RX13 yX13_between yX13_between : Cond) ∈ tb := inA_2 _ (List.mem_of_getElem? (i := 23) rfl)
theorem kw_72 : (.selects RX13 yX13_white yX13_white : Cond) ∈ tb := inA_3 _ (List.mem_of_getElem? (i := 0) rfl)
theorem kw_73 : (.selects RX13 yX13_here yX13_here : Cond) ∈ tb := inA_3 _ (List.mem_of_getElem? (i := 1) rfl)
theorem kw_74 : (.selects RX13 yX13_isWhite yX13_isWhite : Cond) ∈ tb := inA_3 _ (List.mem_of_getElem? (i := 2) rfl)
theorem kw_75 : (.selects RX13 yX13_comment yX13_comment : Cond) ∈ tb := inA_3 _ (List.mem_of_getElem? (i := 3) rfl)
theorem kw_76 : (.selects RX13 yX13_must yX13_must : Cond) ∈ tb := inA_3 _ (List.mem_of_getElem? (i := 4) rfl)
theorem kw_77 : (.selects RX13 yX13_bad yX13_bad : Cond) ∈ tb := inA_3 _ (List.mem_of_getElem? (i := 5) rfl)
theorem kw_78 : (.selects RX13 yX13_isSmall yX13_isSmall : Cond) ∈ tb := inA_3 _ (List.mem_of_getElem? (i := 6) rfl)
theorem kw_79 : (.selects RX13 yX13_begin yX13_begin : Cond) ∈ tb := inA_3 _ (List.mem_of_getElem? (i := 7) rfl)
theorem kw_80 : (.selects RX13 yX13_name yX13_name : Cond) ∈ tb := inA_3 _ (List.mem_of_getElem? (i := 8) rfl)
theorem kw_81 : (.selects RX13 yX13_attribute yX13_attribute : Cond) ∈ tb := inA_3 _ (List.mem_of_getElem? (i := 9) rfl)
theorem kw_82 : (.selects RX13 yX13_find yX13_find : Cond) ∈ tb := inA_3 _ (List.mem_of_getElem? (i := 10) rfl)
theorem kw_83 : (.selects RX13 yX13_entity yX13_entity : Cond) ∈ tb := inA_3 _ (List.mem_of_getElem? (i := 11) rfl)
theorem kw_84 : (.selects RX13 yX13_numberedEntity yX13_numberedEntity : Cond) ∈ tb := inA_3 _ (List.mem_of_getElem? (i := 12) rfl)
theorem kw_85 : (.selects RX13 yX13_agrees yX13_agrees : Cond) ∈ tb := inA_3 _ (List.mem_of_getElem? (i := 13) rfl)
theorem kw_86 : (.selects RX13 yX13_add yX13_add : Cond) ∈ tb := inA_3 _ (List.mem_of_getElem? (i := 14) rfl)
theorem kw_87 : (.selects RX13 yX13_end yX13_end : Cond) ∈ tb := inA_3 _ (List.mem_of_getElem? (i := 15) rfl)
theorem kw_88 : (.selects RX13 yX13_badStructure yX13_badStructure : Cond) ∈ tb := inA_3 _ (List.mem_of_getElem? (i := 16) rfl)
theorem kw_89 : (.selects RX13 yX13_isGood yX13_isGood : Cond) ∈ tb := inA_3 _ (List.mem_of_getElem? (i := 17) rfl)
theorem kw_90 : (.selects RX13 yX13_isInPlace yX13_isInPlace : Cond) ∈ tb := inA_3 _ (List.mem_of_getElem? (i := 18) rfl)
theorem kw_91 : (.selects RX13 yX13_isAllowed yX13_isAllowed : Cond) ∈ tb := inA_3 _ (List.mem_of_getElem? (i := 19) rfl)
theorem kw_92 : (.selects RX13 yX13_isWord yX13_isWord : Cond) ∈ tb := inA_3 _ (List.mem_of_getElem? (i := 20) rfl)
theorem kw_93 : (.selects RX13 yX13_isGoodBean yX13_isGoodBean : Cond) ∈ tb := inA_3 _ (List.mem_of_getElem? (i := 21) rfl)
theorem kw_94 : (.selects RX13 yX13_has yX13_has : Cond) ∈ tb := inA_3 _ (List.mem_of_getElem? (i := 22) rfl)
theorem kw_95 : (.selects RX13 yX13_isOneLetter yX13_isOneLetter : Cond) ∈ tb := inA_3 _ (List.mem_of_getElem? (i := 23) rfl)
theorem kw_96 : (.selects RX13 yX13_word yX13_word : Cond) ∈ tb := inA_4 _ (List.mem_of_getElem? (i := 0) rfl)
theorem kw_97 : (.selects RX13 yX13_isOneOf yX13_isOneOf : Cond) ∈ tb := inA_4 _ (List.mem_of_getElem? (i := 1) rfl)
theorem kw_98 : (.selects RX13 yX13_isGoodHolder yX13_isGoodHolder : Cond) ∈ tb := inA_4 _ (List.mem_of_getElem? (i := 2) rfl)
theorem kw_99 : (.selects RX13 yX13_ahead yX13_ahead : Cond) ∈ tb := inA_4 _ (List.mem_of_getElem? (i := 3) rfl)
theorem kw_100 : (.selects RX13 yX13_typeIn yX13_typeIn : Cond) ∈ tb := inA_4 _ (List.mem_of_getElem? (i := 4) rfl)
theorem kw_101 : (.selects RX13 yX13_badBeans yX13_badBeans : Cond) ∈ tb := inA_4 _ (List.mem_of_getElem? (i := 5) rfl)
theorem kw_102 : (.selects RX13 yX13_isUsed yX13_isUsed : Cond) ∈ tb := inA_4 _ (List.mem_of_getElem? (i := 6) rfl)
theorem kw_103 : (.selects RX13 yX13_parentOf yX13_parentOf : Cond) ∈ tb := inA_4 _ (List.mem_of_getElem? (i := 7) rfl)
theorem kw_104 : (.selects RX13 yX13_withId yX13_withId : Cond) ∈ tb := inA_4 _ (List.mem_of_getElem? (i := 8) rfl)
theorem kw_105 : (.selects RX13 yX13_comesToItself yX13_comesToItself : Cond) ∈ tb := inA_4 _ (List.mem_of_getElem? (i := 9) rfl)
theorem kw_106 : (.selects RX13 yX13_mergeBean yX13_mergeBean : Cond) ∈ tb := inA_4 _ (List.mem_of_getElem? (i := 10) rfl)
theorem kw_107 : (.selects RX13 yX13_inner yX13_inner : Cond) ∈ tb := inA_4 _ (List.mem_of_getElem? (i := 11) rfl)
theorem kw_108 : (.selects RX13 yX13_merge yX13_merge : Cond) ∈ tb := inA_4 _ (List.mem_of_getElem? (i := 12) rfl)
theorem kw_109 : (.selects RX13 yX13_isAbstract yX13_isAbstract : Cond) ∈ tb := inA_4 _ (List.mem_of_getElem? (i := 13) rfl)
theorem kw_110 : (.selects RX13 yX13_isMany yX13_isMany : Cond) ∈ tb := inA_4 _ (List.mem_of_getElem? (i := 14) rfl)
theorem kw_111 : (.selects RX13 yX13_run yX13_run : Cond) ∈ tb := inA_4 _ (List.mem_of_getElem? (i := 15) rfl)
theorem kw_112 : (.selects RX13 yX13_gets yX13_gets : Cond) ∈ tb := inA_4 _ (List.mem_of_getElem? (i := 16) rfl)
theorem kw_113 : (.selects RX13 yX13_fails yX13_fails : Cond) ∈ tb := inA_4 _ (List.mem_of_getElem? (i := 17) rfl)
theorem kw_114 : (.selects RX13 yX13_step yX13_step : Cond) ∈ tb := inA_4 _ (List.mem_of_getElem? (i := 18) rfl)
theorem kw_115 : (.selects RX13 yX13_called yX13_called : Cond) ∈ tb := inA_4 _ (List.mem_of_getElem? (i := 19) rfl)
theorem kw_116 : (.selects RX13 yX13_deliver yX13_deliver : Cond) ∈ tb := inA_4 _ (List.mem_of_getElem? (i := 20) rfl)
theorem kw_117 : (.selects RX13 yX13_arg yX13_arg : Cond) ∈ tb := inA_4 _ (List.mem_of_getElem? (i := 21) rfl)
theorem kw_118 : (.selects RX13 yX13_argsOf yX13_argsOf : Cond) ∈ tb := inA_4 _ (List.mem_of_getElem? (i := 22) rfl)
theorem kw_119 : (.selects RX13 yX13_keep yX13_keep : Cond) ∈ tb := inA_4 _ (List.mem_of_getElem? (i := 23) rfl)
theorem kw_120 : (.selects RX13 yX13_tells yX13_tells : Cond) ∈ tb := inA_5 _ (List.mem_of_getElem? (i := 0) rfl)
theorem kw_121 : (.selects RX13 yX13_args yX13_args : Cond) ∈ tb := inA_5 _ (List.mem_of_getElem? (i := 1) rfl)
theorem kw_122 : (.selects RX13 yX13_workedOut yX13_workedOut : Cond) ∈ tb := inA_5 _ (List.mem_of_getElem? (i := 2) rfl)
theorem kw_123 : (.selects RX13 yX13_worked yX13_worked : Cond) ∈ tb := inA_5 _ (List.mem_of_getElem? (i := 3) rfl)
theorem kw_124 : (.selects RX13 yX13_next yX13_next : Cond) ∈ tb := inA_5 _ (List.mem_of_getElem? (i := 4) rfl)
theorem kw_125 : (.selects RX13 yX13_makeObject yX13_makeObject : Cond) ∈ tb := inA_5 _ (List.mem_of_getElem? (i := 5) rfl)
theorem kw_126 : (.selects RX13 yX13_letter yX13_letter : Cond) ∈ tb := inA_5 _ (List.mem_of_getElem? (i := 6) rfl)
theorem kw_127 : (.selects RX13 yX13_classOf yX13_classOf : Cond) ∈ tb := inA_5 _ (List.mem_of_getElem? (i := 7) rfl)
theorem kw_128 : (.selects RX13 yX13_classWithFactory yX13_classWithFactory : Cond) ∈ tb := inA_5 _ (List.mem_of_getElem? (i := 8) rfl)
theorem kw_129 : (.selects RX13 yX13_isFactory yX13_isFactory : Cond) ∈ tb := inA_5 _ (List.mem_of_getElem? (i := 9) rfl)
theorem kw_130 : (.selects RX13 yX13_chosen yX13_chosen : Cond) ∈ tb := inA_5 _ (List.mem_of_getElem? (i := 10) rfl)
theorem kw_131 : (.selects RX13 yX13_sum yX13_sum : Cond) ∈ tb := inA_5 _ (List.mem_of_getElem? (i := 11) rfl)
theorem kw_132 : (.selects RX13 yX13_placed yX13_placed : Cond) ∈ tb := inA_5 _ (List.mem_of_getElem? (i := 12) rfl)
theorem kw_133 : (.selects RX13 yX13_weight yX13_weight : Cond) ∈ tb := inA_5 _ (List.mem_of_getElem? (i := 13) rfl)
theorem kw_134 : (.selects RX13 yX13_numberIn yX13_numberIn : Cond) ∈ tb := inA_5 _ (List.mem_of_getElem? (i := 14) rfl)
theorem kw_135 : (.selects RX13 yX13_length yX13_length : Cond) ∈ tb := inA_5 _ (List.mem_of_getElem? (i := 15) rfl)
theorem kw_136 : (.selects RX13 yX13_sign yX13_sign : Cond) ∈ tb := inA_5 _ (List.mem_of_getElem? (i := 16) rfl)
theorem kw_137 : (.selects RX13 yX13_is yX13_is : Cond) ∈ tb := inA_5 _ (List.mem_of_getElem? (i := 17) rfl)
theorem kw_138 : (.selects RX13 yX13_happens yX13_happens : Cond) ∈ tb := inA_5 _ (List.mem_of_getElem? (i := 18) rfl)
theorem kw_139 : (.selects RX13 yX13_tell yX13_tell : Cond) ∈ tb := inA_5 _ (List.mem_of_getElem? (i := 19) rfl)
theorem kw_140 : (.selects RX13 yX13_told yX13_told : Cond) ∈ tb := inA_5 _ (List.mem_of_getElem? (i := 20) rfl)
theorem kw_141 : (.selects RX13 yX13_finish yX13_finish : Cond) ∈ tb := inA_5 _ (List.mem_of_getElem? (i := 21) rfl)
theorem kw_142 : (.selects RX13 yX13_setOne yX13_setOne : Cond) ∈ tb := inA_5 _ (List.mem_of_getElem? (i := 22) rfl)
theorem kw_143 : (.selects RX13 yX13_typeOfSetter yX13_typeOfSetter : Cond) ∈ tb := inA_5 _ (List.mem_of_getElem? (i := 23) rfl)
theorem kw_144 : (.selects RX13 yX13_shut yX13_shut : Cond) ∈ tb := inA_6 _ (List.mem_of_getElem? (i := 0) rfl)
theorem kw_145 : (.initialized RL : Cond) ∈ tb := inA_6 _ (List.mem_of_getElem? (i := 1) rfl)
theorem kw_146 : (.initialized RX12 : Cond) ∈ tb := inA_6 _ (List.mem_of_getElem? (i := 2) rfl)
theorem kw_147 : (.initialized RX2 : Cond) ∈ tb := inA_6 _ (List.mem_of_getElem? (i := 3) rfl)
theorem kw_148 : (.initialized RX8 : Cond) ∈ tb := inA_6 _ (List.mem_of_getElem? (i := 4) rfl)
theorem kw_149 : (.initialized RX6 : Cond) ∈ tb := inA_6 _ (List.mem_of_getElem? (i := 5) rfl)
theorem kw_150 : (.initialized RX3 : Cond) ∈ tb := inA_6 _ (List.mem_of_getElem? (i := 6) rfl)
theorem kw_151 : (.initialized RX7 : Cond) ∈ tb := inA_6 _ (List.mem_of_getElem? (i := 7) rfl)
theorem kw_152 : (.initialized RX9 : Cond) ∈ tb := inA_6 _ (List.mem_of_getElem? (i := 8) rfl)
theorem kw_153 : (.initialized RX10 : Cond) ∈ tb := inA_6 _ (List.mem_of_getElem? (i := 9) rfl)
theorem kw_154 : (.initialized RX1 : Cond) ∈ tb := inA_6 _ (List.mem_of_getElem? (i := 10) rfl)
theorem kw_155 : (.initialized RJxa1e45 : Cond) ∈ tb := inA_6 _ (List.mem_of_getElem? (i := 11) rfl)
theorem kw_156 : (.initialized RJxc12de : Cond) ∈ tb := inA_6 _ (List.mem_of_getElem? (i := 12) rfl)
theorem kw_157 : (.initialized RJx4a65c : Cond) ∈ tb := inA_6 _ (List.mem_of_getElem? (i := 13) rfl)
theorem kw_158 : (.initialized RX4 : Cond) ∈ tb := inA_6 _ (List.mem_of_getElem? (i := 14) rfl)
theorem kw_159 : (.initialized RX5 : Cond) ∈ tb := inA_6 _ (List.mem_of_getElem? (i := 15) rfl)
theorem kw_160 : (.initialized RX13 : Cond) ∈ tb := inA_6 _ (List.mem_of_getElem? (i := 16) rfl)
theorem kw_161 : (.initialized "java/lang/IllegalArgumentException" : Cond) ∈ tb := inA_6 _ (List.mem_of_getElem? (i := 17) rfl)
theorem kw_162 : (.initialized RJx29ce0 : Cond) ∈ tb := inA_6 _ (List.mem_of_getElem? (i := 18) rfl)
theorem kw_163 : (.initialized RX11 : Cond) ∈ tb := inA_6 _ (List.mem_of_getElem? (i := 19) rfl)
theorem kw_164 : (.initialized RJ0 : Cond) ∈ tb := inA_6 _ (List.mem_of_getElem? (i := 20) rfl)
theorem kw_165 : (.initialized RJ1 : Cond) ∈ tb := inA_6 _ (List.mem_of_getElem? (i := 21) rfl)
theorem kw_166 : (.initialized RJ3 : Cond) ∈ tb := inA_6 _ (List.mem_of_getElem? (i := 22) rfl)
theorem kw_168 : (.initialized RJ8 : Cond) ∈ tb := inA_7 _ (List.mem_of_getElem? (i := 0) rfl)
theorem kw_169 : (.initialized "java/lang/Math" : Cond) ∈ tb := inA_7 _ (List.mem_of_getElem? (i := 1) rfl)
theorem kw_170 : (.initialized RJ7 : Cond) ∈ tb := inA_7 _ (List.mem_of_getElem? (i := 2) rfl)
theorem kw_171 : (.initialized "java/lang/System" : Cond) ∈ tb := inA_7 _ (List.mem_of_getElem? (i := 3) rfl)
theorem kw_172 : (.initialized RJ15 : Cond) ∈ tb := inA_7 _ (List.mem_of_getElem? (i := 4) rfl)
theorem kw_173 : (.initialized "java/lang/IllegalStateException" : Cond) ∈ tb := inA_7 _ (List.mem_of_getElem? (i := 5) rfl)
theorem kw_174 : (.initialized "java/lang/UnsupportedOperationException" : Cond) ∈ tb := inA_7 _ (List.mem_of_getElem? (i := 6) rfl)
theorem kw_175 : (.initialized "java/lang/IndexOutOfBoundsException" : Cond) ∈ tb := inA_7 _ (List.mem_of_getElem? (i := 7) rfl)
theorem kw_176 : (.classLink RL 8 RX12 : Cond) ∈ tb := inA_7 _ (List.mem_of_getElem? (i := 8) rfl)
theorem kw_177 : (.instantiable RX12 12 : Cond) ∈ tb := inA_7 _ (List.mem_of_getElem? (i := 9) rfl)
theorem kw_178 : (.methodLink RL 32 yX12_init : Cond) ∈ tb := inA_7 _ (List.mem_of_getElem? (i := 10) rfl)
theorem kw_179 : (.instanceMethod yX12_init : Cond) ∈ tb := inA_7 _ (List.mem_of_getElem? (i := 11) rfl)
theorem kw_180 : (.methodLink RX12 1 objectInit : Cond) ∈ tb := inA_7 _ (List.mem_of_getElem? (i := 12) rfl)
theorem kw_181 : (.instanceMethod objectInit : Cond) ∈ tb := inA_7 _ (List.mem_of_getElem? (i := 13) rfl)
theorem kw_182 : (.classLink RX12 9 RX2 : Cond) ∈ tb := inA_7 _ (List.mem_of_getElem? (i := 14) rfl)
theorem kw_183 : (.instantiable RX2 8 : Cond) ∈ tb := inA_7 _ (List.mem_of_getElem? (i := 15) rfl)
theorem kw_184 : (.methodLink RX12 15 yX2_init : Cond) ∈ tb := inA_7 _ (List.mem_of_getElem? (i := 16) rfl)
theorem kw_185 : (.instanceMethod yX2_init : Cond) ∈ tb := inA_7 _ (List.mem_of_getElem? (i := 17) rfl)
theorem kw_186 : (.methodLink RX2 3 objectInit : Cond) ∈ tb := inA_7 _ (List.mem_of_getElem? (i := 18) rfl)
theorem kw_187 : (.classLink RX2 15 RX8 : Cond) ∈ tb := inA_7 _ (List.mem_of_getElem? (i := 19) rfl)
theorem kw_188 : (.instantiable RX8 7 : Cond) ∈ tb := inA_7 _ (List.mem_of_getElem? (i := 20) rfl)
theorem kw_189 : (.methodLink RX2 24 yX8_init : Cond) ∈ tb := inA_7 _ (List.mem_of_getElem? (i := 21) rfl)
theorem kw_190 : (.instanceMethod yX8_init : Cond) ∈ tb := inA_7 _ (List.mem_of_getElem? (i := 22) rfl)
theorem kw_191 : (.methodLink RX8 3 objectInit : Cond) ∈ tb := inA_7 _ (List.mem_of_getElem? (i := 23) rfl)
theorem kw_192 : (.fieldLink RX8 9 "WiredBeans$Signature" "owner" "I" : Cond) ∈ tb := inA_8 _ (List.mem_of_getElem? (i := 0) rfl)
theorem kw_193 : (.fieldLink RX5 333 "WiredBeans$Signature" "owner" "I" : Cond) ∈ tb := inA_8 _ (List.mem_of_getElem? (i := 1) rfl)
theorem kw_194 : (.fieldLink RX8 15 "WiredBeans$Signature" "number" "I" : Cond) ∈ tb := inA_8 _ (List.mem_of_getElem? (i := 2) rfl)
theorem kw_195 : (.fieldLink RX5 332 "WiredBeans$Signature" "number" "I" : Cond) ∈ tb := inA_8 _ (List.mem_of_getElem? (i := 3) rfl)
theorem kw_196 : (.fieldLink RX8 18 "WiredBeans$Signature" "types" "[I" : Cond) ∈ tb := inA_8 _ (List.mem_of_getElem? (i := 4) rfl)
theorem kw_197 : (.fieldLink RX5 292 "WiredBeans$Signature" "types" "[I" : Cond) ∈ tb := inA_8 _ (List.mem_of_getElem? (i := 5) rfl)
theorem kw_198 : (.fieldLink RX8 32 "WiredBeans$Signature" "count" "I" : Cond) ∈ tb := inA_8 _ (List.mem_of_getElem? (i := 6) rfl)
theorem kw_199 : (.fieldLink RX5 290 "WiredBeans$Signature" "count" "I" : Cond) ∈ tb := inA_8 _ (List.mem_of_getElem? (i := 7) rfl)
theorem kw_200 : (.fieldLink RX8 22 "WiredBeans$Signature" "name" "I" : Cond) ∈ tb := inA_8 _ (List.mem_of_getElem? (i := 8) rfl)
theorem kw_201 : (.fieldLink RX5 329 "WiredBeans$Signature" "name" "I" : Cond) ∈ tb := inA_8 _ (List.mem_of_getElem? (i := 9) rfl)
theorem kw_202 : (.fieldLink RX8 25 "WiredBeans$Signature" "isStatic" "Z" : Cond) ∈ tb := inA_8 _ (List.mem_of_getElem? (i := 10) rfl)
theorem kw_203 : (.fieldLink RX8 29 "WiredBeans$Signature" "result" "I" : Cond) ∈ tb := inA_8 _ (List.mem_of_getElem? (i := 11) rfl)
theorem kw_204 : (.fieldLink RX5 326 "WiredBeans$Signature" "result" "I" : Cond) ∈ tb := inA_8 _ (List.mem_of_getElem? (i := 12) rfl)
theorem kw_205 : (.arrayClass .int : Cond) ∈ tb := inA_8 _ (List.mem_of_getElem? (i := 13) rfl)
theorem kw_206 : (.fieldLink RX2 17 "WiredBeans$DeclaredClass" "constructors" "[LWiredBeans$Signature;" : Cond) ∈ tb := inA_8 _ (List.mem_of_getElem? (i := 14) rfl)
theorem kw_207 : (.fieldLink RX5 251 "WiredBeans$DeclaredClass" "constructors" "[LWiredBeans$Signature;" : Cond) ∈ tb := inA_8 _ (List.mem_of_getElem? (i := 15) rfl)
theorem kw_208 : (.fieldLink RX2 21 "WiredBeans$DeclaredClass" "factories" "[LWiredBeans$Signature;" : Cond) ∈ tb := inA_8 _ (List.mem_of_getElem? (i := 16) rfl)
theorem kw_209 : (.fieldLink RX5 264 "WiredBeans$DeclaredClass" "factories" "[LWiredBeans$Signature;" : Cond) ∈ tb := inA_8 _ (List.mem_of_getElem? (i := 17) rfl)
theorem kw_210 : (.fieldLink RX2 35 "WiredBeans$DeclaredClass" "constructorCount" "I" : Cond) ∈ tb := inA_8 _ (List.mem_of_getElem? (i := 18) rfl)
theorem kw_211 : (.fieldLink RX5 257 "WiredBeans$DeclaredClass" "constructorCount" "I" : Cond) ∈ tb := inA_8 _ (List.mem_of_getElem? (i := 19) rfl)
theorem kw_212 : (.fieldLink RX2 38 "WiredBeans$DeclaredClass" "factoryCount" "I" : Cond) ∈ tb := inA_8 _ (List.mem_of_getElem? (i := 20) rfl)
theorem kw_213 : (.fieldLink RX5 267 "WiredBeans$DeclaredClass" "factoryCount" "I" : Cond) ∈ tb := inA_8 _ (List.mem_of_getElem? (i := 21) rfl)
theorem kw_214 : (.fieldLink RX2 9 "WiredBeans$DeclaredClass" "number" "I" : Cond) ∈ tb := inA_8 _ (List.mem_of_getElem? (i := 22) rfl)
theorem kw_215 : (.fieldLink RX2 27 "WiredBeans$DeclaredClass" "setterTypes" "[I" : Cond) ∈ tb := inA_8 _ (List.mem_of_getElem? (i := 23) rfl)
theorem kw_216 : (.fieldLink RX2 41 "WiredBeans$DeclaredClass" "setterCount" "I" : Cond) ∈ tb := inA_9 _ (List.mem_of_getElem? (i := 0) rfl)
theorem kw_217 : (.fieldLink RX2 31 "WiredBeans$DeclaredClass" "parent" "LWiredBeans$DeclaredClass;" : Cond) ∈ tb := inA_9 _ (List.mem_of_getElem? (i := 1) rfl)
theorem kw_218 : (.classLink RX12 22 RX6 : Cond) ∈ tb := inA_9 _ (List.mem_of_getElem? (i := 2) rfl)
theorem kw_219 : (.instantiable RX6 8 : Cond) ∈ tb := inA_9 _ (List.mem_of_getElem? (i := 3) rfl)
theorem kw_220 : (.methodLink RX12 24 yX6_init : Cond) ∈ tb := inA_9 _ (List.mem_of_getElem? (i := 4) rfl)
theorem kw_221 : (.instanceMethod yX6_init : Cond) ∈ tb := inA_9 _ (List.mem_of_getElem? (i := 5) rfl)
theorem kw_222 : (.methodLink RX6 3 objectInit : Cond) ∈ tb := inA_9 _ (List.mem_of_getElem? (i := 6) rfl)
theorem kw_223 : (.classLink RX6 11 RX3 : Cond) ∈ tb := inA_9 _ (List.mem_of_getElem? (i := 7) rfl)
theorem kw_224 : (.instantiable RX3 21 : Cond) ∈ tb := inA_9 _ (List.mem_of_getElem? (i := 8) rfl)
theorem kw_225 : (.methodLink RX6 17 yX3_init : Cond) ∈ tb := inA_9 _ (List.mem_of_getElem? (i := 9) rfl)
theorem kw_226 : (.instanceMethod yX3_init : Cond) ∈ tb := inA_9 _ (List.mem_of_getElem? (i := 10) rfl)
theorem kw_227 : (.methodLink RX3 3 objectInit : Cond) ∈ tb := inA_9 _ (List.mem_of_getElem? (i := 11) rfl)
theorem kw_228 : (.fieldLink RX3 11 "WiredBeans$Element" "text" "[C" : Cond) ∈ tb := inA_9 _ (List.mem_of_getElem? (i := 12) rfl)
theorem kw_229 : (.fieldLink RX6 99 "WiredBeans$Element" "text" "[C" : Cond) ∈ tb := inA_9 _ (List.mem_of_getElem? (i := 13) rfl)
theorem kw_230 : (.fieldLink RX5 358 "WiredBeans$Element" "text" "[C" : Cond) ∈ tb := inA_9 _ (List.mem_of_getElem? (i := 14) rfl)
theorem kw_231 : (.fieldLink RX3 15 "WiredBeans$Element" "textLength" "I" : Cond) ∈ tb := inA_9 _ (List.mem_of_getElem? (i := 15) rfl)
theorem kw_232 : (.fieldLink RX9 48 "WiredBeans$Element" "textLength" "I" : Cond) ∈ tb := inA_9 _ (List.mem_of_getElem? (i := 16) rfl)
theorem kw_233 : (.fieldLink RX6 102 "WiredBeans$Element" "textLength" "I" : Cond) ∈ tb := inA_9 _ (List.mem_of_getElem? (i := 17) rfl)
theorem kw_234 : (.fieldLink RX5 236 "WiredBeans$Element" "textLength" "I" : Cond) ∈ tb := inA_9 _ (List.mem_of_getElem? (i := 18) rfl)
theorem kw_235 : (.fieldLink RX3 19 "WiredBeans$Element" "textEnd" "I" : Cond) ∈ tb := inA_9 _ (List.mem_of_getElem? (i := 19) rfl)
theorem kw_236 : (.fieldLink RX3 22 "WiredBeans$Element" "place" "I" : Cond) ∈ tb := inA_9 _ (List.mem_of_getElem? (i := 20) rfl)
theorem kw_237 : (.fieldLink RX9 29 "WiredBeans$Element" "place" "I" : Cond) ∈ tb := inA_9 _ (List.mem_of_getElem? (i := 21) rfl)
theorem kw_238 : (.fieldLink RX10 48 "WiredBeans$Element" "place" "I" : Cond) ∈ tb := inA_9 _ (List.mem_of_getElem? (i := 22) rfl)
theorem kw_239 : (.fieldLink RX1 186 "WiredBeans$Element" "place" "I" : Cond) ∈ tb := inA_9 _ (List.mem_of_getElem? (i := 23) rfl)
theorem kw_240 : (.fieldLink RX7 111 "WiredBeans$Element" "place" "I" : Cond) ∈ tb := inA_10 _ (List.mem_of_getElem? (i := 0) rfl)
theorem kw_241 : (.fieldLink RX3 25 "WiredBeans$Element" "word" "LWiredBeans$Word;" : Cond) ∈ tb := inA_10 _ (List.mem_of_getElem? (i := 1) rfl)
theorem kw_242 : (.fieldLink RX9 35 "WiredBeans$Element" "word" "LWiredBeans$Word;" : Cond) ∈ tb := inA_10 _ (List.mem_of_getElem? (i := 2) rfl)
theorem kw_243 : (.fieldLink RX1 151 "WiredBeans$Element" "word" "LWiredBeans$Word;" : Cond) ∈ tb := inA_10 _ (List.mem_of_getElem? (i := 3) rfl)
theorem kw_244 : (.fieldLink RX10 57 "WiredBeans$Element" "word" "LWiredBeans$Word;" : Cond) ∈ tb := inA_10 _ (List.mem_of_getElem? (i := 4) rfl)
theorem kw_245 : (.fieldLink RX7 101 "WiredBeans$Element" "word" "LWiredBeans$Word;" : Cond) ∈ tb := inA_10 _ (List.mem_of_getElem? (i := 5) rfl)
theorem kw_246 : (.fieldLink RX3 29 "WiredBeans$Element" "outer" "LWiredBeans$Element;" : Cond) ∈ tb := inA_10 _ (List.mem_of_getElem? (i := 6) rfl)
theorem kw_247 : (.fieldLink RX9 68 "WiredBeans$Element" "outer" "LWiredBeans$Element;" : Cond) ∈ tb := inA_10 _ (List.mem_of_getElem? (i := 7) rfl)
theorem kw_248 : (.fieldLink RX7 114 "WiredBeans$Element" "outer" "LWiredBeans$Element;" : Cond) ∈ tb := inA_10 _ (List.mem_of_getElem? (i := 8) rfl)
theorem kw_249 : (.fieldLink RX3 33 "WiredBeans$Element" "firstInner" "LWiredBeans$Element;" : Cond) ∈ tb := inA_10 _ (List.mem_of_getElem? (i := 9) rfl)
theorem kw_250 : (.fieldLink RX1 146 "WiredBeans$Element" "firstInner" "LWiredBeans$Element;" : Cond) ∈ tb := inA_10 _ (List.mem_of_getElem? (i := 10) rfl)
theorem kw_251 : (.fieldLink RX9 101 "WiredBeans$Element" "firstInner" "LWiredBeans$Element;" : Cond) ∈ tb := inA_10 _ (List.mem_of_getElem? (i := 11) rfl)
theorem kw_252 : (.fieldLink RX10 137 "WiredBeans$Element" "firstInner" "LWiredBeans$Element;" : Cond) ∈ tb := inA_10 _ (List.mem_of_getElem? (i := 12) rfl)
theorem kw_253 : (.fieldLink RX5 214 "WiredBeans$Element" "firstInner" "LWiredBeans$Element;" : Cond) ∈ tb := inA_10 _ (List.mem_of_getElem? (i := 13) rfl)
theorem kw_254 : (.fieldLink RX3 36 "WiredBeans$Element" "next" "LWiredBeans$Element;" : Cond) ∈ tb := inA_10 _ (List.mem_of_getElem? (i := 14) rfl)
theorem kw_255 : (.fieldLink RX1 168 "WiredBeans$Element" "next" "LWiredBeans$Element;" : Cond) ∈ tb := inA_10 _ (List.mem_of_getElem? (i := 15) rfl)
theorem kw_256 : (.fieldLink RX9 104 "WiredBeans$Element" "next" "LWiredBeans$Element;" : Cond) ∈ tb := inA_10 _ (List.mem_of_getElem? (i := 16) rfl)
theorem kw_257 : (.fieldLink RX5 221 "WiredBeans$Element" "next" "LWiredBeans$Element;" : Cond) ∈ tb := inA_10 _ (List.mem_of_getElem? (i := 17) rfl)
theorem kw_258 : (.fieldLink RX3 39 "WiredBeans$Element" "innerCount" "I" : Cond) ∈ tb := inA_10 _ (List.mem_of_getElem? (i := 18) rfl)
theorem kw_259 : (.fieldLink RX9 203 "WiredBeans$Element" "innerCount" "I" : Cond) ∈ tb := inA_10 _ (List.mem_of_getElem? (i := 19) rfl)
theorem kw_260 : (.fieldLink RX5 352 "WiredBeans$Element" "innerCount" "I" : Cond) ∈ tb := inA_10 _ (List.mem_of_getElem? (i := 20) rfl)
theorem kw_261 : (.fieldLink RX3 42 "WiredBeans$Element" "firstAttribute" "I" : Cond) ∈ tb := inA_10 _ (List.mem_of_getElem? (i := 21) rfl)
theorem kw_262 : (.fieldLink RX9 117 "WiredBeans$Element" "firstAttribute" "I" : Cond) ∈ tb := inA_10 _ (List.mem_of_getElem? (i := 22) rfl)
theorem kw_263 : (.fieldLink RX6 54 "WiredBeans$Element" "firstAttribute" "I" : Cond) ∈ tb := inA_10 _ (List.mem_of_getElem? (i := 23) rfl)
theorem kw_264 : (.fieldLink RX3 45 "WiredBeans$Element" "attributeCount" "I" : Cond) ∈ tb := inA_11 _ (List.mem_of_getElem? (i := 0) rfl)
theorem kw_265 : (.fieldLink RX6 51 "WiredBeans$Element" "attributeCount" "I" : Cond) ∈ tb := inA_11 _ (List.mem_of_getElem? (i := 1) rfl)
theorem kw_266 : (.fieldLink RX9 114 "WiredBeans$Element" "attributeCount" "I" : Cond) ∈ tb := inA_11 _ (List.mem_of_getElem? (i := 2) rfl)
theorem kw_267 : (.fieldLink RX7 117 "WiredBeans$Element" "attributeCount" "I" : Cond) ∈ tb := inA_11 _ (List.mem_of_getElem? (i := 3) rfl)
theorem kw_268 : (.fieldLink RX3 51 "WiredBeans$Element" "name" "J" : Cond) ∈ tb := inA_11 _ (List.mem_of_getElem? (i := 4) rfl)
theorem kw_269 : (.fieldLink RX10 82 "WiredBeans$Element" "name" "J" : Cond) ∈ tb := inA_11 _ (List.mem_of_getElem? (i := 5) rfl)
theorem kw_270 : (.fieldLink RX3 55 "WiredBeans$Element" "target" "J" : Cond) ∈ tb := inA_11 _ (List.mem_of_getElem? (i := 6) rfl)
theorem kw_271 : (.fieldLink RX10 89 "WiredBeans$Element" "target" "J" : Cond) ∈ tb := inA_11 _ (List.mem_of_getElem? (i := 7) rfl)
theorem kw_272 : (.fieldLink RX12 172 "WiredBeans$Element" "target" "J" : Cond) ∈ tb := inA_11 _ (List.mem_of_getElem? (i := 8) rfl)
theorem kw_273 : (.fieldLink RX5 245 "WiredBeans$Element" "target" "J" : Cond) ∈ tb := inA_11 _ (List.mem_of_getElem? (i := 9) rfl)
theorem kw_274 : (.fieldLink RX3 60 "WiredBeans$Element" "number" "J" : Cond) ∈ tb := inA_11 _ (List.mem_of_getElem? (i := 10) rfl)
theorem kw_275 : (.fieldLink RX5 316 "WiredBeans$Element" "number" "J" : Cond) ∈ tb := inA_11 _ (List.mem_of_getElem? (i := 11) rfl)
theorem kw_276 : (.fieldLink RX3 63 "WiredBeans$Element" "truth" "I" : Cond) ∈ tb := inA_11 _ (List.mem_of_getElem? (i := 12) rfl)
theorem kw_277 : (.fieldLink RX5 320 "WiredBeans$Element" "truth" "I" : Cond) ∈ tb := inA_11 _ (List.mem_of_getElem? (i := 13) rfl)
theorem kw_278 : (.fieldLink RX3 66 "WiredBeans$Element" "letter" "I" : Cond) ∈ tb := inA_11 _ (List.mem_of_getElem? (i := 14) rfl)
theorem kw_279 : (.fieldLink RX1 179 "WiredBeans$Element" "letter" "I" : Cond) ∈ tb := inA_11 _ (List.mem_of_getElem? (i := 15) rfl)
theorem kw_280 : (.fieldLink RX10 128 "WiredBeans$Element" "letter" "I" : Cond) ∈ tb := inA_11 _ (List.mem_of_getElem? (i := 16) rfl)
theorem kw_281 : (.fieldLink RX5 343 "WiredBeans$Element" "letter" "I" : Cond) ∈ tb := inA_11 _ (List.mem_of_getElem? (i := 17) rfl)
theorem kw_282 : (.fieldLink RX3 69 "WiredBeans$Element" "at" "I" : Cond) ∈ tb := inA_11 _ (List.mem_of_getElem? (i := 18) rfl)
theorem kw_283 : (.fieldLink RX10 110 "WiredBeans$Element" "at" "I" : Cond) ∈ tb := inA_11 _ (List.mem_of_getElem? (i := 19) rfl)
theorem kw_284 : (.fieldLink RX5 284 "WiredBeans$Element" "at" "I" : Cond) ∈ tb := inA_11 _ (List.mem_of_getElem? (i := 20) rfl)
theorem kw_285 : (.fieldLink RX3 72 "WiredBeans$Element" "type" "I" : Cond) ∈ tb := inA_11 _ (List.mem_of_getElem? (i := 21) rfl)
theorem kw_286 : (.fieldLink RX10 119 "WiredBeans$Element" "type" "I" : Cond) ∈ tb := inA_11 _ (List.mem_of_getElem? (i := 22) rfl)
theorem kw_287 : (.fieldLink RX5 295 "WiredBeans$Element" "type" "I" : Cond) ∈ tb := inA_11 _ (List.mem_of_getElem? (i := 23) rfl)
theorem kw_288 : (.fieldLink RX3 75 "WiredBeans$Element" "kind" "LWiredBeans$Word;" : Cond) ∈ tb := inA_12 _ (List.mem_of_getElem? (i := 0) rfl)
theorem kw_289 : (.fieldLink RX10 61 "WiredBeans$Element" "kind" "LWiredBeans$Word;" : Cond) ∈ tb := inA_12 _ (List.mem_of_getElem? (i := 1) rfl)
theorem kw_290 : (.fieldLink RX5 205 "WiredBeans$Element" "kind" "LWiredBeans$Word;" : Cond) ∈ tb := inA_12 _ (List.mem_of_getElem? (i := 2) rfl)
theorem kw_291 : (.fieldLink RX3 78 "WiredBeans$Element" "content" "LWiredBeans$Element;" : Cond) ∈ tb := inA_12 _ (List.mem_of_getElem? (i := 3) rfl)
theorem kw_292 : (.fieldLink RX10 141 "WiredBeans$Element" "content" "LWiredBeans$Element;" : Cond) ∈ tb := inA_12 _ (List.mem_of_getElem? (i := 4) rfl)
theorem kw_293 : (.fieldLink RX5 193 "WiredBeans$Element" "content" "LWiredBeans$Element;" : Cond) ∈ tb := inA_12 _ (List.mem_of_getElem? (i := 5) rfl)
theorem kw_294 : (.fieldLink RX3 81 "WiredBeans$Element" "bean" "LWiredBeans$Bean;" : Cond) ∈ tb := inA_12 _ (List.mem_of_getElem? (i := 6) rfl)
theorem kw_295 : (.fieldLink RX10 95 "WiredBeans$Element" "bean" "LWiredBeans$Bean;" : Cond) ∈ tb := inA_12 _ (List.mem_of_getElem? (i := 7) rfl)
theorem kw_296 : (.fieldLink RX5 242 "WiredBeans$Element" "bean" "LWiredBeans$Bean;" : Cond) ∈ tb := inA_12 _ (List.mem_of_getElem? (i := 8) rfl)
theorem kw_297 : (.arrayClass .char : Cond) ∈ tb := inA_12 _ (List.mem_of_getElem? (i := 9) rfl)
theorem kw_298 : (.fieldLink RX6 13 "WiredBeans$Paper" "elements" "[LWiredBeans$Element;" : Cond) ∈ tb := inA_12 _ (List.mem_of_getElem? (i := 10) rfl)
theorem kw_299 : (.fieldLink RX6 18 "WiredBeans$Paper" "attributeKeys" "[J" : Cond) ∈ tb := inA_12 _ (List.mem_of_getElem? (i := 11) rfl)
theorem kw_300 : (.fieldLink RX6 22 "WiredBeans$Paper" "valueStarts" "[I" : Cond) ∈ tb := inA_12 _ (List.mem_of_getElem? (i := 12) rfl)
theorem kw_301 : (.fieldLink RX6 26 "WiredBeans$Paper" "valueLengths" "[I" : Cond) ∈ tb := inA_12 _ (List.mem_of_getElem? (i := 13) rfl)
theorem kw_302 : (.fieldLink RX6 29 "WiredBeans$Paper" "values" "[C" : Cond) ∈ tb := inA_12 _ (List.mem_of_getElem? (i := 14) rfl)
theorem kw_303 : (.fieldLink RX6 33 "WiredBeans$Paper" "count" "I" : Cond) ∈ tb := inA_12 _ (List.mem_of_getElem? (i := 15) rfl)
theorem kw_304 : (.fieldLink RX6 37 "WiredBeans$Paper" "attributes" "I" : Cond) ∈ tb := inA_12 _ (List.mem_of_getElem? (i := 16) rfl)
theorem kw_305 : (.fieldLink RX6 40 "WiredBeans$Paper" "valuesEnd" "I" : Cond) ∈ tb := inA_12 _ (List.mem_of_getElem? (i := 17) rfl)
theorem kw_306 : (.arrayClass .long : Cond) ∈ tb := inA_12 _ (List.mem_of_getElem? (i := 18) rfl)
theorem kw_307 : (.classLink RX12 29 RX7 : Cond) ∈ tb := inA_12 _ (List.mem_of_getElem? (i := 19) rfl)
theorem kw_308 : (.instantiable RX7 6 : Cond) ∈ tb := inA_12 _ (List.mem_of_getElem? (i := 20) rfl)
theorem kw_309 : (.methodLink RX12 31 yX7_init : Cond) ∈ tb := inA_12 _ (List.mem_of_getElem? (i := 21) rfl)
theorem kw_310 : (.instanceMethod yX7_init : Cond) ∈ tb := inA_12 _ (List.mem_of_getElem? (i := 22) rfl)
theorem kw_311 : (.methodLink RX7 3 objectInit : Cond) ∈ tb := inA_12 _ (List.mem_of_getElem? (i := 23) rfl)
theorem kw_312 : (.fieldLink RX7 9 "WiredBeans$Reader" "paper" "LWiredBeans$Paper;" : Cond) ∈ tb := inA_13 _ (List.mem_of_getElem? (i := 0) rfl)
theorem kw_313 : (.fieldLink RX7 15 "WiredBeans$Reader" "text" "[C" : Cond) ∈ tb := inA_13 _ (List.mem_of_getElem? (i := 1) rfl)
theorem kw_314 : (.fieldLink RX7 19 "WiredBeans$Reader" "length" "I" : Cond) ∈ tb := inA_13 _ (List.mem_of_getElem? (i := 2) rfl)
theorem kw_315 : (.fieldLink RX7 23 "WiredBeans$Reader" "at" "I" : Cond) ∈ tb := inA_13 _ (List.mem_of_getElem? (i := 3) rfl)
theorem kw_316 : (.fieldLink RX7 26 "WiredBeans$Reader" "depth" "I" : Cond) ∈ tb := inA_13 _ (List.mem_of_getElem? (i := 4) rfl)
theorem kw_317 : (.fieldLink RX7 29 "WiredBeans$Reader" "open" "LWiredBeans$Element;" : Cond) ∈ tb := inA_13 _ (List.mem_of_getElem? (i := 5) rfl)
theorem kw_318 : (.classLink RX12 38 RX9 : Cond) ∈ tb := inA_13 _ (List.mem_of_getElem? (i := 6) rfl)
theorem kw_319 : (.instantiable RX9 1 : Cond) ∈ tb := inA_13 _ (List.mem_of_getElem? (i := 7) rfl)
theorem kw_320 : (.methodLink RX12 40 yX9_init : Cond) ∈ tb := inA_13 _ (List.mem_of_getElem? (i := 8) rfl)
theorem kw_321 : (.instanceMethod yX9_init : Cond) ∈ tb := inA_13 _ (List.mem_of_getElem? (i := 9) rfl)
theorem kw_322 : (.methodLink RX9 3 objectInit : Cond) ∈ tb := inA_13 _ (List.mem_of_getElem? (i := 10) rfl)
theorem kw_323 : (.fieldLink RX9 9 "WiredBeans$Structure" "paper" "LWiredBeans$Paper;" : Cond) ∈ tb := inA_13 _ (List.mem_of_getElem? (i := 11) rfl)
theorem kw_324 : (.classLink RX12 45 RX10 : Cond) ∈ tb := inA_13 _ (List.mem_of_getElem? (i := 12) rfl)
theorem kw_325 : (.instantiable RX10 4 : Cond) ∈ tb := inA_13 _ (List.mem_of_getElem? (i := 13) rfl)
theorem kw_326 : (.methodLink RX12 47 yX10_init : Cond) ∈ tb := inA_13 _ (List.mem_of_getElem? (i := 14) rfl)
theorem kw_327 : (.instanceMethod yX10_init : Cond) ∈ tb := inA_13 _ (List.mem_of_getElem? (i := 15) rfl)
theorem kw_328 : (.methodLink RX10 3 objectInit : Cond) ∈ tb := inA_13 _ (List.mem_of_getElem? (i := 16) rfl)
theorem kw_329 : (.classLink RX10 17 RX1 : Cond) ∈ tb := inA_13 _ (List.mem_of_getElem? (i := 17) rfl)
theorem kw_330 : (.instantiable RX1 19 : Cond) ∈ tb := inA_13 _ (List.mem_of_getElem? (i := 18) rfl)
theorem kw_331 : (.methodLink RX10 23 yX1_init : Cond) ∈ tb := inA_13 _ (List.mem_of_getElem? (i := 19) rfl)
theorem kw_332 : (.instanceMethod yX1_init : Cond) ∈ tb := inA_13 _ (List.mem_of_getElem? (i := 20) rfl)
theorem kw_333 : (.methodLink RX1 3 objectInit : Cond) ∈ tb := inA_13 _ (List.mem_of_getElem? (i := 21) rfl)
theorem kw_334 : (.classLink RX1 15 RJx4a65c : Cond) ∈ tb := inA_13 _ (List.mem_of_getElem? (i := 22) rfl)
theorem kw_335 : (.instantiable RJx4a65c 3 : Cond) ∈ tb := inA_13 _ (List.mem_of_getElem? (i := 23) rfl)
theorem kw_336 : (.methodLink RX1 17 yJx4a65c_init_da8c8 : Cond) ∈ tb := inA_14 _ (List.mem_of_getElem? (i := 0) rfl)
theorem kw_337 : (.instanceMethod yJx4a65c_init_da8c8 : Cond) ∈ tb := inA_14 _ (List.mem_of_getElem? (i := 1) rfl)
theorem kw_338 : (.methodLink RJx4a65c 1 yJxc12de_init_da8c8 : Cond) ∈ tb := inA_14 _ (List.mem_of_getElem? (i := 2) rfl)
theorem kw_339 : (.instanceMethod yJxc12de_init_da8c8 : Cond) ∈ tb := inA_14 _ (List.mem_of_getElem? (i := 3) rfl)
theorem kw_340 : (.methodLink RJxc12de 1 yJxa1e45_init_da8c8 : Cond) ∈ tb := inA_14 _ (List.mem_of_getElem? (i := 4) rfl)
theorem kw_341 : (.instanceMethod yJxa1e45_init_da8c8 : Cond) ∈ tb := inA_14 _ (List.mem_of_getElem? (i := 5) rfl)
theorem kw_342 : (.methodLink RJxa1e45 1 objectInit : Cond) ∈ tb := inA_14 _ (List.mem_of_getElem? (i := 6) rfl)
theorem kw_343 : (.fieldLink RJx4a65c 39 "java/util/ArrayList" "DEFAULTCAPACITY_EMPTY_ELEMENTDATA" "[Ljava/lang/Object;" : Cond) ∈ tb := inA_14 _ (List.mem_of_getElem? (i := 7) rfl)
theorem kw_344 : (.fieldLink RJx4a65c 9 "java/util/ArrayList" "elementData" "[Ljava/lang/Object;" : Cond) ∈ tb := inA_14 _ (List.mem_of_getElem? (i := 8) rfl)
theorem kw_345 : (.fieldLink RJx4a65c 48 "java/util/ArrayList" "size" "I" : Cond) ∈ tb := inA_14 _ (List.mem_of_getElem? (i := 9) rfl)
theorem kw_346 : (.fieldLink RJxc12de 7 "java/util/AbstractList" "modCount" "I" : Cond) ∈ tb := inA_14 _ (List.mem_of_getElem? (i := 10) rfl)
theorem kw_347 : (.fieldLink RJx4a65c 63 "java/util/ArrayList" "modCount" "I" : Cond) ∈ tb := inA_14 _ (List.mem_of_getElem? (i := 11) rfl)
theorem kw_348 : (.sameField "java/util/ArrayList" "java/util/AbstractList" "modCount" "I" : Cond) ∈ tb := inA_14 _ (List.mem_of_getElem? (i := 12) rfl)
theorem kw_349 : (.fieldLink RX1 9 "WiredBeans$Bean" "number" "I" : Cond) ∈ tb := inA_14 _ (List.mem_of_getElem? (i := 13) rfl)
theorem kw_350 : (.fieldLink RX5 128 "WiredBeans$Bean" "number" "I" : Cond) ∈ tb := inA_14 _ (List.mem_of_getElem? (i := 14) rfl)
theorem kw_351 : (.fieldLink RX1 18 "WiredBeans$Bean" "args" "Ljava/util/ArrayList;" : Cond) ∈ tb := inA_14 _ (List.mem_of_getElem? (i := 15) rfl)
theorem kw_352 : (.fieldLink RX5 178 "WiredBeans$Bean" "args" "Ljava/util/ArrayList;" : Cond) ∈ tb := inA_14 _ (List.mem_of_getElem? (i := 16) rfl)
theorem kw_353 : (.fieldLink RX1 22 "WiredBeans$Bean" "sets" "Ljava/util/ArrayList;" : Cond) ∈ tb := inA_14 _ (List.mem_of_getElem? (i := 17) rfl)
theorem kw_354 : (.fieldLink RX5 340 "WiredBeans$Bean" "sets" "Ljava/util/ArrayList;" : Cond) ∈ tb := inA_14 _ (List.mem_of_getElem? (i := 18) rfl)
theorem kw_355 : (.fieldLink RX1 25 "WiredBeans$Bean" "lookups" "Ljava/util/ArrayList;" : Cond) ∈ tb := inA_14 _ (List.mem_of_getElem? (i := 19) rfl)
theorem kw_356 : (.fieldLink RX1 28 "WiredBeans$Bean" "element" "LWiredBeans$Element;" : Cond) ∈ tb := inA_14 _ (List.mem_of_getElem? (i := 20) rfl)
theorem kw_357 : (.fieldLink RX10 172 "WiredBeans$Bean" "element" "LWiredBeans$Element;" : Cond) ∈ tb := inA_14 _ (List.mem_of_getElem? (i := 21) rfl)
theorem kw_358 : (.fieldLink RX1 47 "WiredBeans$Bean" "id" "J" : Cond) ∈ tb := inA_14 _ (List.mem_of_getElem? (i := 22) rfl)
theorem kw_359 : (.fieldLink RX10 177 "WiredBeans$Bean" "id" "J" : Cond) ∈ tb := inA_14 _ (List.mem_of_getElem? (i := 23) rfl)
theorem kw_360 : (.fieldLink RX5 108 "WiredBeans$Bean" "id" "J" : Cond) ∈ tb := inA_15 _ (List.mem_of_getElem? (i := 0) rfl)
theorem kw_361 : (.fieldLink RX1 54 "WiredBeans$Bean" "parent" "J" : Cond) ∈ tb := inA_15 _ (List.mem_of_getElem? (i := 1) rfl)
theorem kw_362 : (.fieldLink RX10 162 "WiredBeans$Bean" "parent" "J" : Cond) ∈ tb := inA_15 _ (List.mem_of_getElem? (i := 2) rfl)
theorem kw_363 : (.fieldLink RX1 60 "WiredBeans$Bean" "depends" "J" : Cond) ∈ tb := inA_15 _ (List.mem_of_getElem? (i := 3) rfl)
theorem kw_364 : (.fieldLink RX5 147 "WiredBeans$Bean" "depends" "J" : Cond) ∈ tb := inA_15 _ (List.mem_of_getElem? (i := 4) rfl)
theorem kw_365 : (.fieldLink RX1 92 "WiredBeans$Bean" "factory" "J" : Cond) ∈ tb := inA_15 _ (List.mem_of_getElem? (i := 5) rfl)
theorem kw_366 : (.fieldLink RX5 153 "WiredBeans$Bean" "factory" "J" : Cond) ∈ tb := inA_15 _ (List.mem_of_getElem? (i := 6) rfl)
theorem kw_367 : (.fieldLink RX1 95 "WiredBeans$Bean" "classNumber" "I" : Cond) ∈ tb := inA_15 _ (List.mem_of_getElem? (i := 7) rfl)
theorem kw_368 : (.fieldLink RX5 150 "WiredBeans$Bean" "classNumber" "I" : Cond) ∈ tb := inA_15 _ (List.mem_of_getElem? (i := 8) rfl)
theorem kw_369 : (.fieldLink RX1 98 "WiredBeans$Bean" "method" "I" : Cond) ∈ tb := inA_15 _ (List.mem_of_getElem? (i := 9) rfl)
theorem kw_370 : (.fieldLink RX5 248 "WiredBeans$Bean" "method" "I" : Cond) ∈ tb := inA_15 _ (List.mem_of_getElem? (i := 10) rfl)
theorem kw_371 : (.fieldLink RX1 101 "WiredBeans$Bean" "init" "I" : Cond) ∈ tb := inA_15 _ (List.mem_of_getElem? (i := 11) rfl)
theorem kw_372 : (.fieldLink RX5 171 "WiredBeans$Bean" "init" "I" : Cond) ∈ tb := inA_15 _ (List.mem_of_getElem? (i := 12) rfl)
theorem kw_373 : (.fieldLink RX1 104 "WiredBeans$Bean" "destroy" "I" : Cond) ∈ tb := inA_15 _ (List.mem_of_getElem? (i := 13) rfl)
theorem kw_374 : (.fieldLink RX5 89 "WiredBeans$Bean" "destroy" "I" : Cond) ∈ tb := inA_15 _ (List.mem_of_getElem? (i := 14) rfl)
theorem kw_375 : (.fieldLink RX1 73 "WiredBeans$Bean" "isAbstract" "Z" : Cond) ∈ tb := inA_15 _ (List.mem_of_getElem? (i := 15) rfl)
theorem kw_376 : (.fieldLink RX5 112 "WiredBeans$Bean" "isAbstract" "Z" : Cond) ∈ tb := inA_15 _ (List.mem_of_getElem? (i := 16) rfl)
theorem kw_377 : (.fieldLink RX1 83 "WiredBeans$Bean" "isMany" "Z" : Cond) ∈ tb := inA_15 _ (List.mem_of_getElem? (i := 17) rfl)
theorem kw_378 : (.fieldLink RX5 115 "WiredBeans$Bean" "isMany" "Z" : Cond) ∈ tb := inA_15 _ (List.mem_of_getElem? (i := 18) rfl)
theorem kw_379 : (.fieldLink RX1 89 "WiredBeans$Bean" "isLazy" "Z" : Cond) ∈ tb := inA_15 _ (List.mem_of_getElem? (i := 19) rfl)
theorem kw_380 : (.fieldLink RX5 118 "WiredBeans$Bean" "isLazy" "Z" : Cond) ∈ tb := inA_15 _ (List.mem_of_getElem? (i := 20) rfl)
theorem kw_381 : (.fieldLink RX1 107 "WiredBeans$Bean" "isBeingMade" "Z" : Cond) ∈ tb := inA_15 _ (List.mem_of_getElem? (i := 21) rfl)
theorem kw_382 : (.fieldLink RX5 132 "WiredBeans$Bean" "isBeingMade" "Z" : Cond) ∈ tb := inA_15 _ (List.mem_of_getElem? (i := 22) rfl)
theorem kw_383 : (.fieldLink RX1 110 "WiredBeans$Bean" "isMade" "Z" : Cond) ∈ tb := inA_15 _ (List.mem_of_getElem? (i := 23) rfl)
theorem kw_384 : (.fieldLink RX5 82 "WiredBeans$Bean" "isMade" "Z" : Cond) ∈ tb := inA_16 _ (List.mem_of_getElem? (i := 0) rfl)
theorem kw_385 : (.fieldLink RX1 113 "WiredBeans$Bean" "madeObject" "I" : Cond) ∈ tb := inA_16 _ (List.mem_of_getElem? (i := 1) rfl)
theorem kw_386 : (.fieldLink RX5 92 "WiredBeans$Bean" "madeObject" "I" : Cond) ∈ tb := inA_16 _ (List.mem_of_getElem? (i := 2) rfl)
theorem kw_387 : (.fieldLink RX10 9 "WiredBeans$Wiring" "paper" "LWiredBeans$Paper;" : Cond) ∈ tb := inA_16 _ (List.mem_of_getElem? (i := 3) rfl)
theorem kw_388 : (.fieldLink RX10 19 "WiredBeans$Wiring" "beans" "[LWiredBeans$Bean;" : Cond) ∈ tb := inA_16 _ (List.mem_of_getElem? (i := 4) rfl)
theorem kw_389 : (.fieldLink RX10 26 "WiredBeans$Wiring" "chain" "[LWiredBeans$Bean;" : Cond) ∈ tb := inA_16 _ (List.mem_of_getElem? (i := 5) rfl)
theorem kw_390 : (.fieldLink RX10 29 "WiredBeans$Wiring" "count" "I" : Cond) ∈ tb := inA_16 _ (List.mem_of_getElem? (i := 6) rfl)
theorem kw_391 : (.classLink RX12 52 RX4 : Cond) ∈ tb := inA_16 _ (List.mem_of_getElem? (i := 7) rfl)
theorem kw_392 : (.instantiable RX4 2 : Cond) ∈ tb := inA_16 _ (List.mem_of_getElem? (i := 8) rfl)
theorem kw_393 : (.methodLink RX12 54 yX4_init : Cond) ∈ tb := inA_16 _ (List.mem_of_getElem? (i := 9) rfl)
theorem kw_394 : (.instanceMethod yX4_init : Cond) ∈ tb := inA_16 _ (List.mem_of_getElem? (i := 10) rfl)
theorem kw_395 : (.methodLink RX4 3 objectInit : Cond) ∈ tb := inA_16 _ (List.mem_of_getElem? (i := 11) rfl)
theorem kw_396 : (.fieldLink RX4 11 "WiredBeans$EventRow" "numbers" "[I" : Cond) ∈ tb := inA_16 _ (List.mem_of_getElem? (i := 12) rfl)
theorem kw_397 : (.fieldLink RX4 15 "WiredBeans$EventRow" "count" "I" : Cond) ∈ tb := inA_16 _ (List.mem_of_getElem? (i := 13) rfl)
theorem kw_398 : (.classLink RX12 59 RX5 : Cond) ∈ tb := inA_16 _ (List.mem_of_getElem? (i := 14) rfl)
theorem kw_399 : (.instantiable RX5 13 : Cond) ∈ tb := inA_16 _ (List.mem_of_getElem? (i := 15) rfl)
theorem kw_400 : (.methodLink RX12 61 yX5_init : Cond) ∈ tb := inA_16 _ (List.mem_of_getElem? (i := 16) rfl)
theorem kw_401 : (.instanceMethod yX5_init : Cond) ∈ tb := inA_16 _ (List.mem_of_getElem? (i := 17) rfl)
theorem kw_402 : (.methodLink RX5 7 objectInit : Cond) ∈ tb := inA_16 _ (List.mem_of_getElem? (i := 18) rfl)
theorem kw_403 : (.classLink RX5 34 RX1 : Cond) ∈ tb := inA_16 _ (List.mem_of_getElem? (i := 19) rfl)
theorem kw_404 : (.fieldLink RX5 13 "WiredBeans$Maker" "wiring" "LWiredBeans$Wiring;" : Cond) ∈ tb := inA_16 _ (List.mem_of_getElem? (i := 20) rfl)
theorem kw_405 : (.fieldLink RX5 17 "WiredBeans$Maker" "classes" "[LWiredBeans$DeclaredClass;" : Cond) ∈ tb := inA_16 _ (List.mem_of_getElem? (i := 21) rfl)
theorem kw_406 : (.fieldLink RX5 21 "WiredBeans$Maker" "row" "LWiredBeans$EventRow;" : Cond) ∈ tb := inA_16 _ (List.mem_of_getElem? (i := 22) rfl)
theorem kw_407 : (.fieldLink RX5 25 "WiredBeans$Maker" "objectClasses" "[I" : Cond) ∈ tb := inA_16 _ (List.mem_of_getElem? (i := 23) rfl)
theorem kw_408 : (.fieldLink RX5 29 "WiredBeans$Maker" "objectBeans" "[I" : Cond) ∈ tb := inA_17 _ (List.mem_of_getElem? (i := 0) rfl)
theorem kw_409 : (.fieldLink RX5 50 "WiredBeans$Maker" "objectCount" "I" : Cond) ∈ tb := inA_17 _ (List.mem_of_getElem? (i := 1) rfl)
theorem kw_410 : (.fieldLink RX5 36 "WiredBeans$Maker" "finished" "[LWiredBeans$Bean;" : Cond) ∈ tb := inA_17 _ (List.mem_of_getElem? (i := 2) rfl)
theorem kw_411 : (.fieldLink RX5 86 "WiredBeans$Maker" "finishedCount" "I" : Cond) ∈ tb := inA_17 _ (List.mem_of_getElem? (i := 3) rfl)
theorem kw_412 : (.fieldLink RX5 40 "WiredBeans$Maker" "worked" "[I" : Cond) ∈ tb := inA_17 _ (List.mem_of_getElem? (i := 4) rfl)
theorem kw_413 : (.fieldLink RX5 43 "WiredBeans$Maker" "argAtPlace" "[I" : Cond) ∈ tb := inA_17 _ (List.mem_of_getElem? (i := 5) rfl)
theorem kw_414 : (.fieldLink RX5 124 "WiredBeans$Maker" "innermost" "LWiredBeans$Bean;" : Cond) ∈ tb := inA_17 _ (List.mem_of_getElem? (i := 6) rfl)
theorem kw_415 : (.fieldLink RX5 61 "WiredBeans$Maker" "failure" "I" : Cond) ∈ tb := inA_17 _ (List.mem_of_getElem? (i := 7) rfl)
theorem kw_416 : (.fieldLink RX5 46 "WiredBeans$Maker" "failureBean" "I" : Cond) ∈ tb := inA_17 _ (List.mem_of_getElem? (i := 8) rfl)
theorem kw_417 : (.fieldLink RX12 11 "WiredBeans" "classes" "[LWiredBeans$DeclaredClass;" : Cond) ∈ tb := inA_17 _ (List.mem_of_getElem? (i := 9) rfl)
theorem kw_418 : (.fieldLink RX12 18 "WiredBeans" "typed" "[C" : Cond) ∈ tb := inA_17 _ (List.mem_of_getElem? (i := 10) rfl)
theorem kw_419 : (.fieldLink RX12 25 "WiredBeans" "paper" "LWiredBeans$Paper;" : Cond) ∈ tb := inA_17 _ (List.mem_of_getElem? (i := 11) rfl)
theorem kw_420 : (.fieldLink RX12 34 "WiredBeans" "reader" "LWiredBeans$Reader;" : Cond) ∈ tb := inA_17 _ (List.mem_of_getElem? (i := 12) rfl)
theorem kw_421 : (.fieldLink RX12 41 "WiredBeans" "structure" "LWiredBeans$Structure;" : Cond) ∈ tb := inA_17 _ (List.mem_of_getElem? (i := 13) rfl)
theorem kw_422 : (.fieldLink RX12 48 "WiredBeans" "wiring" "LWiredBeans$Wiring;" : Cond) ∈ tb := inA_17 _ (List.mem_of_getElem? (i := 14) rfl)
theorem kw_423 : (.fieldLink RX12 55 "WiredBeans" "row" "LWiredBeans$EventRow;" : Cond) ∈ tb := inA_17 _ (List.mem_of_getElem? (i := 15) rfl)
theorem kw_424 : (.fieldLink RX12 64 "WiredBeans" "maker" "LWiredBeans$Maker;" : Cond) ∈ tb := inA_17 _ (List.mem_of_getElem? (i := 16) rfl)
theorem kw_425 : (.fieldLink RX12 101 "WiredBeans" "typedLength" "I" : Cond) ∈ tb := inA_17 _ (List.mem_of_getElem? (i := 17) rfl)
theorem kw_426 : (.fieldLink RX12 122 "WiredBeans" "hasDocument" "Z" : Cond) ∈ tb := inA_17 _ (List.mem_of_getElem? (i := 18) rfl)
theorem kw_427 : (.fieldLink RX12 111 "WiredBeans" "faultNumber" "I" : Cond) ∈ tb := inA_17 _ (List.mem_of_getElem? (i := 19) rfl)
theorem kw_428 : (.fieldLink RX12 68 "WiredBeans" "faultPlace" "I" : Cond) ∈ tb := inA_17 _ (List.mem_of_getElem? (i := 20) rfl)
theorem kw_429 : (.methodLink RL 36 yX12_declare : Cond) ∈ tb := inA_17 _ (List.mem_of_getElem? (i := 21) rfl)
theorem kw_430 : (.instanceMethod yX12_declare : Cond) ∈ tb := inA_17 _ (List.mem_of_getElem? (i := 22) rfl)
theorem kw_431 : (.selects RX12 yX12_declare yX12_declare : Cond) ∈ tb := inA_17 _ (List.mem_of_getElem? (i := 23) rfl)
theorem kw_432 : (.methodLink RX12 72 yX12_isClass : Cond) ∈ tb := inA_18 _ (List.mem_of_getElem? (i := 0) rfl)
theorem kw_433 : (.static yX12_isClass : Cond) ∈ tb := inA_18 _ (List.mem_of_getElem? (i := 1) rfl)
theorem kw_434 : (.methodLink RX12 76 yX2_begin : Cond) ∈ tb := inA_18 _ (List.mem_of_getElem? (i := 2) rfl)
theorem kw_435 : (.instanceMethod yX2_begin : Cond) ∈ tb := inA_18 _ (List.mem_of_getElem? (i := 3) rfl)
theorem kw_436 : (.selects RX2 yX2_begin yX2_begin : Cond) ∈ tb := inA_18 _ (List.mem_of_getElem? (i := 4) rfl)
theorem kw_437 : (.methodLink RL 41 yX12_constructor : Cond) ∈ tb := inA_18 _ (List.mem_of_getElem? (i := 5) rfl)
theorem kw_438 : (.instanceMethod yX12_constructor : Cond) ∈ tb := inA_18 _ (List.mem_of_getElem? (i := 6) rfl)
theorem kw_439 : (.selects RX12 yX12_constructor yX12_constructor : Cond) ∈ tb := inA_18 _ (List.mem_of_getElem? (i := 7) rfl)
theorem kw_440 : (.methodLink RX12 80 yX12_areTypes : Cond) ∈ tb := inA_18 _ (List.mem_of_getElem? (i := 8) rfl)
theorem kw_441 : (.static yX12_areTypes : Cond) ∈ tb := inA_18 _ (List.mem_of_getElem? (i := 9) rfl)
theorem kw_442 : (.methodLink RX12 90 yX12_isType : Cond) ∈ tb := inA_18 _ (List.mem_of_getElem? (i := 10) rfl)
theorem kw_443 : (.static yX12_isType : Cond) ∈ tb := inA_18 _ (List.mem_of_getElem? (i := 11) rfl)
theorem kw_444 : (.methodLink RX12 84 yX2_addConstructor : Cond) ∈ tb := inA_18 _ (List.mem_of_getElem? (i := 12) rfl)
theorem kw_445 : (.instanceMethod yX2_addConstructor : Cond) ∈ tb := inA_18 _ (List.mem_of_getElem? (i := 13) rfl)
theorem kw_446 : (.selects RX2 yX2_addConstructor yX2_addConstructor : Cond) ∈ tb := inA_18 _ (List.mem_of_getElem? (i := 14) rfl)
theorem kw_447 : (.methodLink RX2 44 yX8_describe : Cond) ∈ tb := inA_18 _ (List.mem_of_getElem? (i := 15) rfl)
theorem kw_448 : (.instanceMethod yX8_describe : Cond) ∈ tb := inA_18 _ (List.mem_of_getElem? (i := 16) rfl)
theorem kw_449 : (.selects RX8 yX8_describe yX8_describe : Cond) ∈ tb := inA_18 _ (List.mem_of_getElem? (i := 17) rfl)
theorem kw_450 : (.methodLink RX2 48 yX8_setTypes : Cond) ∈ tb := inA_18 _ (List.mem_of_getElem? (i := 18) rfl)
theorem kw_451 : (.instanceMethod yX8_setTypes : Cond) ∈ tb := inA_18 _ (List.mem_of_getElem? (i := 19) rfl)
theorem kw_452 : (.selects RX8 yX8_setTypes yX8_setTypes : Cond) ∈ tb := inA_18 _ (List.mem_of_getElem? (i := 20) rfl)
theorem kw_453 : (.methodLink RL 46 yX12_setter : Cond) ∈ tb := inA_18 _ (List.mem_of_getElem? (i := 21) rfl)
theorem kw_454 : (.instanceMethod yX12_setter : Cond) ∈ tb := inA_18 _ (List.mem_of_getElem? (i := 22) rfl)
theorem kw_455 : (.selects RX12 yX12_setter yX12_setter : Cond) ∈ tb := inA_18 _ (List.mem_of_getElem? (i := 23) rfl)
theorem kw_456 : (.methodLink RX12 87 yX12_isLetter : Cond) ∈ tb := inA_19 _ (List.mem_of_getElem? (i := 0) rfl)
theorem kw_457 : (.static yX12_isLetter : Cond) ∈ tb := inA_19 _ (List.mem_of_getElem? (i := 1) rfl)
theorem kw_458 : (.methodLink RX12 93 yX2_addSetter : Cond) ∈ tb := inA_19 _ (List.mem_of_getElem? (i := 2) rfl)
theorem kw_459 : (.instanceMethod yX2_addSetter : Cond) ∈ tb := inA_19 _ (List.mem_of_getElem? (i := 3) rfl)
theorem kw_460 : (.selects RX2 yX2_addSetter yX2_addSetter : Cond) ∈ tb := inA_19 _ (List.mem_of_getElem? (i := 4) rfl)
theorem kw_461 : (.methodLink RL 51 yX12_factory : Cond) ∈ tb := inA_19 _ (List.mem_of_getElem? (i := 5) rfl)
theorem kw_462 : (.instanceMethod yX12_factory : Cond) ∈ tb := inA_19 _ (List.mem_of_getElem? (i := 6) rfl)
theorem kw_463 : (.selects RX12 yX12_factory yX12_factory : Cond) ∈ tb := inA_19 _ (List.mem_of_getElem? (i := 7) rfl)
theorem kw_464 : (.methodLink RX12 97 yX2_addFactory : Cond) ∈ tb := inA_19 _ (List.mem_of_getElem? (i := 8) rfl)
theorem kw_465 : (.instanceMethod yX2_addFactory : Cond) ∈ tb := inA_19 _ (List.mem_of_getElem? (i := 9) rfl)
theorem kw_466 : (.selects RX2 yX2_addFactory yX2_addFactory : Cond) ∈ tb := inA_19 _ (List.mem_of_getElem? (i := 10) rfl)
theorem kw_467 : (.methodLink RL 56 yX12_type : Cond) ∈ tb := inA_19 _ (List.mem_of_getElem? (i := 11) rfl)
theorem kw_468 : (.instanceMethod yX12_type : Cond) ∈ tb := inA_19 _ (List.mem_of_getElem? (i := 12) rfl)
theorem kw_469 : (.selects RX12 yX12_type yX12_type : Cond) ∈ tb := inA_19 _ (List.mem_of_getElem? (i := 13) rfl)
theorem kw_470 : (.methodLink RX12 104 yX12_typedBehind : Cond) ∈ tb := inA_19 _ (List.mem_of_getElem? (i := 14) rfl)
theorem kw_471 : (.instanceMethod yX12_typedBehind : Cond) ∈ tb := inA_19 _ (List.mem_of_getElem? (i := 15) rfl)
theorem kw_472 : (.methodLink RL 67 yX12_fault : Cond) ∈ tb := inA_19 _ (List.mem_of_getElem? (i := 16) rfl)
theorem kw_473 : (.instanceMethod yX12_fault : Cond) ∈ tb := inA_19 _ (List.mem_of_getElem? (i := 17) rfl)
theorem kw_474 : (.selects RX12 yX12_fault yX12_fault : Cond) ∈ tb := inA_19 _ (List.mem_of_getElem? (i := 18) rfl)
theorem kw_475 : (.methodLink RX12 135 yX5_failure : Cond) ∈ tb := inA_19 _ (List.mem_of_getElem? (i := 19) rfl)
theorem kw_476 : (.instanceMethod yX5_failure : Cond) ∈ tb := inA_19 _ (List.mem_of_getElem? (i := 20) rfl)
theorem kw_477 : (.selects RX5 yX5_failure yX5_failure : Cond) ∈ tb := inA_19 _ (List.mem_of_getElem? (i := 21) rfl)
theorem kw_478 : (.methodLink RX12 138 yX5_failureBean : Cond) ∈ tb := inA_19 _ (List.mem_of_getElem? (i := 22) rfl)
theorem kw_479 : (.instanceMethod yX5_failureBean : Cond) ∈ tb := inA_19 _ (List.mem_of_getElem? (i := 23) rfl)
theorem kw_480 : (.selects RX5 yX5_failureBean yX5_failureBean : Cond) ∈ tb := inA_20 _ (List.mem_of_getElem? (i := 0) rfl)
theorem kw_481 : (.methodLink RL 85 yX12_close : Cond) ∈ tb := inA_20 _ (List.mem_of_getElem? (i := 1) rfl)
theorem kw_482 : (.instanceMethod yX12_close : Cond) ∈ tb := inA_20 _ (List.mem_of_getElem? (i := 2) rfl)
theorem kw_483 : (.selects RX12 yX12_close yX12_close : Cond) ∈ tb := inA_20 _ (List.mem_of_getElem? (i := 3) rfl)
theorem kw_484 : (.methodLink RX12 178 yX5_destroyAll : Cond) ∈ tb := inA_20 _ (List.mem_of_getElem? (i := 4) rfl)
theorem kw_485 : (.instanceMethod yX5_destroyAll : Cond) ∈ tb := inA_20 _ (List.mem_of_getElem? (i := 5) rfl)
theorem kw_486 : (.selects RX5 yX5_destroyAll yX5_destroyAll : Cond) ∈ tb := inA_20 _ (List.mem_of_getElem? (i := 6) rfl)
theorem kw_487 : (.methodLink RX5 95 yX4_add : Cond) ∈ tb := inA_20 _ (List.mem_of_getElem? (i := 7) rfl)
theorem kw_488 : (.instanceMethod yX4_add : Cond) ∈ tb := inA_20 _ (List.mem_of_getElem? (i := 8) rfl)
theorem kw_489 : (.selects RX4 yX4_add yX4_add : Cond) ∈ tb := inA_20 _ (List.mem_of_getElem? (i := 9) rfl)
theorem kw_490 : (.methodLink RX5 53 yX5_forgetMade : Cond) ∈ tb := inA_20 _ (List.mem_of_getElem? (i := 10) rfl)
theorem kw_491 : (.instanceMethod yX5_forgetMade : Cond) ∈ tb := inA_20 _ (List.mem_of_getElem? (i := 11) rfl)
theorem kw_492 : (.methodLink RX5 78 yX10_count : Cond) ∈ tb := inA_20 _ (List.mem_of_getElem? (i := 12) rfl)
theorem kw_493 : (.instanceMethod yX10_count : Cond) ∈ tb := inA_20 _ (List.mem_of_getElem? (i := 13) rfl)
theorem kw_494 : (.selects RX10 yX10_count yX10_count : Cond) ∈ tb := inA_20 _ (List.mem_of_getElem? (i := 14) rfl)
theorem kw_495 : (.methodLink RX5 68 yX10_numbered : Cond) ∈ tb := inA_20 _ (List.mem_of_getElem? (i := 15) rfl)
theorem kw_496 : (.instanceMethod yX10_numbered : Cond) ∈ tb := inA_20 _ (List.mem_of_getElem? (i := 16) rfl)
theorem kw_497 : (.selects RX10 yX10_numbered yX10_numbered : Cond) ∈ tb := inA_20 _ (List.mem_of_getElem? (i := 17) rfl)
theorem kw_498 : (.methodLink RX12 181 yX4_count : Cond) ∈ tb := inA_20 _ (List.mem_of_getElem? (i := 18) rfl)
theorem kw_499 : (.instanceMethod yX4_count : Cond) ∈ tb := inA_20 _ (List.mem_of_getElem? (i := 19) rfl)
theorem kw_500 : (.selects RX4 yX4_count yX4_count : Cond) ∈ tb := inA_20 _ (List.mem_of_getElem? (i := 20) rfl)
theorem kw_501 : (.methodLink RL 89 yX12_events : Cond) ∈ tb := inA_20 _ (List.mem_of_getElem? (i := 21) rfl)
theorem kw_502 : (.instanceMethod yX12_events : Cond) ∈ tb := inA_20 _ (List.mem_of_getElem? (i := 22) rfl)
theorem kw_503 : (.selects RX12 yX12_events yX12_events : Cond) ∈ tb := inA_20 _ (List.mem_of_getElem? (i := 23) rfl)
theorem kw_504 : (.methodLink RL 93 yX12_event : Cond) ∈ tb := inA_21 _ (List.mem_of_getElem? (i := 0) rfl)
theorem kw_505 : (.instanceMethod yX12_event : Cond) ∈ tb := inA_21 _ (List.mem_of_getElem? (i := 1) rfl)
theorem kw_506 : (.selects RX12 yX12_event yX12_event : Cond) ∈ tb := inA_21 _ (List.mem_of_getElem? (i := 2) rfl)
theorem kw_507 : (.methodLink RX12 182 yX4_number : Cond) ∈ tb := inA_21 _ (List.mem_of_getElem? (i := 3) rfl)
theorem kw_508 : (.instanceMethod yX4_number : Cond) ∈ tb := inA_21 _ (List.mem_of_getElem? (i := 4) rfl)
theorem kw_509 : (.selects RX4 yX4_number yX4_number : Cond) ∈ tb := inA_21 _ (List.mem_of_getElem? (i := 5) rfl)
theorem kw_510 : (.methodLink RL 97 yX12_object : Cond) ∈ tb := inA_21 _ (List.mem_of_getElem? (i := 6) rfl)
theorem kw_511 : (.instanceMethod yX12_object : Cond) ∈ tb := inA_21 _ (List.mem_of_getElem? (i := 7) rfl)
theorem kw_512 : (.selects RX12 yX12_object yX12_object : Cond) ∈ tb := inA_21 _ (List.mem_of_getElem? (i := 8) rfl)
theorem kw_513 : (.methodLink RX12 185 yX5_classOfObject : Cond) ∈ tb := inA_21 _ (List.mem_of_getElem? (i := 9) rfl)
theorem kw_514 : (.instanceMethod yX5_classOfObject : Cond) ∈ tb := inA_21 _ (List.mem_of_getElem? (i := 10) rfl)
theorem kw_515 : (.selects RX5 yX5_classOfObject yX5_classOfObject : Cond) ∈ tb := inA_21 _ (List.mem_of_getElem? (i := 11) rfl)
theorem kw_516 : (.methodLink RX5 64 yX5_isObject : Cond) ∈ tb := inA_21 _ (List.mem_of_getElem? (i := 12) rfl)
theorem kw_517 : (.instanceMethod yX5_isObject : Cond) ∈ tb := inA_21 _ (List.mem_of_getElem? (i := 13) rfl)
theorem kw_518 : (.methodLink RX12 189 yX5_beanOfObject : Cond) ∈ tb := inA_21 _ (List.mem_of_getElem? (i := 14) rfl)
theorem kw_519 : (.instanceMethod yX5_beanOfObject : Cond) ∈ tb := inA_21 _ (List.mem_of_getElem? (i := 15) rfl)
theorem kw_520 : (.selects RX5 yX5_beanOfObject yX5_beanOfObject : Cond) ∈ tb := inA_21 _ (List.mem_of_getElem? (i := 16) rfl)
theorem kw_521 : (.methodLink RL 101 yX12_bean : Cond) ∈ tb := inA_21 _ (List.mem_of_getElem? (i := 17) rfl)
theorem kw_522 : (.instanceMethod yX12_bean : Cond) ∈ tb := inA_21 _ (List.mem_of_getElem? (i := 18) rfl)
theorem kw_523 : (.selects RX12 yX12_bean yX12_bean : Cond) ∈ tb := inA_21 _ (List.mem_of_getElem? (i := 19) rfl)
theorem kw_524 : (.methodLink RX12 132 yX10_count : Cond) ∈ tb := inA_21 _ (List.mem_of_getElem? (i := 20) rfl)
theorem kw_525 : (.methodLink RX12 192 yX10_numbered : Cond) ∈ tb := inA_21 _ (List.mem_of_getElem? (i := 21) rfl)
theorem kw_526 : (.methodLink RX12 196 yX1_told : Cond) ∈ tb := inA_21 _ (List.mem_of_getElem? (i := 22) rfl)
theorem kw_527 : (.instanceMethod yX1_told : Cond) ∈ tb := inA_21 _ (List.mem_of_getElem? (i := 23) rfl)
theorem kw_528 : (.selects RX1 yX1_told yX1_told : Cond) ∈ tb := inA_22 _ (List.mem_of_getElem? (i := 0) rfl)
theorem kw_529 : (.methodLink RX1 171 yJx4a65c_size_8abf5 : Cond) ∈ tb := inA_22 _ (List.mem_of_getElem? (i := 1) rfl)
theorem kw_530 : (.instanceMethod yJx4a65c_size_8abf5 : Cond) ∈ tb := inA_22 _ (List.mem_of_getElem? (i := 2) rfl)
theorem kw_531 : (.selects RJx4a65c yJx4a65c_size_8abf5 yJx4a65c_size_8abf5 : Cond) ∈ tb := inA_22 _ (List.mem_of_getElem? (i := 3) rfl)
theorem kw_532 : (.methodLink RL 61 yL_read : Cond) ∈ tb := inA_22 _ (List.mem_of_getElem? (i := 4) rfl)
theorem kw_533 : (.static yL_read : Cond) ∈ tb := inA_22 _ (List.mem_of_getElem? (i := 5) rfl)
theorem kw_534 : (.classLink RL 13 "java/lang/IllegalArgumentException" : Cond) ∈ tb := inA_22 _ (List.mem_of_getElem? (i := 6) rfl)
theorem kw_535 : (.methodLink RL 7 yX12_read : Cond) ∈ tb := inA_22 _ (List.mem_of_getElem? (i := 7) rfl)
theorem kw_536 : (.instanceMethod yX12_read : Cond) ∈ tb := inA_22 _ (List.mem_of_getElem? (i := 8) rfl)
theorem kw_537 : (.selects RX12 yX12_read yX12_read : Cond) ∈ tb := inA_22 _ (List.mem_of_getElem? (i := 9) rfl)
theorem kw_538 : (.methodLink RX12 108 yX5_startAfresh : Cond) ∈ tb := inA_22 _ (List.mem_of_getElem? (i := 10) rfl)
theorem kw_539 : (.instanceMethod yX5_startAfresh : Cond) ∈ tb := inA_22 _ (List.mem_of_getElem? (i := 11) rfl)
theorem kw_540 : (.selects RX5 yX5_startAfresh yX5_startAfresh : Cond) ∈ tb := inA_22 _ (List.mem_of_getElem? (i := 12) rfl)
theorem kw_541 : (.methodLink RX5 56 yX4_clear : Cond) ∈ tb := inA_22 _ (List.mem_of_getElem? (i := 13) rfl)
theorem kw_542 : (.instanceMethod yX4_clear : Cond) ∈ tb := inA_22 _ (List.mem_of_getElem? (i := 14) rfl)
theorem kw_543 : (.selects RX4 yX4_clear yX4_clear : Cond) ∈ tb := inA_22 _ (List.mem_of_getElem? (i := 15) rfl)
theorem kw_544 : (.methodLink RX12 114 yX7_firstWrongPlace : Cond) ∈ tb := inA_22 _ (List.mem_of_getElem? (i := 16) rfl)
theorem kw_545 : (.instanceMethod yX7_firstWrongPlace : Cond) ∈ tb := inA_22 _ (List.mem_of_getElem? (i := 17) rfl)
theorem kw_546 : (.selects RX7 yX7_firstWrongPlace yX7_firstWrongPlace : Cond) ∈ tb := inA_22 _ (List.mem_of_getElem? (i := 18) rfl)
theorem kw_547 : (.classLink RX7 50 "java/lang/IllegalArgumentException" : Cond) ∈ tb := inA_22 _ (List.mem_of_getElem? (i := 19) rfl)
theorem kw_548 : (.methodLink RX7 33 yX6_clear : Cond) ∈ tb := inA_22 _ (List.mem_of_getElem? (i := 20) rfl)
theorem kw_549 : (.instanceMethod yX6_clear : Cond) ∈ tb := inA_22 _ (List.mem_of_getElem? (i := 21) rfl)
theorem kw_550 : (.selects RX6 yX6_clear yX6_clear : Cond) ∈ tb := inA_22 _ (List.mem_of_getElem? (i := 22) rfl)
theorem kw_551 : (.methodLink RX7 38 yX7_skipAround : Cond) ∈ tb := inA_22 _ (List.mem_of_getElem? (i := 23) rfl)
theorem kw_552 : (.instanceMethod yX7_skipAround : Cond) ∈ tb := inA_23 _ (List.mem_of_getElem? (i := 0) rfl)
theorem kw_553 : (.methodLink RX7 53 yX7_skipsWhite : Cond) ∈ tb := inA_23 _ (List.mem_of_getElem? (i := 1) rfl)
theorem kw_554 : (.instanceMethod yX7_skipsWhite : Cond) ∈ tb := inA_23 _ (List.mem_of_getElem? (i := 2) rfl)
theorem kw_555 : (.methodLink RX7 57 yX7_charAt : Cond) ∈ tb := inA_23 _ (List.mem_of_getElem? (i := 3) rfl)
theorem kw_556 : (.instanceMethod yX7_charAt : Cond) ∈ tb := inA_23 _ (List.mem_of_getElem? (i := 4) rfl)
theorem kw_557 : (.methodLink RX7 61 yX7_skipComment : Cond) ∈ tb := inA_23 _ (List.mem_of_getElem? (i := 5) rfl)
theorem kw_558 : (.instanceMethod yX7_skipComment : Cond) ∈ tb := inA_23 _ (List.mem_of_getElem? (i := 6) rfl)
theorem kw_559 : (.methodLink RX7 64 yX7_expect : Cond) ∈ tb := inA_23 _ (List.mem_of_getElem? (i := 7) rfl)
theorem kw_560 : (.instanceMethod yX7_expect : Cond) ∈ tb := inA_23 _ (List.mem_of_getElem? (i := 8) rfl)
theorem kw_561 : (.methodLink RX7 41 yX7_openElement : Cond) ∈ tb := inA_23 _ (List.mem_of_getElem? (i := 9) rfl)
theorem kw_562 : (.instanceMethod yX7_openElement : Cond) ∈ tb := inA_23 _ (List.mem_of_getElem? (i := 10) rfl)
theorem kw_563 : (.methodLink RX7 81 yX7_isNameLetter : Cond) ∈ tb := inA_23 _ (List.mem_of_getElem? (i := 11) rfl)
theorem kw_564 : (.static yX7_isNameLetter : Cond) ∈ tb := inA_23 _ (List.mem_of_getElem? (i := 12) rfl)
theorem kw_565 : (.methodLink RX7 84 yX6_isFull : Cond) ∈ tb := inA_23 _ (List.mem_of_getElem? (i := 13) rfl)
theorem kw_566 : (.instanceMethod yX6_isFull : Cond) ∈ tb := inA_23 _ (List.mem_of_getElem? (i := 14) rfl)
theorem kw_567 : (.selects RX6 yX6_isFull yX6_isFull : Cond) ∈ tb := inA_23 _ (List.mem_of_getElem? (i := 15) rfl)
theorem kw_568 : (.methodLink RX7 87 yX7_readName : Cond) ∈ tb := inA_23 _ (List.mem_of_getElem? (i := 16) rfl)
theorem kw_569 : (.instanceMethod yX7_readName : Cond) ∈ tb := inA_23 _ (List.mem_of_getElem? (i := 17) rfl)
theorem kw_570 : (.methodLink RX7 91 yX6_addElement : Cond) ∈ tb := inA_23 _ (List.mem_of_getElem? (i := 18) rfl)
theorem kw_571 : (.instanceMethod yX6_addElement : Cond) ∈ tb := inA_23 _ (List.mem_of_getElem? (i := 19) rfl)
theorem kw_572 : (.selects RX6 yX6_addElement yX6_addElement : Cond) ∈ tb := inA_23 _ (List.mem_of_getElem? (i := 20) rfl)
theorem kw_573 : (.methodLink RX6 43 yX3_begin : Cond) ∈ tb := inA_23 _ (List.mem_of_getElem? (i := 21) rfl)
theorem kw_574 : (.instanceMethod yX3_begin : Cond) ∈ tb := inA_23 _ (List.mem_of_getElem? (i := 22) rfl)
theorem kw_575 : (.selects RX3 yX3_begin yX3_begin : Cond) ∈ tb := inA_23 _ (List.mem_of_getElem? (i := 23) rfl)
theorem kw_576 : (.methodLink RX3 48 yX3_forgetWiring : Cond) ∈ tb := inA_24 _ (List.mem_of_getElem? (i := 0) rfl)
theorem kw_577 : (.instanceMethod yX3_forgetWiring : Cond) ∈ tb := inA_24 _ (List.mem_of_getElem? (i := 1) rfl)
theorem kw_578 : (.constantLong RX3 58 (1099511627776) : Cond) ∈ tb := inA_24 _ (List.mem_of_getElem? (i := 2) rfl)
theorem kw_579 : (.methodLink RX6 47 yX3_addInner : Cond) ∈ tb := inA_24 _ (List.mem_of_getElem? (i := 3) rfl)
theorem kw_580 : (.instanceMethod yX3_addInner : Cond) ∈ tb := inA_24 _ (List.mem_of_getElem? (i := 4) rfl)
theorem kw_581 : (.selects RX3 yX3_addInner yX3_addInner : Cond) ∈ tb := inA_24 _ (List.mem_of_getElem? (i := 5) rfl)
theorem kw_582 : (.methodLink RX7 95 yX11_withKey : Cond) ∈ tb := inA_24 _ (List.mem_of_getElem? (i := 6) rfl)
theorem kw_583 : (.static yX11_withKey : Cond) ∈ tb := inA_24 _ (List.mem_of_getElem? (i := 7) rfl)
theorem kw_584 : (.fieldLink RX11 143 "WiredBeans$Word" "ALL" "[LWiredBeans$Word;" : Cond) ∈ tb := inA_24 _ (List.mem_of_getElem? (i := 8) rfl)
theorem kw_585 : (.methodLink RX7 105 yX7_readAttribute : Cond) ∈ tb := inA_24 _ (List.mem_of_getElem? (i := 9) rfl)
theorem kw_586 : (.instanceMethod yX7_readAttribute : Cond) ∈ tb := inA_24 _ (List.mem_of_getElem? (i := 10) rfl)
theorem kw_587 : (.methodLink RX7 120 yX6_hasKey : Cond) ∈ tb := inA_24 _ (List.mem_of_getElem? (i := 11) rfl)
theorem kw_588 : (.instanceMethod yX6_hasKey : Cond) ∈ tb := inA_24 _ (List.mem_of_getElem? (i := 12) rfl)
theorem kw_589 : (.selects RX6 yX6_hasKey yX6_hasKey : Cond) ∈ tb := inA_24 _ (List.mem_of_getElem? (i := 13) rfl)
theorem kw_590 : (.methodLink RX7 124 yX6_addAttribute : Cond) ∈ tb := inA_24 _ (List.mem_of_getElem? (i := 14) rfl)
theorem kw_591 : (.instanceMethod yX6_addAttribute : Cond) ∈ tb := inA_24 _ (List.mem_of_getElem? (i := 15) rfl)
theorem kw_592 : (.selects RX6 yX6_addAttribute yX6_addAttribute : Cond) ∈ tb := inA_24 _ (List.mem_of_getElem? (i := 16) rfl)
theorem kw_593 : (.methodLink RX7 68 yX7_readCharacter : Cond) ∈ tb := inA_24 _ (List.mem_of_getElem? (i := 17) rfl)
theorem kw_594 : (.instanceMethod yX7_readCharacter : Cond) ∈ tb := inA_24 _ (List.mem_of_getElem? (i := 18) rfl)
theorem kw_595 : (.methodLink RX7 133 yX7_readEntity : Cond) ∈ tb := inA_24 _ (List.mem_of_getElem? (i := 19) rfl)
theorem kw_596 : (.instanceMethod yX7_readEntity : Cond) ∈ tb := inA_24 _ (List.mem_of_getElem? (i := 20) rfl)
theorem kw_597 : (.methodLink RX7 148 yJ0_length_8abf5 : Cond) ∈ tb := inA_24 _ (List.mem_of_getElem? (i := 21) rfl)
theorem kw_598 : (.instanceMethod yJ0_length_8abf5 : Cond) ∈ tb := inA_24 _ (List.mem_of_getElem? (i := 22) rfl)
theorem kw_599 : (.selects RJ0 yJ0_length_8abf5 yJ0_length_8abf5 : Cond) ∈ tb := inA_24 _ (List.mem_of_getElem? (i := 23) rfl)
theorem kw_600 : (.methodLink RJ0 335 yJ0_coder_7d493 : Cond) ∈ tb := inA_25 _ (List.mem_of_getElem? (i := 0) rfl)
theorem kw_601 : (.instanceMethod yJ0_coder_7d493 : Cond) ∈ tb := inA_25 _ (List.mem_of_getElem? (i := 1) rfl)
theorem kw_602 : (.selects RJ0 yJ0_coder_7d493 yJ0_coder_7d493 : Cond) ∈ tb := inA_25 _ (List.mem_of_getElem? (i := 2) rfl)
theorem kw_603 : (.fieldLink RJ0 38 "java/lang/String" "COMPACT_STRINGS" "Z" : Cond) ∈ tb := inA_25 _ (List.mem_of_getElem? (i := 3) rfl)
theorem kw_604 : (.methodLink RX7 153 yJ0_charAt_5068e : Cond) ∈ tb := inA_25 _ (List.mem_of_getElem? (i := 4) rfl)
theorem kw_605 : (.instanceMethod yJ0_charAt_5068e : Cond) ∈ tb := inA_25 _ (List.mem_of_getElem? (i := 5) rfl)
theorem kw_606 : (.selects RJ0 yJ0_charAt_5068e yJ0_charAt_5068e : Cond) ∈ tb := inA_25 _ (List.mem_of_getElem? (i := 6) rfl)
theorem kw_607 : (.methodLink RJ0 492 yJ0_isLatin1_aae02 : Cond) ∈ tb := inA_25 _ (List.mem_of_getElem? (i := 7) rfl)
theorem kw_608 : (.instanceMethod yJ0_isLatin1_aae02 : Cond) ∈ tb := inA_25 _ (List.mem_of_getElem? (i := 8) rfl)
theorem kw_609 : (.selects RJ0 yJ0_isLatin1_aae02 yJ0_isLatin1_aae02 : Cond) ∈ tb := inA_25 _ (List.mem_of_getElem? (i := 9) rfl)
theorem kw_610 : (.methodLink RJ0 495 yJ1_charAt_3b067 : Cond) ∈ tb := inA_25 _ (List.mem_of_getElem? (i := 10) rfl)
theorem kw_611 : (.static yJ1_charAt_3b067 : Cond) ∈ tb := inA_25 _ (List.mem_of_getElem? (i := 11) rfl)
theorem kw_612 : (.methodLink RJ1 9 yJ0_checkIndex_df160 : Cond) ∈ tb := inA_25 _ (List.mem_of_getElem? (i := 12) rfl)
theorem kw_613 : (.static yJ0_checkIndex_df160 : Cond) ∈ tb := inA_25 _ (List.mem_of_getElem? (i := 13) rfl)
theorem kw_614 : (.fieldLink RJ0 1053 "jdk/internal/util/Preconditions" "SIOOBE_FORMATTER" "Ljava/util/function/BiFunction;" : Cond) ∈ tb := inA_25 _ (List.mem_of_getElem? (i := 14) rfl)
theorem kw_615 : (.methodLink RJ0 1059 yJ3_checkIndex_8e157 : Cond) ∈ tb := inA_25 _ (List.mem_of_getElem? (i := 15) rfl)
theorem kw_616 : (.static yJ3_checkIndex_8e157 : Cond) ∈ tb := inA_25 _ (List.mem_of_getElem? (i := 16) rfl)
theorem kw_629 : (.methodLink RX7 145 yX7_readNumbered : Cond) ∈ tb := inA_26 _ (List.mem_of_getElem? (i := 5) rfl)
theorem kw_630 : (.instanceMethod yX7_readNumbered : Cond) ∈ tb := inA_26 _ (List.mem_of_getElem? (i := 6) rfl)
theorem kw_631 : (.methodLink RX7 128 yX6_takesValue : Cond) ∈ tb := inA_26 _ (List.mem_of_getElem? (i := 7) rfl)
theorem kw_632 : (.instanceMethod yX6_takesValue : Cond) ∈ tb := inA_26 _ (List.mem_of_getElem? (i := 8) rfl)
theorem kw_633 : (.selects RX6 yX6_takesValue yX6_takesValue : Cond) ∈ tb := inA_26 _ (List.mem_of_getElem? (i := 9) rfl)
theorem kw_634 : (.methodLink RX7 108 yX7_leaveElement : Cond) ∈ tb := inA_26 _ (List.mem_of_getElem? (i := 10) rfl)
theorem kw_635 : (.instanceMethod yX7_leaveElement : Cond) ∈ tb := inA_26 _ (List.mem_of_getElem? (i := 11) rfl)
theorem kw_636 : (.methodLink RX7 44 yX7_readContent : Cond) ∈ tb := inA_26 _ (List.mem_of_getElem? (i := 12) rfl)
theorem kw_637 : (.instanceMethod yX7_readContent : Cond) ∈ tb := inA_26 _ (List.mem_of_getElem? (i := 13) rfl)
theorem kw_638 : (.methodLink RX7 72 yX3_takesText : Cond) ∈ tb := inA_26 _ (List.mem_of_getElem? (i := 14) rfl)
theorem kw_639 : (.instanceMethod yX3_takesText : Cond) ∈ tb := inA_26 _ (List.mem_of_getElem? (i := 15) rfl)
theorem kw_640 : (.selects RX3 yX3_takesText yX3_takesText : Cond) ∈ tb := inA_26 _ (List.mem_of_getElem? (i := 16) rfl)
theorem kw_641 : (.methodLink RX3 87 yX3_takeWhite : Cond) ∈ tb := inA_26 _ (List.mem_of_getElem? (i := 17) rfl)
theorem kw_642 : (.instanceMethod yX3_takeWhite : Cond) ∈ tb := inA_26 _ (List.mem_of_getElem? (i := 18) rfl)
theorem kw_643 : (.methodLink RX7 78 yX7_closeElement : Cond) ∈ tb := inA_26 _ (List.mem_of_getElem? (i := 19) rfl)
theorem kw_644 : (.instanceMethod yX7_closeElement : Cond) ∈ tb := inA_26 _ (List.mem_of_getElem? (i := 20) rfl)
theorem kw_645 : (.methodLink RX7 47 yX7_refuseMore : Cond) ∈ tb := inA_26 _ (List.mem_of_getElem? (i := 21) rfl)
theorem kw_646 : (.instanceMethod yX7_refuseMore : Cond) ∈ tb := inA_26 _ (List.mem_of_getElem? (i := 22) rfl)
theorem kw_647 : (.methodLink RX12 118 yX9_firstWrongPlace : Cond) ∈ tb := inA_26 _ (List.mem_of_getElem? (i := 23) rfl)
theorem kw_648 : (.instanceMethod yX9_firstWrongPlace : Cond) ∈ tb := inA_27 _ (List.mem_of_getElem? (i := 0) rfl)
theorem kw_649 : (.selects RX9 yX9_firstWrongPlace yX9_firstWrongPlace : Cond) ∈ tb := inA_27 _ (List.mem_of_getElem? (i := 1) rfl)
theorem kw_650 : (.methodLink RX9 15 yX6_count : Cond) ∈ tb := inA_27 _ (List.mem_of_getElem? (i := 2) rfl)
theorem kw_651 : (.instanceMethod yX6_count : Cond) ∈ tb := inA_27 _ (List.mem_of_getElem? (i := 3) rfl)
theorem kw_652 : (.selects RX6 yX6_count yX6_count : Cond) ∈ tb := inA_27 _ (List.mem_of_getElem? (i := 4) rfl)
theorem kw_653 : (.methodLink RX9 21 yX6_element : Cond) ∈ tb := inA_27 _ (List.mem_of_getElem? (i := 5) rfl)
theorem kw_654 : (.instanceMethod yX6_element : Cond) ∈ tb := inA_27 _ (List.mem_of_getElem? (i := 6) rfl)
theorem kw_655 : (.selects RX6 yX6_element yX6_element : Cond) ∈ tb := inA_27 _ (List.mem_of_getElem? (i := 7) rfl)
theorem kw_656 : (.methodLink RX9 25 yX9_isRight : Cond) ∈ tb := inA_27 _ (List.mem_of_getElem? (i := 8) rfl)
theorem kw_657 : (.instanceMethod yX9_isRight : Cond) ∈ tb := inA_27 _ (List.mem_of_getElem? (i := 9) rfl)
theorem kw_658 : (.methodLink RX9 39 yX9_standsRight : Cond) ∈ tb := inA_27 _ (List.mem_of_getElem? (i := 10) rfl)
theorem kw_659 : (.instanceMethod yX9_standsRight : Cond) ∈ tb := inA_27 _ (List.mem_of_getElem? (i := 11) rfl)
theorem kw_660 : (.fieldLink RX9 59 "WiredBeans$1" "$SwitchMap$WiredBeans$Word" "[I" : Cond) ∈ tb := inA_27 _ (List.mem_of_getElem? (i := 12) rfl)
theorem kw_661 : (.methodLink RX9 65 ⟨"WiredBeans$Word", "ordinal", "()I"⟩ : Cond) ∈ tb := inA_27 _ (List.mem_of_getElem? (i := 13) rfl)
theorem kw_662 : (.sameMethod "WiredBeans$Word" "java/lang/Enum" "ordinal" "()I" : Cond) ∈ tb := inA_27 _ (List.mem_of_getElem? (i := 14) rfl)
theorem kw_663 : (.selects RX11 ⟨"WiredBeans$Word", "ordinal", "()I"⟩ yJx29ce0_ordinal_8abf5 : Cond) ∈ tb := inA_27 _ (List.mem_of_getElem? (i := 15) rfl)
theorem kw_664 : (.instanceMethod yJx29ce0_ordinal_8abf5 : Cond) ∈ tb := inA_27 _ (List.mem_of_getElem? (i := 16) rfl)
theorem kw_665 : (.fieldLink RX9 72 "WiredBeans$Word" "BEANS" "LWiredBeans$Word;" : Cond) ∈ tb := inA_27 _ (List.mem_of_getElem? (i := 17) rfl)
theorem kw_666 : (.methodLink RX9 75 yX3_isIn : Cond) ∈ tb := inA_27 _ (List.mem_of_getElem? (i := 18) rfl)
theorem kw_667 : (.instanceMethod yX3_isIn : Cond) ∈ tb := inA_27 _ (List.mem_of_getElem? (i := 19) rfl)
theorem kw_668 : (.selects RX3 yX3_isIn yX3_isIn : Cond) ∈ tb := inA_27 _ (List.mem_of_getElem? (i := 20) rfl)
theorem kw_669 : (.methodLink RX9 79 yX9_isHeld : Cond) ∈ tb := inA_27 _ (List.mem_of_getElem? (i := 21) rfl)
theorem kw_670 : (.instanceMethod yX9_isHeld : Cond) ∈ tb := inA_27 _ (List.mem_of_getElem? (i := 22) rfl)
theorem kw_671 : (.fieldLink RX9 92 "WiredBeans$Word" "ARG" "LWiredBeans$Word;" : Cond) ∈ tb := inA_27 _ (List.mem_of_getElem? (i := 23) rfl)
theorem kw_672 : (.fieldLink RX9 95 "WiredBeans$Word" "SET" "LWiredBeans$Word;" : Cond) ∈ tb := inA_28 _ (List.mem_of_getElem? (i := 0) rfl)
theorem kw_673 : (.fieldLink RX9 98 "WiredBeans$Word" "LIST" "LWiredBeans$Word;" : Cond) ∈ tb := inA_28 _ (List.mem_of_getElem? (i := 1) rfl)
theorem kw_674 : (.fieldLink RX9 82 "WiredBeans$Word" "BEAN" "LWiredBeans$Word;" : Cond) ∈ tb := inA_28 _ (List.mem_of_getElem? (i := 2) rfl)
theorem kw_675 : (.methodLink RX9 85 yX9_likeBefore : Cond) ∈ tb := inA_28 _ (List.mem_of_getElem? (i := 3) rfl)
theorem kw_676 : (.instanceMethod yX9_likeBefore : Cond) ∈ tb := inA_28 _ (List.mem_of_getElem? (i := 4) rfl)
theorem kw_677 : (.methodLink RX9 89 yX9_isFirstOfName : Cond) ∈ tb := inA_28 _ (List.mem_of_getElem? (i := 5) rfl)
theorem kw_678 : (.instanceMethod yX9_isFirstOfName : Cond) ∈ tb := inA_28 _ (List.mem_of_getElem? (i := 6) rfl)
theorem kw_679 : (.fieldLink RX9 107 "WiredBeans$Word" "NAME" "LWiredBeans$Word;" : Cond) ∈ tb := inA_28 _ (List.mem_of_getElem? (i := 7) rfl)
theorem kw_680 : (.methodLink RX9 110 yX6_letterValue : Cond) ∈ tb := inA_28 _ (List.mem_of_getElem? (i := 8) rfl)
theorem kw_681 : (.instanceMethod yX6_letterValue : Cond) ∈ tb := inA_28 _ (List.mem_of_getElem? (i := 9) rfl)
theorem kw_682 : (.selects RX6 yX6_letterValue yX6_letterValue : Cond) ∈ tb := inA_28 _ (List.mem_of_getElem? (i := 10) rfl)
theorem kw_683 : (.methodLink RX6 71 yX6_find : Cond) ∈ tb := inA_28 _ (List.mem_of_getElem? (i := 11) rfl)
theorem kw_684 : (.instanceMethod yX6_find : Cond) ∈ tb := inA_28 _ (List.mem_of_getElem? (i := 12) rfl)
theorem kw_685 : (.methodLink RX6 75 yX6_valueLength : Cond) ∈ tb := inA_28 _ (List.mem_of_getElem? (i := 13) rfl)
theorem kw_686 : (.instanceMethod yX6_valueLength : Cond) ∈ tb := inA_28 _ (List.mem_of_getElem? (i := 14) rfl)
theorem kw_687 : (.methodLink RX6 79 yX6_valueChar : Cond) ∈ tb := inA_28 _ (List.mem_of_getElem? (i := 15) rfl)
theorem kw_688 : (.instanceMethod yX6_valueChar : Cond) ∈ tb := inA_28 _ (List.mem_of_getElem? (i := 16) rfl)
theorem kw_689 : (.methodLink RX9 42 yX9_hasRightAttributes : Cond) ∈ tb := inA_28 _ (List.mem_of_getElem? (i := 17) rfl)
theorem kw_690 : (.instanceMethod yX9_hasRightAttributes : Cond) ∈ tb := inA_28 _ (List.mem_of_getElem? (i := 18) rfl)
theorem kw_691 : (.methodLink RX9 120 yX6_attributeWord : Cond) ∈ tb := inA_28 _ (List.mem_of_getElem? (i := 19) rfl)
theorem kw_692 : (.instanceMethod yX6_attributeWord : Cond) ∈ tb := inA_28 _ (List.mem_of_getElem? (i := 20) rfl)
theorem kw_693 : (.selects RX6 yX6_attributeWord yX6_attributeWord : Cond) ∈ tb := inA_28 _ (List.mem_of_getElem? (i := 21) rfl)
theorem kw_694 : (.methodLink RX6 67 yX11_withKey : Cond) ∈ tb := inA_28 _ (List.mem_of_getElem? (i := 22) rfl)
theorem kw_695 : (.methodLink RX9 124 yX9_mayHave : Cond) ∈ tb := inA_28 _ (List.mem_of_getElem? (i := 23) rfl)
theorem kw_696 : (.instanceMethod yX9_mayHave : Cond) ∈ tb := inA_29 _ (List.mem_of_getElem? (i := 0) rfl)
theorem kw_697 : (.fieldLink RX9 131 "WiredBeans$Word" "TO" "LWiredBeans$Word;" : Cond) ∈ tb := inA_29 _ (List.mem_of_getElem? (i := 1) rfl)
theorem kw_698 : (.methodLink RX9 134 yX9_beanMayHave : Cond) ∈ tb := inA_29 _ (List.mem_of_getElem? (i := 2) rfl)
theorem kw_699 : (.instanceMethod yX9_beanMayHave : Cond) ∈ tb := inA_29 _ (List.mem_of_getElem? (i := 3) rfl)
theorem kw_700 : (.fieldLink RX9 138 "WiredBeans$Word" "AT" "LWiredBeans$Word;" : Cond) ∈ tb := inA_29 _ (List.mem_of_getElem? (i := 4) rfl)
theorem kw_701 : (.fieldLink RX9 141 "WiredBeans$Word" "TYPE" "LWiredBeans$Word;" : Cond) ∈ tb := inA_29 _ (List.mem_of_getElem? (i := 5) rfl)
theorem kw_702 : (.fieldLink RX9 51 "WiredBeans$Word" "VALUE" "LWiredBeans$Word;" : Cond) ∈ tb := inA_29 _ (List.mem_of_getElem? (i := 6) rfl)
theorem kw_703 : (.fieldLink RX9 144 "WiredBeans$Word" "REF" "LWiredBeans$Word;" : Cond) ∈ tb := inA_29 _ (List.mem_of_getElem? (i := 7) rfl)
theorem kw_704 : (.methodLink RX9 128 yX9_hasRightValue : Cond) ∈ tb := inA_29 _ (List.mem_of_getElem? (i := 8) rfl)
theorem kw_705 : (.instanceMethod yX9_hasRightValue : Cond) ∈ tb := inA_29 _ (List.mem_of_getElem? (i := 9) rfl)
theorem kw_706 : (.fieldLink RX9 147 "WiredBeans$Word" "ALIAS" "LWiredBeans$Word;" : Cond) ∈ tb := inA_29 _ (List.mem_of_getElem? (i := 10) rfl)
theorem kw_707 : (.methodLink RX9 150 yX6_nameValue : Cond) ∈ tb := inA_29 _ (List.mem_of_getElem? (i := 11) rfl)
theorem kw_708 : (.instanceMethod yX6_nameValue : Cond) ∈ tb := inA_29 _ (List.mem_of_getElem? (i := 12) rfl)
theorem kw_709 : (.selects RX6 yX6_nameValue yX6_nameValue : Cond) ∈ tb := inA_29 _ (List.mem_of_getElem? (i := 13) rfl)
theorem kw_710 : (.methodLink RX9 154 yX6_classValue : Cond) ∈ tb := inA_29 _ (List.mem_of_getElem? (i := 14) rfl)
theorem kw_711 : (.instanceMethod yX6_classValue : Cond) ∈ tb := inA_29 _ (List.mem_of_getElem? (i := 15) rfl)
theorem kw_712 : (.selects RX6 yX6_classValue yX6_classValue : Cond) ∈ tb := inA_29 _ (List.mem_of_getElem? (i := 16) rfl)
theorem kw_713 : (.fieldLink RX9 157 "WiredBeans$Word" "YES" "LWiredBeans$Word;" : Cond) ∈ tb := inA_29 _ (List.mem_of_getElem? (i := 17) rfl)
theorem kw_714 : (.methodLink RX9 160 yX6_valueIs : Cond) ∈ tb := inA_29 _ (List.mem_of_getElem? (i := 18) rfl)
theorem kw_715 : (.instanceMethod yX6_valueIs : Cond) ∈ tb := inA_29 _ (List.mem_of_getElem? (i := 19) rfl)
theorem kw_716 : (.selects RX6 yX6_valueIs yX6_valueIs : Cond) ∈ tb := inA_29 _ (List.mem_of_getElem? (i := 20) rfl)
theorem kw_717 : (.methodLink RX6 83 yX6_nameValue : Cond) ∈ tb := inA_29 _ (List.mem_of_getElem? (i := 21) rfl)
theorem kw_718 : (.fieldLink RX9 164 "WiredBeans$Word" "NO" "LWiredBeans$Word;" : Cond) ∈ tb := inA_29 _ (List.mem_of_getElem? (i := 22) rfl)
theorem kw_719 : (.fieldLink RX9 167 "WiredBeans$Word" "ONE" "LWiredBeans$Word;" : Cond) ∈ tb := inA_29 _ (List.mem_of_getElem? (i := 23) rfl)
theorem kw_720 : (.fieldLink RX9 170 "WiredBeans$Word" "MANY" "LWiredBeans$Word;" : Cond) ∈ tb := inA_30 _ (List.mem_of_getElem? (i := 0) rfl)
theorem kw_721 : (.methodLink RX9 173 yX6_placeValue : Cond) ∈ tb := inA_30 _ (List.mem_of_getElem? (i := 1) rfl)
theorem kw_722 : (.instanceMethod yX6_placeValue : Cond) ∈ tb := inA_30 _ (List.mem_of_getElem? (i := 2) rfl)
theorem kw_723 : (.selects RX6 yX6_placeValue yX6_placeValue : Cond) ∈ tb := inA_30 _ (List.mem_of_getElem? (i := 3) rfl)
theorem kw_724 : (.methodLink RX9 176 yX6_typeValue : Cond) ∈ tb := inA_30 _ (List.mem_of_getElem? (i := 4) rfl)
theorem kw_725 : (.instanceMethod yX6_typeValue : Cond) ∈ tb := inA_30 _ (List.mem_of_getElem? (i := 5) rfl)
theorem kw_726 : (.selects RX6 yX6_typeValue yX6_typeValue : Cond) ∈ tb := inA_30 _ (List.mem_of_getElem? (i := 6) rfl)
theorem kw_727 : (.methodLink RX6 87 yX6_classValue : Cond) ∈ tb := inA_30 _ (List.mem_of_getElem? (i := 7) rfl)
theorem kw_728 : (.fieldLink RX6 90 "WiredBeans$1" "$SwitchMap$WiredBeans$Word" "[I" : Cond) ∈ tb := inA_30 _ (List.mem_of_getElem? (i := 8) rfl)
theorem kw_729 : (.methodLink RX6 95 ⟨"WiredBeans$Word", "ordinal", "()I"⟩ : Cond) ∈ tb := inA_30 _ (List.mem_of_getElem? (i := 9) rfl)
theorem kw_730 : (.methodLink RX9 45 yX9_hasWhatItNeeds : Cond) ∈ tb := inA_30 _ (List.mem_of_getElem? (i := 10) rfl)
theorem kw_731 : (.instanceMethod yX9_hasWhatItNeeds : Cond) ∈ tb := inA_30 _ (List.mem_of_getElem? (i := 11) rfl)
theorem kw_732 : (.methodLink RX9 179 yX6_has : Cond) ∈ tb := inA_30 _ (List.mem_of_getElem? (i := 12) rfl)
theorem kw_733 : (.instanceMethod yX6_has : Cond) ∈ tb := inA_30 _ (List.mem_of_getElem? (i := 13) rfl)
theorem kw_734 : (.selects RX6 yX6_has yX6_has : Cond) ∈ tb := inA_30 _ (List.mem_of_getElem? (i := 14) rfl)
theorem kw_735 : (.methodLink RX6 63 yX6_hasKey : Cond) ∈ tb := inA_30 _ (List.mem_of_getElem? (i := 15) rfl)
theorem kw_736 : (.methodLink RX9 182 yX9_beanHasWhatItNeeds : Cond) ∈ tb := inA_30 _ (List.mem_of_getElem? (i := 16) rfl)
theorem kw_737 : (.instanceMethod yX9_beanHasWhatItNeeds : Cond) ∈ tb := inA_30 _ (List.mem_of_getElem? (i := 17) rfl)
theorem kw_738 : (.fieldLink RX9 185 "WiredBeans$Word" "ID" "LWiredBeans$Word;" : Cond) ∈ tb := inA_30 _ (List.mem_of_getElem? (i := 18) rfl)
theorem kw_739 : (.fieldLink RX9 188 "WiredBeans$Word" "FACTORY" "LWiredBeans$Word;" : Cond) ∈ tb := inA_30 _ (List.mem_of_getElem? (i := 19) rfl)
theorem kw_740 : (.fieldLink RX9 191 "WiredBeans$Word" "METHOD" "LWiredBeans$Word;" : Cond) ∈ tb := inA_30 _ (List.mem_of_getElem? (i := 20) rfl)
theorem kw_741 : (.fieldLink RX9 194 "WiredBeans$Word" "ABSTRACT" "LWiredBeans$Word;" : Cond) ∈ tb := inA_30 _ (List.mem_of_getElem? (i := 21) rfl)
theorem kw_742 : (.fieldLink RX9 197 "WiredBeans$Word" "CLASS" "LWiredBeans$Word;" : Cond) ∈ tb := inA_30 _ (List.mem_of_getElem? (i := 22) rfl)
theorem kw_743 : (.fieldLink RX9 200 "WiredBeans$Word" "PARENT" "LWiredBeans$Word;" : Cond) ∈ tb := inA_30 _ (List.mem_of_getElem? (i := 23) rfl)
theorem kw_744 : (.methodLink RX9 56 yX9_hasRightCount : Cond) ∈ tb := inA_31 _ (List.mem_of_getElem? (i := 0) rfl)
theorem kw_745 : (.instanceMethod yX9_hasRightCount : Cond) ∈ tb := inA_31 _ (List.mem_of_getElem? (i := 1) rfl)
theorem kw_746 : (.methodLink RX12 121 yX10_firstWrongPlace : Cond) ∈ tb := inA_31 _ (List.mem_of_getElem? (i := 2) rfl)
theorem kw_747 : (.instanceMethod yX10_firstWrongPlace : Cond) ∈ tb := inA_31 _ (List.mem_of_getElem? (i := 3) rfl)
theorem kw_748 : (.selects RX10 yX10_firstWrongPlace yX10_firstWrongPlace : Cond) ∈ tb := inA_31 _ (List.mem_of_getElem? (i := 4) rfl)
theorem kw_749 : (.methodLink RX10 33 yX6_count : Cond) ∈ tb := inA_31 _ (List.mem_of_getElem? (i := 5) rfl)
theorem kw_750 : (.methodLink RX10 36 yX6_element : Cond) ∈ tb := inA_31 _ (List.mem_of_getElem? (i := 6) rfl)
theorem kw_751 : (.methodLink RX10 40 yX10_settle : Cond) ∈ tb := inA_31 _ (List.mem_of_getElem? (i := 7) rfl)
theorem kw_752 : (.instanceMethod yX10_settle : Cond) ∈ tb := inA_31 _ (List.mem_of_getElem? (i := 8) rfl)
theorem kw_753 : (.fieldLink RX10 64 "WiredBeans$1" "$SwitchMap$WiredBeans$Word" "[I" : Cond) ∈ tb := inA_31 _ (List.mem_of_getElem? (i := 9) rfl)
theorem kw_754 : (.methodLink RX10 70 ⟨"WiredBeans$Word", "ordinal", "()I"⟩ : Cond) ∈ tb := inA_31 _ (List.mem_of_getElem? (i := 10) rfl)
theorem kw_755 : (.fieldLink RX10 75 "WiredBeans$Word" "TO" "LWiredBeans$Word;" : Cond) ∈ tb := inA_31 _ (List.mem_of_getElem? (i := 11) rfl)
theorem kw_756 : (.methodLink RX10 78 yX6_nameValue : Cond) ∈ tb := inA_31 _ (List.mem_of_getElem? (i := 12) rfl)
theorem kw_757 : (.fieldLink RX10 86 "WiredBeans$Word" "NAME" "LWiredBeans$Word;" : Cond) ∈ tb := inA_31 _ (List.mem_of_getElem? (i := 13) rfl)
theorem kw_758 : (.fieldLink RX10 92 "WiredBeans$Word" "ID" "LWiredBeans$Word;" : Cond) ∈ tb := inA_31 _ (List.mem_of_getElem? (i := 14) rfl)
theorem kw_759 : (.methodLink RX10 99 yX1_begin : Cond) ∈ tb := inA_31 _ (List.mem_of_getElem? (i := 15) rfl)
theorem kw_760 : (.instanceMethod yX1_begin : Cond) ∈ tb := inA_31 _ (List.mem_of_getElem? (i := 16) rfl)
theorem kw_761 : (.selects RX1 yX1_begin yX1_begin : Cond) ∈ tb := inA_31 _ (List.mem_of_getElem? (i := 17) rfl)
theorem kw_762 : (.methodLink RX1 32 yJx4a65c_clear_da8c8 : Cond) ∈ tb := inA_31 _ (List.mem_of_getElem? (i := 18) rfl)
theorem kw_763 : (.instanceMethod yJx4a65c_clear_da8c8 : Cond) ∈ tb := inA_31 _ (List.mem_of_getElem? (i := 19) rfl)
theorem kw_764 : (.selects RJx4a65c yJx4a65c_clear_da8c8 yJx4a65c_clear_da8c8 : Cond) ∈ tb := inA_31 _ (List.mem_of_getElem? (i := 20) rfl)
theorem kw_765 : (.fieldLink RX1 35 "WiredBeans$Word" "ID" "LWiredBeans$Word;" : Cond) ∈ tb := inA_31 _ (List.mem_of_getElem? (i := 21) rfl)
theorem kw_766 : (.methodLink RX1 41 yX6_nameValue : Cond) ∈ tb := inA_31 _ (List.mem_of_getElem? (i := 22) rfl)
theorem kw_767 : (.fieldLink RX1 51 "WiredBeans$Word" "PARENT" "LWiredBeans$Word;" : Cond) ∈ tb := inA_31 _ (List.mem_of_getElem? (i := 23) rfl)
theorem kw_768 : (.fieldLink RX1 57 "WiredBeans$Word" "DEPENDS" "LWiredBeans$Word;" : Cond) ∈ tb := inA_32 _ (List.mem_of_getElem? (i := 0) rfl)
theorem kw_769 : (.fieldLink RX1 63 "WiredBeans$Word" "ABSTRACT" "LWiredBeans$Word;" : Cond) ∈ tb := inA_32 _ (List.mem_of_getElem? (i := 1) rfl)
theorem kw_770 : (.fieldLink RX1 66 "WiredBeans$Word" "YES" "LWiredBeans$Word;" : Cond) ∈ tb := inA_32 _ (List.mem_of_getElem? (i := 2) rfl)
theorem kw_771 : (.methodLink RX1 69 yX6_valueIs : Cond) ∈ tb := inA_32 _ (List.mem_of_getElem? (i := 3) rfl)
theorem kw_772 : (.fieldLink RX1 77 "WiredBeans$Word" "SCOPE" "LWiredBeans$Word;" : Cond) ∈ tb := inA_32 _ (List.mem_of_getElem? (i := 4) rfl)
theorem kw_773 : (.fieldLink RX1 80 "WiredBeans$Word" "MANY" "LWiredBeans$Word;" : Cond) ∈ tb := inA_32 _ (List.mem_of_getElem? (i := 5) rfl)
theorem kw_774 : (.fieldLink RX1 86 "WiredBeans$Word" "LAZY" "LWiredBeans$Word;" : Cond) ∈ tb := inA_32 _ (List.mem_of_getElem? (i := 6) rfl)
theorem kw_775 : (.fieldLink RX10 103 "WiredBeans$Word" "AT" "LWiredBeans$Word;" : Cond) ∈ tb := inA_32 _ (List.mem_of_getElem? (i := 7) rfl)
theorem kw_776 : (.methodLink RX10 106 yX6_placeValue : Cond) ∈ tb := inA_32 _ (List.mem_of_getElem? (i := 8) rfl)
theorem kw_777 : (.fieldLink RX10 113 "WiredBeans$Word" "TYPE" "LWiredBeans$Word;" : Cond) ∈ tb := inA_32 _ (List.mem_of_getElem? (i := 9) rfl)
theorem kw_778 : (.methodLink RX10 116 yX6_typeValue : Cond) ∈ tb := inA_32 _ (List.mem_of_getElem? (i := 10) rfl)
theorem kw_779 : (.methodLink RX10 122 yX10_settleContent : Cond) ∈ tb := inA_32 _ (List.mem_of_getElem? (i := 11) rfl)
theorem kw_780 : (.instanceMethod yX10_settleContent : Cond) ∈ tb := inA_32 _ (List.mem_of_getElem? (i := 12) rfl)
theorem kw_781 : (.fieldLink RX10 144 "WiredBeans$Word" "VALUE" "LWiredBeans$Word;" : Cond) ∈ tb := inA_32 _ (List.mem_of_getElem? (i := 13) rfl)
theorem kw_782 : (.methodLink RX10 147 yX6_has : Cond) ∈ tb := inA_32 _ (List.mem_of_getElem? (i := 14) rfl)
theorem kw_783 : (.methodLink RX10 151 yX6_valueToText : Cond) ∈ tb := inA_32 _ (List.mem_of_getElem? (i := 15) rfl)
theorem kw_784 : (.instanceMethod yX6_valueToText : Cond) ∈ tb := inA_32 _ (List.mem_of_getElem? (i := 16) rfl)
theorem kw_785 : (.selects RX6 yX6_valueToText yX6_valueToText : Cond) ∈ tb := inA_32 _ (List.mem_of_getElem? (i := 17) rfl)
theorem kw_786 : (.methodLink RX10 134 yX3_weighText : Cond) ∈ tb := inA_32 _ (List.mem_of_getElem? (i := 18) rfl)
theorem kw_787 : (.instanceMethod yX3_weighText : Cond) ∈ tb := inA_32 _ (List.mem_of_getElem? (i := 19) rfl)
theorem kw_788 : (.selects RX3 yX3_weighText yX3_weighText : Cond) ∈ tb := inA_32 _ (List.mem_of_getElem? (i := 20) rfl)
theorem kw_789 : (.methodLink RX3 91 yX3_textAsNumber : Cond) ∈ tb := inA_32 _ (List.mem_of_getElem? (i := 21) rfl)
theorem kw_790 : (.instanceMethod yX3_textAsNumber : Cond) ∈ tb := inA_32 _ (List.mem_of_getElem? (i := 22) rfl)
theorem kw_791 : (.constantLong RX3 113 (10) : Cond) ∈ tb := inA_32 _ (List.mem_of_getElem? (i := 23) rfl)
theorem kw_792 : (.methodLink RX3 97 yX3_textIs : Cond) ∈ tb := inA_33 _ (List.mem_of_getElem? (i := 0) rfl)
theorem kw_793 : (.instanceMethod yX3_textIs : Cond) ∈ tb := inA_33 _ (List.mem_of_getElem? (i := 1) rfl)
theorem kw_794 : (.methodLink RX3 103 yJ0_length_8abf5 : Cond) ∈ tb := inA_33 _ (List.mem_of_getElem? (i := 2) rfl)
theorem kw_795 : (.methodLink RX3 109 yJ0_charAt_5068e : Cond) ∈ tb := inA_33 _ (List.mem_of_getElem? (i := 3) rfl)
theorem kw_796 : (.fieldLink RX10 155 "WiredBeans$Word" "REF" "LWiredBeans$Word;" : Cond) ∈ tb := inA_33 _ (List.mem_of_getElem? (i := 4) rfl)
theorem kw_797 : (.methodLink RX10 125 yX6_letterValue : Cond) ∈ tb := inA_33 _ (List.mem_of_getElem? (i := 5) rfl)
theorem kw_798 : (.fieldLink RX10 131 "WiredBeans$Word" "BEAN" "LWiredBeans$Word;" : Cond) ∈ tb := inA_33 _ (List.mem_of_getElem? (i := 6) rfl)
theorem kw_799 : (.methodLink RX10 44 yX10_isRight : Cond) ∈ tb := inA_33 _ (List.mem_of_getElem? (i := 7) rfl)
theorem kw_800 : (.instanceMethod yX10_isRight : Cond) ∈ tb := inA_33 _ (List.mem_of_getElem? (i := 8) rfl)
theorem kw_801 : (.methodLink RX10 158 yX10_hasRightParent : Cond) ∈ tb := inA_33 _ (List.mem_of_getElem? (i := 9) rfl)
theorem kw_802 : (.instanceMethod yX10_hasRightParent : Cond) ∈ tb := inA_33 _ (List.mem_of_getElem? (i := 10) rfl)
theorem kw_803 : (.methodLink RX10 165 yX10_withId : Cond) ∈ tb := inA_33 _ (List.mem_of_getElem? (i := 11) rfl)
theorem kw_804 : (.instanceMethod yX10_withId : Cond) ∈ tb := inA_33 _ (List.mem_of_getElem? (i := 12) rfl)
theorem kw_805 : (.methodLink RX10 169 yX10_comesToItself : Cond) ∈ tb := inA_33 _ (List.mem_of_getElem? (i := 13) rfl)
theorem kw_806 : (.instanceMethod yX10_comesToItself : Cond) ∈ tb := inA_33 _ (List.mem_of_getElem? (i := 14) rfl)
theorem kw_807 : (.methodLink RX10 53 yX10_merge : Cond) ∈ tb := inA_33 _ (List.mem_of_getElem? (i := 15) rfl)
theorem kw_808 : (.instanceMethod yX10_merge : Cond) ∈ tb := inA_33 _ (List.mem_of_getElem? (i := 16) rfl)
theorem kw_809 : (.methodLink RX10 174 yX1_overlay : Cond) ∈ tb := inA_33 _ (List.mem_of_getElem? (i := 17) rfl)
theorem kw_810 : (.instanceMethod yX1_overlay : Cond) ∈ tb := inA_33 _ (List.mem_of_getElem? (i := 18) rfl)
theorem kw_811 : (.selects RX1 yX1_overlay yX1_overlay : Cond) ∈ tb := inA_33 _ (List.mem_of_getElem? (i := 19) rfl)
theorem kw_812 : (.fieldLink RX1 116 "WiredBeans$Word" "FACTORY" "LWiredBeans$Word;" : Cond) ∈ tb := inA_33 _ (List.mem_of_getElem? (i := 20) rfl)
theorem kw_813 : (.methodLink RX1 119 yX6_has : Cond) ∈ tb := inA_33 _ (List.mem_of_getElem? (i := 21) rfl)
theorem kw_814 : (.fieldLink RX1 123 "WiredBeans$Word" "CLASS" "LWiredBeans$Word;" : Cond) ∈ tb := inA_33 _ (List.mem_of_getElem? (i := 22) rfl)
theorem kw_815 : (.methodLink RX1 126 yX6_classValue : Cond) ∈ tb := inA_33 _ (List.mem_of_getElem? (i := 23) rfl)
theorem kw_816 : (.fieldLink RX1 130 "WiredBeans$Word" "METHOD" "LWiredBeans$Word;" : Cond) ∈ tb := inA_34 _ (List.mem_of_getElem? (i := 0) rfl)
theorem kw_817 : (.methodLink RX1 133 yX6_letterValue : Cond) ∈ tb := inA_34 _ (List.mem_of_getElem? (i := 1) rfl)
theorem kw_818 : (.fieldLink RX1 136 "WiredBeans$Word" "INIT" "LWiredBeans$Word;" : Cond) ∈ tb := inA_34 _ (List.mem_of_getElem? (i := 2) rfl)
theorem kw_819 : (.fieldLink RX1 139 "WiredBeans$Word" "DESTROY" "LWiredBeans$Word;" : Cond) ∈ tb := inA_34 _ (List.mem_of_getElem? (i := 3) rfl)
theorem kw_820 : (.methodLink RX1 142 yX1_overlayInner : Cond) ∈ tb := inA_34 _ (List.mem_of_getElem? (i := 4) rfl)
theorem kw_821 : (.instanceMethod yX1_overlayInner : Cond) ∈ tb := inA_34 _ (List.mem_of_getElem? (i := 5) rfl)
theorem kw_822 : (.fieldLink RX1 154 "WiredBeans$Word" "ARG" "LWiredBeans$Word;" : Cond) ∈ tb := inA_34 _ (List.mem_of_getElem? (i := 6) rfl)
theorem kw_823 : (.methodLink RX1 157 yJx4a65c_add_9ea2d : Cond) ∈ tb := inA_34 _ (List.mem_of_getElem? (i := 7) rfl)
theorem kw_824 : (.instanceMethod yJx4a65c_add_9ea2d : Cond) ∈ tb := inA_34 _ (List.mem_of_getElem? (i := 8) rfl)
theorem kw_825 : (.selects RJx4a65c yJx4a65c_add_9ea2d yJx4a65c_add_9ea2d : Cond) ∈ tb := inA_34 _ (List.mem_of_getElem? (i := 9) rfl)
theorem kw_826 : (.methodLink RJx4a65c 131 yJx4a65c_add_72be8 : Cond) ∈ tb := inA_34 _ (List.mem_of_getElem? (i := 10) rfl)
theorem kw_827 : (.instanceMethod yJx4a65c_add_72be8 : Cond) ∈ tb := inA_34 _ (List.mem_of_getElem? (i := 11) rfl)
theorem kw_828 : (.methodLink RJx4a65c 129 yJx4a65c_grow_d5877 : Cond) ∈ tb := inA_34 _ (List.mem_of_getElem? (i := 12) rfl)
theorem kw_829 : (.instanceMethod yJx4a65c_grow_d5877 : Cond) ∈ tb := inA_34 _ (List.mem_of_getElem? (i := 13) rfl)
theorem kw_830 : (.methodLink RJx4a65c 69 yJx4a65c_grow_92f84 : Cond) ∈ tb := inA_34 _ (List.mem_of_getElem? (i := 14) rfl)
theorem kw_831 : (.instanceMethod yJx4a65c_grow_92f84 : Cond) ∈ tb := inA_34 _ (List.mem_of_getElem? (i := 15) rfl)
theorem kw_832 : (.methodLink RJx4a65c 73 yJ8_newLength_cabcc : Cond) ∈ tb := inA_34 _ (List.mem_of_getElem? (i := 16) rfl)
theorem kw_833 : (.static yJ8_newLength_cabcc : Cond) ∈ tb := inA_34 _ (List.mem_of_getElem? (i := 17) rfl)
theorem kw_834 : (.methodLink RJ8 194 Lib.Math.max.name : Cond) ∈ tb := inA_34 _ (List.mem_of_getElem? (i := 18) rfl)
theorem kw_835 : (.static Lib.Math.max.name : Cond) ∈ tb := inA_34 _ (List.mem_of_getElem? (i := 19) rfl)
theorem kw_836 : (.constant RJ8 200 (2147483639) : Cond) ∈ tb := inA_34 _ (List.mem_of_getElem? (i := 20) rfl)
theorem kw_839 : (.methodLink RJx4a65c 66 yJ7_copyOf_1904c : Cond) ∈ tb := inA_34 _ (List.mem_of_getElem? (i := 23) rfl)
theorem kw_840 : (.static yJ7_copyOf_1904c : Cond) ∈ tb := inA_35 _ (List.mem_of_getElem? (i := 0) rfl)
theorem kw_841 : (.methodLink RJ7 86 ⟨"java/lang/Object", "getClass", "()Ljava/lang/Class;"⟩ : Cond) ∈ tb := inA_35 _ (List.mem_of_getElem? (i := 1) rfl)
theorem kw_842 : (.instanceMethod ⟨"java/lang/Object", "getClass", "()Ljava/lang/Class;"⟩ : Cond) ∈ tb := inA_35 _ (List.mem_of_getElem? (i := 2) rfl)
theorem kw_843 : (.native ⟨"java/lang/Object", "getClass", "()Ljava/lang/Class;"⟩ : Cond) ∈ tb := inA_35 _ (List.mem_of_getElem? (i := 3) rfl)
theorem kw_844 : (.methodLink RJ7 300 yJ7_copyOf_6403c : Cond) ∈ tb := inA_35 _ (List.mem_of_getElem? (i := 4) rfl)
theorem kw_845 : (.static yJ7_copyOf_6403c : Cond) ∈ tb := inA_35 _ (List.mem_of_getElem? (i := 5) rfl)
theorem kw_846 : (.classLink RJ7 110 "[Ljava/lang/Object;" : Cond) ∈ tb := inA_35 _ (List.mem_of_getElem? (i := 6) rfl)
theorem kw_847 : (.classLink RJ7 2 "java/lang/Object" : Cond) ∈ tb := inA_35 _ (List.mem_of_getElem? (i := 7) rfl)
theorem kw_848 : (.methodLink RJ7 304 Lib.Math.min.name : Cond) ∈ tb := inA_35 _ (List.mem_of_getElem? (i := 8) rfl)
theorem kw_849 : (.static Lib.Math.min.name : Cond) ∈ tb := inA_35 _ (List.mem_of_getElem? (i := 9) rfl)
theorem kw_850 : (.methodLink RJ7 150 arraycopyName : Cond) ∈ tb := inA_35 _ (List.mem_of_getElem? (i := 10) rfl)
theorem kw_851 : (.static arraycopyName : Cond) ∈ tb := inA_35 _ (List.mem_of_getElem? (i := 11) rfl)
theorem kw_852 : (.native arraycopyName : Cond) ∈ tb := inA_35 _ (List.mem_of_getElem? (i := 12) rfl)
theorem kw_853 : (.methodLink RJx4a65c 79 Lib.Math.max.name : Cond) ∈ tb := inA_35 _ (List.mem_of_getElem? (i := 13) rfl)
theorem kw_854 : (.classLink RJx4a65c 7 "java/lang/Object" : Cond) ∈ tb := inA_35 _ (List.mem_of_getElem? (i := 14) rfl)
theorem kw_855 : (.fieldLink RX1 161 "WiredBeans$Word" "SET" "LWiredBeans$Word;" : Cond) ∈ tb := inA_35 _ (List.mem_of_getElem? (i := 15) rfl)
theorem kw_856 : (.methodLink RX1 164 yX1_putNamed : Cond) ∈ tb := inA_35 _ (List.mem_of_getElem? (i := 16) rfl)
theorem kw_857 : (.static yX1_putNamed : Cond) ∈ tb := inA_35 _ (List.mem_of_getElem? (i := 17) rfl)
theorem kw_858 : (.methodLink RX1 175 yJx4a65c_get_915e3 : Cond) ∈ tb := inA_35 _ (List.mem_of_getElem? (i := 18) rfl)
theorem kw_859 : (.instanceMethod yJx4a65c_get_915e3 : Cond) ∈ tb := inA_35 _ (List.mem_of_getElem? (i := 19) rfl)
theorem kw_860 : (.selects RJx4a65c yJx4a65c_get_915e3 yJx4a65c_get_915e3 : Cond) ∈ tb := inA_35 _ (List.mem_of_getElem? (i := 20) rfl)
theorem kw_861 : (.methodLink RJx4a65c 118 yJ15_checkIndex_7cf53 : Cond) ∈ tb := inA_35 _ (List.mem_of_getElem? (i := 21) rfl)
theorem kw_862 : (.static yJ15_checkIndex_7cf53 : Cond) ∈ tb := inA_35 _ (List.mem_of_getElem? (i := 22) rfl)
theorem kw_863 : (.methodLink RJ15 105 yJ3_checkIndex_8e157 : Cond) ∈ tb := inA_35 _ (List.mem_of_getElem? (i := 23) rfl)
theorem kw_864 : (.methodLink RJx4a65c 123 yJx4a65c_elementData_915e3 : Cond) ∈ tb := inA_36 _ (List.mem_of_getElem? (i := 0) rfl)
theorem kw_865 : (.instanceMethod yJx4a65c_elementData_915e3 : Cond) ∈ tb := inA_36 _ (List.mem_of_getElem? (i := 1) rfl)
theorem kw_866 : (.selects RJx4a65c yJx4a65c_elementData_915e3 yJx4a65c_elementData_915e3 : Cond) ∈ tb := inA_36 _ (List.mem_of_getElem? (i := 2) rfl)
theorem kw_867 : (.classLink RX1 147 "WiredBeans$Element" : Cond) ∈ tb := inA_36 _ (List.mem_of_getElem? (i := 3) rfl)
theorem kw_868 : (.methodLink RX1 182 yJx4a65c_set_bcc79 : Cond) ∈ tb := inA_36 _ (List.mem_of_getElem? (i := 4) rfl)
theorem kw_869 : (.instanceMethod yJx4a65c_set_bcc79 : Cond) ∈ tb := inA_36 _ (List.mem_of_getElem? (i := 5) rfl)
theorem kw_870 : (.selects RJx4a65c yJx4a65c_set_bcc79 yJx4a65c_set_bcc79 : Cond) ∈ tb := inA_36 _ (List.mem_of_getElem? (i := 6) rfl)
theorem kw_871 : (.methodLink RX12 126 yX10_forgetBeans : Cond) ∈ tb := inA_36 _ (List.mem_of_getElem? (i := 7) rfl)
theorem kw_872 : (.instanceMethod yX10_forgetBeans : Cond) ∈ tb := inA_36 _ (List.mem_of_getElem? (i := 8) rfl)
theorem kw_873 : (.selects RX10 yX10_forgetBeans yX10_forgetBeans : Cond) ∈ tb := inA_36 _ (List.mem_of_getElem? (i := 9) rfl)
theorem kw_874 : (.classLink RX12 129 "java/lang/IllegalArgumentException" : Cond) ∈ tb := inA_36 _ (List.mem_of_getElem? (i := 10) rfl)
theorem kw_875 : (.arrayClass .byte : Cond) ∈ tb := inA_36 _ (List.mem_of_getElem? (i := 11) rfl)
theorem kw_876 : (.methodLink RL 72 yL_refresh : Cond) ∈ tb := inA_36 _ (List.mem_of_getElem? (i := 12) rfl)
theorem kw_877 : (.static yL_refresh : Cond) ∈ tb := inA_36 _ (List.mem_of_getElem? (i := 13) rfl)
theorem kw_878 : (.classLink RL 18 "java/lang/IllegalStateException" : Cond) ∈ tb := inA_36 _ (List.mem_of_getElem? (i := 14) rfl)
theorem kw_879 : (.classLink RL 20 "java/lang/UnsupportedOperationException" : Cond) ∈ tb := inA_36 _ (List.mem_of_getElem? (i := 15) rfl)
theorem kw_880 : (.methodLink RL 15 yX12_refresh : Cond) ∈ tb := inA_36 _ (List.mem_of_getElem? (i := 16) rfl)
theorem kw_881 : (.instanceMethod yX12_refresh : Cond) ∈ tb := inA_36 _ (List.mem_of_getElem? (i := 17) rfl)
theorem kw_882 : (.selects RX12 yX12_refresh yX12_refresh : Cond) ∈ tb := inA_36 _ (List.mem_of_getElem? (i := 18) rfl)
theorem kw_883 : (.methodLink RX12 141 yX5_forgetFailure : Cond) ∈ tb := inA_36 _ (List.mem_of_getElem? (i := 19) rfl)
theorem kw_884 : (.instanceMethod yX5_forgetFailure : Cond) ∈ tb := inA_36 _ (List.mem_of_getElem? (i := 20) rfl)
theorem kw_885 : (.selects RX5 yX5_forgetFailure yX5_forgetFailure : Cond) ∈ tb := inA_36 _ (List.mem_of_getElem? (i := 21) rfl)
theorem kw_886 : (.classLink RX12 144 "java/lang/IllegalStateException" : Cond) ∈ tb := inA_36 _ (List.mem_of_getElem? (i := 22) rfl)
theorem kw_887 : (.methodLink RX12 147 yX5_renewsAll : Cond) ∈ tb := inA_36 _ (List.mem_of_getElem? (i := 23) rfl)
theorem kw_888 : (.instanceMethod yX5_renewsAll : Cond) ∈ tb := inA_37 _ (List.mem_of_getElem? (i := 0) rfl)
theorem kw_889 : (.selects RX5 yX5_renewsAll yX5_renewsAll : Cond) ∈ tb := inA_37 _ (List.mem_of_getElem? (i := 1) rfl)
theorem kw_890 : (.classLink RX5 103 "java/lang/UnsupportedOperationException" : Cond) ∈ tb := inA_37 _ (List.mem_of_getElem? (i := 2) rfl)
theorem kw_891 : (.methodLink RX5 99 yX5_obtain : Cond) ∈ tb := inA_37 _ (List.mem_of_getElem? (i := 3) rfl)
theorem kw_892 : (.instanceMethod yX5_obtain : Cond) ∈ tb := inA_37 _ (List.mem_of_getElem? (i := 4) rfl)
theorem kw_893 : (.methodLink RX5 135 yX10_called : Cond) ∈ tb := inA_37 _ (List.mem_of_getElem? (i := 5) rfl)
theorem kw_894 : (.instanceMethod yX10_called : Cond) ∈ tb := inA_37 _ (List.mem_of_getElem? (i := 6) rfl)
theorem kw_895 : (.selects RX10 yX10_called yX10_called : Cond) ∈ tb := inA_37 _ (List.mem_of_getElem? (i := 7) rfl)
theorem kw_896 : (.methodLink RX10 180 yX10_nameBehindAlias : Cond) ∈ tb := inA_37 _ (List.mem_of_getElem? (i := 8) rfl)
theorem kw_897 : (.instanceMethod yX10_nameBehindAlias : Cond) ∈ tb := inA_37 _ (List.mem_of_getElem? (i := 9) rfl)
theorem kw_898 : (.fieldLink RX10 184 "WiredBeans$Word" "ALIAS" "LWiredBeans$Word;" : Cond) ∈ tb := inA_37 _ (List.mem_of_getElem? (i := 10) rfl)
theorem kw_899 : (.methodLink RX5 139 yX5_failWith : Cond) ∈ tb := inA_37 _ (List.mem_of_getElem? (i := 11) rfl)
theorem kw_900 : (.instanceMethod yX5_failWith : Cond) ∈ tb := inA_37 _ (List.mem_of_getElem? (i := 12) rfl)
theorem kw_901 : (.methodLink RX5 143 yX5_make : Cond) ∈ tb := inA_37 _ (List.mem_of_getElem? (i := 13) rfl)
theorem kw_902 : (.instanceMethod yX5_make : Cond) ∈ tb := inA_37 _ (List.mem_of_getElem? (i := 14) rfl)
theorem kw_903 : (.methodLink RX5 156 yX5_workOutArgs : Cond) ∈ tb := inA_37 _ (List.mem_of_getElem? (i := 15) rfl)
theorem kw_904 : (.instanceMethod yX5_workOutArgs : Cond) ∈ tb := inA_37 _ (List.mem_of_getElem? (i := 16) rfl)
theorem kw_905 : (.methodLink RX5 182 yJx4a65c_size_8abf5 : Cond) ∈ tb := inA_37 _ (List.mem_of_getElem? (i := 17) rfl)
theorem kw_906 : (.methodLink RX5 187 yJx4a65c_get_915e3 : Cond) ∈ tb := inA_37 _ (List.mem_of_getElem? (i := 18) rfl)
theorem kw_907 : (.classLink RX5 191 "WiredBeans$Element" : Cond) ∈ tb := inA_37 _ (List.mem_of_getElem? (i := 19) rfl)
theorem kw_908 : (.methodLink RX5 197 yX5_slot : Cond) ∈ tb := inA_37 _ (List.mem_of_getElem? (i := 20) rfl)
theorem kw_909 : (.static yX5_slot : Cond) ∈ tb := inA_37 _ (List.mem_of_getElem? (i := 21) rfl)
theorem kw_910 : (.methodLink RX5 201 yX5_workOut : Cond) ∈ tb := inA_37 _ (List.mem_of_getElem? (i := 22) rfl)
theorem kw_911 : (.instanceMethod yX5_workOut : Cond) ∈ tb := inA_37 _ (List.mem_of_getElem? (i := 23) rfl)
theorem kw_912 : (.fieldLink RX5 209 "WiredBeans$Word" "LIST" "LWiredBeans$Word;" : Cond) ∈ tb := inA_38 _ (List.mem_of_getElem? (i := 0) rfl)
theorem kw_913 : (.methodLink RX5 217 yX5_itemValue : Cond) ∈ tb := inA_38 _ (List.mem_of_getElem? (i := 1) rfl)
theorem kw_914 : (.instanceMethod yX5_itemValue : Cond) ∈ tb := inA_38 _ (List.mem_of_getElem? (i := 2) rfl)
theorem kw_915 : (.fieldLink RX5 233 "WiredBeans$Word" "VALUE" "LWiredBeans$Word;" : Cond) ∈ tb := inA_38 _ (List.mem_of_getElem? (i := 3) rfl)
theorem kw_916 : (.fieldLink RX5 239 "WiredBeans$Word" "NULL" "LWiredBeans$Word;" : Cond) ∈ tb := inA_38 _ (List.mem_of_getElem? (i := 4) rfl)
theorem kw_917 : (.methodLink RX5 230 yX5_objectOf : Cond) ∈ tb := inA_38 _ (List.mem_of_getElem? (i := 5) rfl)
theorem kw_918 : (.instanceMethod yX5_objectOf : Cond) ∈ tb := inA_38 _ (List.mem_of_getElem? (i := 6) rfl)
theorem kw_919 : (.fieldLink RX5 224 "WiredBeans$Word" "REF" "LWiredBeans$Word;" : Cond) ∈ tb := inA_38 _ (List.mem_of_getElem? (i := 7) rfl)
theorem kw_920 : (.fieldLink RX5 227 "WiredBeans$Word" "BEAN" "LWiredBeans$Word;" : Cond) ∈ tb := inA_38 _ (List.mem_of_getElem? (i := 8) rfl)
theorem kw_921 : (.methodLink RX5 160 yX5_chooseFor : Cond) ∈ tb := inA_38 _ (List.mem_of_getElem? (i := 9) rfl)
theorem kw_922 : (.instanceMethod yX5_chooseFor : Cond) ∈ tb := inA_38 _ (List.mem_of_getElem? (i := 10) rfl)
theorem kw_923 : (.methodLink RX5 260 yX2_withFactory : Cond) ∈ tb := inA_38 _ (List.mem_of_getElem? (i := 11) rfl)
theorem kw_924 : (.instanceMethod yX2_withFactory : Cond) ∈ tb := inA_38 _ (List.mem_of_getElem? (i := 12) rfl)
theorem kw_925 : (.selects RX2 yX2_withFactory yX2_withFactory : Cond) ∈ tb := inA_38 _ (List.mem_of_getElem? (i := 13) rfl)
theorem kw_926 : (.methodLink RX2 52 yX2_ownsFactory : Cond) ∈ tb := inA_38 _ (List.mem_of_getElem? (i := 14) rfl)
theorem kw_927 : (.instanceMethod yX2_ownsFactory : Cond) ∈ tb := inA_38 _ (List.mem_of_getElem? (i := 15) rfl)
theorem kw_928 : (.methodLink RX2 56 yX8_isCalled : Cond) ∈ tb := inA_38 _ (List.mem_of_getElem? (i := 16) rfl)
theorem kw_929 : (.instanceMethod yX8_isCalled : Cond) ∈ tb := inA_38 _ (List.mem_of_getElem? (i := 17) rfl)
theorem kw_930 : (.selects RX8 yX8_isCalled yX8_isCalled : Cond) ∈ tb := inA_38 _ (List.mem_of_getElem? (i := 18) rfl)
theorem kw_931 : (.methodLink RX5 270 yX5_placesArgs : Cond) ∈ tb := inA_38 _ (List.mem_of_getElem? (i := 19) rfl)
theorem kw_932 : (.instanceMethod yX5_placesArgs : Cond) ∈ tb := inA_38 _ (List.mem_of_getElem? (i := 20) rfl)
theorem kw_933 : (.methodLink RX5 287 yX5_placeOthers : Cond) ∈ tb := inA_38 _ (List.mem_of_getElem? (i := 21) rfl)
theorem kw_934 : (.instanceMethod yX5_placeOthers : Cond) ∈ tb := inA_38 _ (List.mem_of_getElem? (i := 22) rfl)
theorem kw_935 : (.methodLink RX5 274 yX8_isCalled : Cond) ∈ tb := inA_38 _ (List.mem_of_getElem? (i := 23) rfl)
theorem kw_936 : (.methodLink RX5 280 yX5_sumFor : Cond) ∈ tb := inA_39 _ (List.mem_of_getElem? (i := 0) rfl)
theorem kw_937 : (.instanceMethod yX5_sumFor : Cond) ∈ tb := inA_39 _ (List.mem_of_getElem? (i := 1) rfl)
theorem kw_938 : (.methodLink RX5 298 yX5_weightOf : Cond) ∈ tb := inA_39 _ (List.mem_of_getElem? (i := 2) rfl)
theorem kw_939 : (.instanceMethod yX5_weightOf : Cond) ∈ tb := inA_39 _ (List.mem_of_getElem? (i := 3) rfl)
theorem kw_940 : (.fieldLink RX5 302 "WiredBeans$1" "$SwitchMap$WiredBeans$Word" "[I" : Cond) ∈ tb := inA_39 _ (List.mem_of_getElem? (i := 4) rfl)
theorem kw_941 : (.methodLink RX5 307 ⟨"WiredBeans$Word", "ordinal", "()I"⟩ : Cond) ∈ tb := inA_39 _ (List.mem_of_getElem? (i := 5) rfl)
theorem kw_942 : (.methodLink RX5 310 yX5_textWeight : Cond) ∈ tb := inA_39 _ (List.mem_of_getElem? (i := 6) rfl)
theorem kw_943 : (.static yX5_textWeight : Cond) ∈ tb := inA_39 _ (List.mem_of_getElem? (i := 7) rfl)
theorem kw_944 : (.constantLong RX5 318 (1099511627776) : Cond) ∈ tb := inA_39 _ (List.mem_of_getElem? (i := 8) rfl)
theorem kw_945 : (.methodLink RX5 313 yX5_objectWeight : Cond) ∈ tb := inA_39 _ (List.mem_of_getElem? (i := 9) rfl)
theorem kw_946 : (.instanceMethod yX5_objectWeight : Cond) ∈ tb := inA_39 _ (List.mem_of_getElem? (i := 10) rfl)
theorem kw_947 : (.methodLink RX5 323 yX2_stepsTo : Cond) ∈ tb := inA_39 _ (List.mem_of_getElem? (i := 11) rfl)
theorem kw_948 : (.instanceMethod yX2_stepsTo : Cond) ∈ tb := inA_39 _ (List.mem_of_getElem? (i := 12) rfl)
theorem kw_949 : (.selects RX2 yX2_stepsTo yX2_stepsTo : Cond) ∈ tb := inA_39 _ (List.mem_of_getElem? (i := 13) rfl)
theorem kw_950 : (.methodLink RX5 164 yX5_bringToBe : Cond) ∈ tb := inA_39 _ (List.mem_of_getElem? (i := 14) rfl)
theorem kw_951 : (.instanceMethod yX5_bringToBe : Cond) ∈ tb := inA_39 _ (List.mem_of_getElem? (i := 15) rfl)
theorem kw_952 : (.methodLink RX5 336 yX5_tellValue : Cond) ∈ tb := inA_39 _ (List.mem_of_getElem? (i := 16) rfl)
theorem kw_953 : (.instanceMethod yX5_tellValue : Cond) ∈ tb := inA_39 _ (List.mem_of_getElem? (i := 17) rfl)
theorem kw_954 : (.methodLink RX5 349 yX5_valueOf : Cond) ∈ tb := inA_39 _ (List.mem_of_getElem? (i := 18) rfl)
theorem kw_955 : (.instanceMethod yX5_valueOf : Cond) ∈ tb := inA_39 _ (List.mem_of_getElem? (i := 19) rfl)
theorem kw_956 : (.methodLink RX5 355 yX5_textValue : Cond) ∈ tb := inA_39 _ (List.mem_of_getElem? (i := 20) rfl)
theorem kw_957 : (.static yX5_textValue : Cond) ∈ tb := inA_39 _ (List.mem_of_getElem? (i := 21) rfl)
theorem kw_958 : (.methodLink RX5 168 yX5_applySets : Cond) ∈ tb := inA_39 _ (List.mem_of_getElem? (i := 22) rfl)
theorem kw_959 : (.instanceMethod yX5_applySets : Cond) ∈ tb := inA_39 _ (List.mem_of_getElem? (i := 23) rfl)
theorem kw_960 : (.methodLink RX5 346 yX2_setterType : Cond) ∈ tb := inA_40 _ (List.mem_of_getElem? (i := 0) rfl)
theorem kw_961 : (.instanceMethod yX2_setterType : Cond) ∈ tb := inA_40 _ (List.mem_of_getElem? (i := 1) rfl)
theorem kw_962 : (.selects RX2 yX2_setterType yX2_setterType : Cond) ∈ tb := inA_40 _ (List.mem_of_getElem? (i := 2) rfl)
theorem kw_963 : (.methodLink RX5 174 yX5_finish : Cond) ∈ tb := inA_40 _ (List.mem_of_getElem? (i := 3) rfl)
theorem kw_964 : (.instanceMethod yX5_finish : Cond) ∈ tb := inA_40 _ (List.mem_of_getElem? (i := 4) rfl)
theorem kw_965 : (.methodLink RX5 105 yX5_stopMaking : Cond) ∈ tb := inA_40 _ (List.mem_of_getElem? (i := 5) rfl)
theorem kw_966 : (.instanceMethod yX5_stopMaking : Cond) ∈ tb := inA_40 _ (List.mem_of_getElem? (i := 6) rfl)
theorem kw_967 : (.methodLink RX5 121 yX5_destroyAll : Cond) ∈ tb := inA_40 _ (List.mem_of_getElem? (i := 7) rfl)
theorem kw_968 : (.classLink RX12 151 "java/lang/UnsupportedOperationException" : Cond) ∈ tb := inA_40 _ (List.mem_of_getElem? (i := 8) rfl)
theorem kw_969 : (.methodLink RX12 154 yX5_objectCount : Cond) ∈ tb := inA_40 _ (List.mem_of_getElem? (i := 9) rfl)
theorem kw_970 : (.instanceMethod yX5_objectCount : Cond) ∈ tb := inA_40 _ (List.mem_of_getElem? (i := 10) rfl)
theorem kw_971 : (.selects RX5 yX5_objectCount yX5_objectCount : Cond) ∈ tb := inA_40 _ (List.mem_of_getElem? (i := 11) rfl)
theorem kw_972 : (.methodLink RL 77 yL_get : Cond) ∈ tb := inA_40 _ (List.mem_of_getElem? (i := 12) rfl)
theorem kw_973 : (.static yL_get : Cond) ∈ tb := inA_40 _ (List.mem_of_getElem? (i := 13) rfl)
theorem kw_974 : (.methodLink RL 22 yX12_get : Cond) ∈ tb := inA_40 _ (List.mem_of_getElem? (i := 14) rfl)
theorem kw_975 : (.instanceMethod yX12_get : Cond) ∈ tb := inA_40 _ (List.mem_of_getElem? (i := 15) rfl)
theorem kw_976 : (.selects RX12 yX12_get yX12_get : Cond) ∈ tb := inA_40 _ (List.mem_of_getElem? (i := 16) rfl)
theorem kw_977 : (.methodLink RX12 157 yX12_withoutZeros : Cond) ∈ tb := inA_40 _ (List.mem_of_getElem? (i := 17) rfl)
theorem kw_978 : (.static yX12_withoutZeros : Cond) ∈ tb := inA_40 _ (List.mem_of_getElem? (i := 18) rfl)
theorem kw_979 : (.constantLong RX12 201 (255) : Cond) ∈ tb := inA_40 _ (List.mem_of_getElem? (i := 19) rfl)
theorem kw_980 : (.methodLink RX12 161 yX5_objectCalled : Cond) ∈ tb := inA_40 _ (List.mem_of_getElem? (i := 20) rfl)
theorem kw_981 : (.instanceMethod yX5_objectCalled : Cond) ∈ tb := inA_40 _ (List.mem_of_getElem? (i := 21) rfl)
theorem kw_982 : (.selects RX5 yX5_objectCalled yX5_objectCalled : Cond) ∈ tb := inA_40 _ (List.mem_of_getElem? (i := 22) rfl)
theorem kw_983 : (.methodLink RL 81 yL_call : Cond) ∈ tb := inA_40 _ (List.mem_of_getElem? (i := 23) rfl)
theorem kw_984 : (.static yL_call : Cond) ∈ tb := inA_41 _ (List.mem_of_getElem? (i := 0) rfl)
theorem kw_985 : (.classLink RL 30 "java/lang/IndexOutOfBoundsException" : Cond) ∈ tb := inA_41 _ (List.mem_of_getElem? (i := 1) rfl)
theorem kw_986 : (.methodLink RL 26 yX12_call : Cond) ∈ tb := inA_41 _ (List.mem_of_getElem? (i := 2) rfl)
theorem kw_987 : (.instanceMethod yX12_call : Cond) ∈ tb := inA_41 _ (List.mem_of_getElem? (i := 3) rfl)
theorem kw_988 : (.selects RX12 yX12_call yX12_call : Cond) ∈ tb := inA_41 _ (List.mem_of_getElem? (i := 4) rfl)
theorem kw_989 : (.methodLink RX12 165 yX5_lookupOf : Cond) ∈ tb := inA_41 _ (List.mem_of_getElem? (i := 5) rfl)
theorem kw_990 : (.instanceMethod yX5_lookupOf : Cond) ∈ tb := inA_41 _ (List.mem_of_getElem? (i := 6) rfl)
theorem kw_991 : (.selects RX5 yX5_lookupOf yX5_lookupOf : Cond) ∈ tb := inA_41 _ (List.mem_of_getElem? (i := 7) rfl)
theorem kw_992 : (.methodLink RX5 74 yX1_lookupNamed : Cond) ∈ tb := inA_41 _ (List.mem_of_getElem? (i := 8) rfl)
theorem kw_993 : (.instanceMethod yX1_lookupNamed : Cond) ∈ tb := inA_41 _ (List.mem_of_getElem? (i := 9) rfl)
theorem kw_994 : (.selects RX1 yX1_lookupNamed yX1_lookupNamed : Cond) ∈ tb := inA_41 _ (List.mem_of_getElem? (i := 10) rfl)
theorem kw_995 : (.classLink RX12 169 "java/lang/IndexOutOfBoundsException" : Cond) ∈ tb := inA_41 _ (List.mem_of_getElem? (i := 11) rfl)
theorem kw_996 : (.classLink RL 33 RX13 : Cond) ∈ tb := inA_41 _ (List.mem_of_getElem? (i := 12) rfl)
theorem kw_997 : (.instantiable RX13 77 : Cond) ∈ tb := inA_41 _ (List.mem_of_getElem? (i := 13) rfl)
theorem kw_998 : (.methodLink RL 35 yX13_init : Cond) ∈ tb := inA_41 _ (List.mem_of_getElem? (i := 14) rfl)
theorem kw_999 : (.instanceMethod yX13_init : Cond) ∈ tb := inA_41 _ (List.mem_of_getElem? (i := 15) rfl)
theorem kw_1000 : (.methodLink RX13 1 objectInit : Cond) ∈ tb := inA_41 _ (List.mem_of_getElem? (i := 16) rfl)
theorem kw_1001 : (.constantLong RX13 7 (422607679091) : Cond) ∈ tb := inA_41 _ (List.mem_of_getElem? (i := 17) rfl)
theorem kw_1002 : (.constantLong RX13 9 (418430673267) : Cond) ∈ tb := inA_41 _ (List.mem_of_getElem? (i := 18) rfl)
theorem kw_1003 : (.constantLong RX13 11 (1650811246) : Cond) ∈ tb := inA_41 _ (List.mem_of_getElem? (i := 19) rfl)
theorem kw_1004 : (.constantLong RX13 13 (6386279) : Cond) ∈ tb := inA_41 _ (List.mem_of_getElem? (i := 20) rfl)
theorem kw_1005 : (.constantLong RX13 15 (7562612) : Cond) ∈ tb := inA_41 _ (List.mem_of_getElem? (i := 21) rfl)
theorem kw_1006 : (.constantLong RX13 17 (1818850164) : Cond) ∈ tb := inA_41 _ (List.mem_of_getElem? (i := 22) rfl)
theorem kw_1007 : (.constantLong RX13 19 (508440638821) : Cond) ∈ tb := inA_41 _ (List.mem_of_getElem? (i := 23) rfl)
theorem kw_1008 : (.constantLong RX13 21 (7497062) : Cond) ∈ tb := inA_42 _ (List.mem_of_getElem? (i := 0) rfl)
theorem kw_1009 : (.constantLong RX13 23 (1853189228) : Cond) ∈ tb := inA_42 _ (List.mem_of_getElem? (i := 1) rfl)
theorem kw_1010 : (.constantLong RX13 25 (119225866483056) : Cond) ∈ tb := inA_42 _ (List.mem_of_getElem? (i := 2) rfl)
theorem kw_1011 : (.constantLong RX13 33 (7955827) : Cond) ∈ tb := inA_42 _ (List.mem_of_getElem? (i := 3) rfl)
theorem kw_1012 : (.constantLong RX13 35 (28271) : Cond) ∈ tb := inA_42 _ (List.mem_of_getElem? (i := 4) rfl)
theorem kw_1013 : (.constantLong RX13 37 (7302757) : Cond) ∈ tb := inA_42 _ (List.mem_of_getElem? (i := 5) rfl)
theorem kw_1014 : (.constantLong RX13 39 (1835101817) : Cond) ∈ tb := inA_42 _ (List.mem_of_getElem? (i := 6) rfl)
theorem kw_1015 : (.constantLong RX13 41 (6909556) : Cond) ∈ tb := inA_42 _ (List.mem_of_getElem? (i := 7) rfl)
theorem kw_1016 : (.constantLong RX13 43 (500136506472) : Cond) ∈ tb := inA_42 _ (List.mem_of_getElem? (i := 8) rfl)
theorem kw_1017 : (.constantLong RX13 45 (1667785074) : Cond) ∈ tb := inA_42 _ (List.mem_of_getElem? (i := 9) rfl)
theorem kw_1018 : (.constantLong RX13 47 (1952807028) : Cond) ∈ tb := inA_42 _ (List.mem_of_getElem? (i := 10) rfl)
theorem kw_1019 : (.constantLong RX13 49 (7499639) : Cond) ∈ tb := inA_42 _ (List.mem_of_getElem? (i := 11) rfl)
theorem kw_1020 : (.constantLong RX13 51 (1953658213) : Cond) ∈ tb := inA_42 _ (List.mem_of_getElem? (i := 12) rfl)
theorem kw_1021 : (.constantLong RX13 53 (439721161573) : Cond) ∈ tb := inA_42 _ (List.mem_of_getElem? (i := 13) rfl)
theorem kw_1022 : (.constantLong RX13 58 (7107643) : Cond) ∈ tb := inA_42 _ (List.mem_of_getElem? (i := 14) rfl)
theorem kw_1023 : (.constantLong RX13 60 (6779963) : Cond) ∈ tb := inA_42 _ (List.mem_of_getElem? (i := 15) rfl)
theorem kw_1024 : (.constantLong RX13 62 (1634562107) : Cond) ∈ tb := inA_42 _ (List.mem_of_getElem? (i := 16) rfl)
theorem kw_1025 : (.constantLong RX13 64 (487301542971) : Cond) ∈ tb := inA_42 _ (List.mem_of_getElem? (i := 17) rfl)
theorem kw_1026 : (.constantLong RX13 66 (418498179899) : Cond) ∈ tb := inA_42 _ (List.mem_of_getElem? (i := 18) rfl)
theorem kw_1027 : (.fieldLink RX13 27 "WiredBeansModel" "elementNames" "[J" : Cond) ∈ tb := inA_42 _ (List.mem_of_getElem? (i := 19) rfl)
theorem kw_1028 : (.fieldLink RX13 55 "WiredBeansModel" "words" "[J" : Cond) ∈ tb := inA_42 _ (List.mem_of_getElem? (i := 20) rfl)
theorem kw_1029 : (.fieldLink RX13 68 "WiredBeansModel" "entities" "[J" : Cond) ∈ tb := inA_42 _ (List.mem_of_getElem? (i := 21) rfl)
theorem kw_1030 : (.fieldLink RX13 71 "WiredBeansModel" "entityLengths" "[I" : Cond) ∈ tb := inA_42 _ (List.mem_of_getElem? (i := 22) rfl)
theorem kw_1031 : (.fieldLink RX13 75 "WiredBeansModel" "entitySigns" "[I" : Cond) ∈ tb := inA_42 _ (List.mem_of_getElem? (i := 23) rfl)
theorem kw_1032 : (.fieldLink RX13 252 "WiredBeansModel" "thrown" "I" : Cond) ∈ tb := inA_43 _ (List.mem_of_getElem? (i := 0) rfl)
theorem kw_1033 : (.fieldLink RX13 78 "WiredBeansModel" "parents" "[I" : Cond) ∈ tb := inA_43 _ (List.mem_of_getElem? (i := 1) rfl)
theorem kw_1034 : (.fieldLink RX13 81 "WiredBeansModel" "makers" "[I" : Cond) ∈ tb := inA_43 _ (List.mem_of_getElem? (i := 2) rfl)
theorem kw_1035 : (.fieldLink RX13 84 "WiredBeansModel" "makerSize" "[I" : Cond) ∈ tb := inA_43 _ (List.mem_of_getElem? (i := 3) rfl)
theorem kw_1036 : (.fieldLink RX13 87 "WiredBeansModel" "makerType" "[I" : Cond) ∈ tb := inA_43 _ (List.mem_of_getElem? (i := 4) rfl)
theorem kw_1037 : (.fieldLink RX13 90 "WiredBeansModel" "setters" "[I" : Cond) ∈ tb := inA_43 _ (List.mem_of_getElem? (i := 5) rfl)
theorem kw_1038 : (.fieldLink RX13 93 "WiredBeansModel" "setterName" "[I" : Cond) ∈ tb := inA_43 _ (List.mem_of_getElem? (i := 6) rfl)
theorem kw_1039 : (.fieldLink RX13 96 "WiredBeansModel" "setterType" "[I" : Cond) ∈ tb := inA_43 _ (List.mem_of_getElem? (i := 7) rfl)
theorem kw_1040 : (.fieldLink RX13 99 "WiredBeansModel" "factories" "[I" : Cond) ∈ tb := inA_43 _ (List.mem_of_getElem? (i := 8) rfl)
theorem kw_1041 : (.fieldLink RX13 102 "WiredBeansModel" "factoryName" "[I" : Cond) ∈ tb := inA_43 _ (List.mem_of_getElem? (i := 9) rfl)
theorem kw_1042 : (.fieldLink RX13 105 "WiredBeansModel" "factoryResult" "[I" : Cond) ∈ tb := inA_43 _ (List.mem_of_getElem? (i := 10) rfl)
theorem kw_1043 : (.fieldLink RX13 108 "WiredBeansModel" "factorySize" "[I" : Cond) ∈ tb := inA_43 _ (List.mem_of_getElem? (i := 11) rfl)
theorem kw_1044 : (.fieldLink RX13 111 "WiredBeansModel" "factoryType" "[I" : Cond) ∈ tb := inA_43 _ (List.mem_of_getElem? (i := 12) rfl)
theorem kw_1045 : (.fieldLink RX13 114 "WiredBeansModel" "factoryStatic" "[Z" : Cond) ∈ tb := inA_43 _ (List.mem_of_getElem? (i := 13) rfl)
theorem kw_1046 : (.fieldLink RX13 118 "WiredBeansModel" "text" "[B" : Cond) ∈ tb := inA_43 _ (List.mem_of_getElem? (i := 14) rfl)
theorem kw_1047 : (.fieldLink RX13 273 "WiredBeansModel" "size" "I" : Cond) ∈ tb := inA_43 _ (List.mem_of_getElem? (i := 15) rfl)
theorem kw_1048 : (.fieldLink RX13 279 "WiredBeansModel" "at" "I" : Cond) ∈ tb := inA_43 _ (List.mem_of_getElem? (i := 16) rfl)
theorem kw_1049 : (.fieldLink RX13 276 "WiredBeansModel" "fault" "I" : Cond) ∈ tb := inA_43 _ (List.mem_of_getElem? (i := 17) rfl)
theorem kw_1050 : (.fieldLink RX13 122 "WiredBeansModel" "faultPlace" "I" : Cond) ∈ tb := inA_43 _ (List.mem_of_getElem? (i := 18) rfl)
theorem kw_1051 : (.fieldLink RX13 329 "WiredBeansModel" "elements" "I" : Cond) ∈ tb := inA_43 _ (List.mem_of_getElem? (i := 19) rfl)
theorem kw_1052 : (.fieldLink RX13 323 "WiredBeansModel" "pool" "I" : Cond) ∈ tb := inA_43 _ (List.mem_of_getElem? (i := 20) rfl)
theorem kw_1053 : (.fieldLink RX13 126 "WiredBeansModel" "kinds" "[I" : Cond) ∈ tb := inA_43 _ (List.mem_of_getElem? (i := 21) rfl)
theorem kw_1054 : (.fieldLink RX13 129 "WiredBeansModel" "places" "[I" : Cond) ∈ tb := inA_43 _ (List.mem_of_getElem? (i := 22) rfl)
theorem kw_1055 : (.fieldLink RX13 132 "WiredBeansModel" "above" "[I" : Cond) ∈ tb := inA_43 _ (List.mem_of_getElem? (i := 23) rfl)
theorem kw_1056 : (.fieldLink RX13 135 "WiredBeansModel" "within" "[I" : Cond) ∈ tb := inA_44 _ (List.mem_of_getElem? (i := 0) rfl)
theorem kw_1057 : (.fieldLink RX13 138 "WiredBeansModel" "attributes" "[I" : Cond) ∈ tb := inA_44 _ (List.mem_of_getElem? (i := 1) rfl)
theorem kw_1058 : (.fieldLink RX13 141 "WiredBeansModel" "textSize" "[I" : Cond) ∈ tb := inA_44 _ (List.mem_of_getElem? (i := 2) rfl)
theorem kw_1059 : (.fieldLink RX13 144 "WiredBeansModel" "pending" "[I" : Cond) ∈ tb := inA_44 _ (List.mem_of_getElem? (i := 3) rfl)
theorem kw_1060 : (.fieldLink RX13 147 "WiredBeansModel" "textAt" "[I" : Cond) ∈ tb := inA_44 _ (List.mem_of_getElem? (i := 4) rfl)
theorem kw_1061 : (.fieldLink RX13 150 "WiredBeansModel" "names" "[J" : Cond) ∈ tb := inA_44 _ (List.mem_of_getElem? (i := 5) rfl)
theorem kw_1062 : (.fieldLink RX13 153 "WiredBeansModel" "attributeName" "[J" : Cond) ∈ tb := inA_44 _ (List.mem_of_getElem? (i := 6) rfl)
theorem kw_1063 : (.fieldLink RX13 156 "WiredBeansModel" "attributeAt" "[I" : Cond) ∈ tb := inA_44 _ (List.mem_of_getElem? (i := 7) rfl)
theorem kw_1064 : (.fieldLink RX13 159 "WiredBeansModel" "attributeSize" "[I" : Cond) ∈ tb := inA_44 _ (List.mem_of_getElem? (i := 8) rfl)
theorem kw_1065 : (.fieldLink RX13 162 "WiredBeansModel" "characters" "[B" : Cond) ∈ tb := inA_44 _ (List.mem_of_getElem? (i := 9) rfl)
theorem kw_1066 : (.fieldLink RX13 165 "WiredBeansModel" "texts" "[B" : Cond) ∈ tb := inA_44 _ (List.mem_of_getElem? (i := 10) rfl)
theorem kw_1067 : (.fieldLink RX13 477 "WiredBeansModel" "document" "Z" : Cond) ∈ tb := inA_44 _ (List.mem_of_getElem? (i := 11) rfl)
theorem kw_1068 : (.fieldLink RX13 439 "WiredBeansModel" "beans" "I" : Cond) ∈ tb := inA_44 _ (List.mem_of_getElem? (i := 12) rfl)
theorem kw_1069 : (.fieldLink RX13 168 "WiredBeansModel" "beanElement" "[I" : Cond) ∈ tb := inA_44 _ (List.mem_of_getElem? (i := 13) rfl)
theorem kw_1070 : (.fieldLink RX13 171 "WiredBeansModel" "beanOf" "[I" : Cond) ∈ tb := inA_44 _ (List.mem_of_getElem? (i := 14) rfl)
theorem kw_1071 : (.fieldLink RX13 174 "WiredBeansModel" "setMany" "[I" : Cond) ∈ tb := inA_44 _ (List.mem_of_getElem? (i := 15) rfl)
theorem kw_1072 : (.fieldLink RX13 177 "WiredBeansModel" "setElement" "[I" : Cond) ∈ tb := inA_44 _ (List.mem_of_getElem? (i := 16) rfl)
theorem kw_1073 : (.fieldLink RX13 180 "WiredBeansModel" "lookupMany" "[I" : Cond) ∈ tb := inA_44 _ (List.mem_of_getElem? (i := 17) rfl)
theorem kw_1074 : (.fieldLink RX13 183 "WiredBeansModel" "lookupElement" "[I" : Cond) ∈ tb := inA_44 _ (List.mem_of_getElem? (i := 18) rfl)
theorem kw_1075 : (.fieldLink RX13 480 "WiredBeansModel" "objects" "I" : Cond) ∈ tb := inA_44 _ (List.mem_of_getElem? (i := 19) rfl)
theorem kw_1076 : (.fieldLink RX13 471 "WiredBeansModel" "events" "I" : Cond) ∈ tb := inA_44 _ (List.mem_of_getElem? (i := 20) rfl)
theorem kw_1077 : (.fieldLink RX13 474 "WiredBeansModel" "made" "I" : Cond) ∈ tb := inA_44 _ (List.mem_of_getElem? (i := 21) rfl)
theorem kw_1078 : (.fieldLink RX13 498 "WiredBeansModel" "failure" "I" : Cond) ∈ tb := inA_44 _ (List.mem_of_getElem? (i := 22) rfl)
theorem kw_1079 : (.fieldLink RX13 186 "WiredBeansModel" "failureBean" "I" : Cond) ∈ tb := inA_44 _ (List.mem_of_getElem? (i := 23) rfl)
theorem kw_1080 : (.fieldLink RX13 189 "WiredBeansModel" "objectClass" "[I" : Cond) ∈ tb := inA_45 _ (List.mem_of_getElem? (i := 0) rfl)
theorem kw_1081 : (.fieldLink RX13 192 "WiredBeansModel" "objectBean" "[I" : Cond) ∈ tb := inA_45 _ (List.mem_of_getElem? (i := 1) rfl)
theorem kw_1082 : (.fieldLink RX13 195 "WiredBeansModel" "eventKind" "[I" : Cond) ∈ tb := inA_45 _ (List.mem_of_getElem? (i := 2) rfl)
theorem kw_1083 : (.fieldLink RX13 198 "WiredBeansModel" "eventObject" "[I" : Cond) ∈ tb := inA_45 _ (List.mem_of_getElem? (i := 3) rfl)
theorem kw_1084 : (.fieldLink RX13 201 "WiredBeansModel" "eventSecond" "[I" : Cond) ∈ tb := inA_45 _ (List.mem_of_getElem? (i := 4) rfl)
theorem kw_1085 : (.fieldLink RX13 204 "WiredBeansModel" "eventThird" "[I" : Cond) ∈ tb := inA_45 _ (List.mem_of_getElem? (i := 5) rfl)
theorem kw_1086 : (.fieldLink RX13 207 "WiredBeansModel" "madeOrder" "[I" : Cond) ∈ tb := inA_45 _ (List.mem_of_getElem? (i := 6) rfl)
theorem kw_1087 : (.fieldLink RX13 210 "WiredBeansModel" "own" "[I" : Cond) ∈ tb := inA_45 _ (List.mem_of_getElem? (i := 7) rfl)
theorem kw_1088 : (.fieldLink RX13 213 "WiredBeansModel" "isMade" "[Z" : Cond) ∈ tb := inA_45 _ (List.mem_of_getElem? (i := 8) rfl)
theorem kw_1089 : (.fieldLink RX13 216 "WiredBeansModel" "making" "[Z" : Cond) ∈ tb := inA_45 _ (List.mem_of_getElem? (i := 9) rfl)
theorem kw_1090 : (.fieldLink RX13 501 "WiredBeansModel" "high" "I" : Cond) ∈ tb := inA_45 _ (List.mem_of_getElem? (i := 10) rfl)
theorem kw_1091 : (.fieldLink RX13 219 "WiredBeansModel" "pileBean" "[I" : Cond) ∈ tb := inA_45 _ (List.mem_of_getElem? (i := 11) rfl)
theorem kw_1092 : (.fieldLink RX13 222 "WiredBeansModel" "pilePhase" "[I" : Cond) ∈ tb := inA_45 _ (List.mem_of_getElem? (i := 12) rfl)
theorem kw_1093 : (.fieldLink RX13 225 "WiredBeansModel" "pileIndex" "[I" : Cond) ∈ tb := inA_45 _ (List.mem_of_getElem? (i := 13) rfl)
theorem kw_1094 : (.fieldLink RX13 228 "WiredBeansModel" "pileItem" "[I" : Cond) ∈ tb := inA_45 _ (List.mem_of_getElem? (i := 14) rfl)
theorem kw_1095 : (.fieldLink RX13 231 "WiredBeansModel" "pileFactory" "[I" : Cond) ∈ tb := inA_45 _ (List.mem_of_getElem? (i := 15) rfl)
theorem kw_1096 : (.fieldLink RX13 234 "WiredBeansModel" "pileObject" "[I" : Cond) ∈ tb := inA_45 _ (List.mem_of_getElem? (i := 16) rfl)
theorem kw_1097 : (.fieldLink RX13 237 "WiredBeansModel" "valueKind" "[I" : Cond) ∈ tb := inA_45 _ (List.mem_of_getElem? (i := 17) rfl)
theorem kw_1098 : (.fieldLink RX13 240 "WiredBeansModel" "value" "[I" : Cond) ∈ tb := inA_45 _ (List.mem_of_getElem? (i := 18) rfl)
theorem kw_1099 : (.fieldLink RX13 243 "WiredBeansModel" "itemKind" "[I" : Cond) ∈ tb := inA_45 _ (List.mem_of_getElem? (i := 19) rfl)
theorem kw_1100 : (.fieldLink RX13 246 "WiredBeansModel" "item" "[I" : Cond) ∈ tb := inA_45 _ (List.mem_of_getElem? (i := 20) rfl)
theorem kw_1101 : (.fieldLink RX13 513 "WiredBeansModel" "got" "I" : Cond) ∈ tb := inA_45 _ (List.mem_of_getElem? (i := 21) rfl)
theorem kw_1102 : (.fieldLink RX13 249 "WiredBeansModel" "spot" "[I" : Cond) ∈ tb := inA_45 _ (List.mem_of_getElem? (i := 22) rfl)
theorem kw_1103 : (.fieldLink RX13 335 "WiredBeansModel" "closed" "Z" : Cond) ∈ tb := inA_45 _ (List.mem_of_getElem? (i := 23) rfl)
theorem kw_1104 : (.arrayClass .boolean : Cond) ∈ tb := inA_46 _ (List.mem_of_getElem? (i := 0) rfl)
theorem kw_1105 : (.methodLink RL 40 yX13_declare : Cond) ∈ tb := inA_46 _ (List.mem_of_getElem? (i := 1) rfl)
theorem kw_1106 : (.instanceMethod yX13_declare : Cond) ∈ tb := inA_46 _ (List.mem_of_getElem? (i := 2) rfl)
theorem kw_1107 : (.selects RX13 yX13_declare yX13_declare : Cond) ∈ tb := inA_46 _ (List.mem_of_getElem? (i := 3) rfl)
theorem kw_1108 : (.methodLink RX13 259 yX13_isClass : Cond) ∈ tb := inA_46 _ (List.mem_of_getElem? (i := 4) rfl)
theorem kw_1109 : (.static yX13_isClass : Cond) ∈ tb := inA_46 _ (List.mem_of_getElem? (i := 5) rfl)
theorem kw_1110 : (.methodLink RL 45 yX13_constructor : Cond) ∈ tb := inA_46 _ (List.mem_of_getElem? (i := 6) rfl)
theorem kw_1111 : (.instanceMethod yX13_constructor : Cond) ∈ tb := inA_46 _ (List.mem_of_getElem? (i := 7) rfl)
theorem kw_1112 : (.selects RX13 yX13_constructor yX13_constructor : Cond) ∈ tb := inA_46 _ (List.mem_of_getElem? (i := 8) rfl)
theorem kw_1113 : (.methodLink RX13 262 yX13_areTypes : Cond) ∈ tb := inA_46 _ (List.mem_of_getElem? (i := 9) rfl)
theorem kw_1114 : (.static yX13_areTypes : Cond) ∈ tb := inA_46 _ (List.mem_of_getElem? (i := 10) rfl)
theorem kw_1115 : (.methodLink RX13 255 yX13_isType : Cond) ∈ tb := inA_46 _ (List.mem_of_getElem? (i := 11) rfl)
theorem kw_1116 : (.static yX13_isType : Cond) ∈ tb := inA_46 _ (List.mem_of_getElem? (i := 12) rfl)
theorem kw_1117 : (.methodLink RL 50 yX13_setter : Cond) ∈ tb := inA_46 _ (List.mem_of_getElem? (i := 13) rfl)
theorem kw_1118 : (.instanceMethod yX13_setter : Cond) ∈ tb := inA_46 _ (List.mem_of_getElem? (i := 14) rfl)
theorem kw_1119 : (.selects RX13 yX13_setter yX13_setter : Cond) ∈ tb := inA_46 _ (List.mem_of_getElem? (i := 15) rfl)
theorem kw_1120 : (.methodLink RX13 266 yX13_isLetter : Cond) ∈ tb := inA_46 _ (List.mem_of_getElem? (i := 16) rfl)
theorem kw_1121 : (.static yX13_isLetter : Cond) ∈ tb := inA_46 _ (List.mem_of_getElem? (i := 17) rfl)
theorem kw_1122 : (.methodLink RL 55 yX13_factory : Cond) ∈ tb := inA_46 _ (List.mem_of_getElem? (i := 18) rfl)
theorem kw_1123 : (.instanceMethod yX13_factory : Cond) ∈ tb := inA_46 _ (List.mem_of_getElem? (i := 19) rfl)
theorem kw_1124 : (.selects RX13 yX13_factory yX13_factory : Cond) ∈ tb := inA_46 _ (List.mem_of_getElem? (i := 20) rfl)
theorem kw_1125 : (.methodLink RL 60 yX13_type : Cond) ∈ tb := inA_46 _ (List.mem_of_getElem? (i := 21) rfl)
theorem kw_1126 : (.instanceMethod yX13_type : Cond) ∈ tb := inA_46 _ (List.mem_of_getElem? (i := 22) rfl)
theorem kw_1127 : (.selects RX13 yX13_type yX13_type : Cond) ∈ tb := inA_46 _ (List.mem_of_getElem? (i := 23) rfl)
theorem kw_1128 : (.methodLink RL 66 yX13_read : Cond) ∈ tb := inA_47 _ (List.mem_of_getElem? (i := 0) rfl)
theorem kw_1129 : (.instanceMethod yX13_read : Cond) ∈ tb := inA_47 _ (List.mem_of_getElem? (i := 1) rfl)
theorem kw_1130 : (.selects RX13 yX13_read yX13_read : Cond) ∈ tb := inA_47 _ (List.mem_of_getElem? (i := 2) rfl)
theorem kw_1131 : (.methodLink RX13 483 yX13_clear : Cond) ∈ tb := inA_47 _ (List.mem_of_getElem? (i := 3) rfl)
theorem kw_1132 : (.instanceMethod yX13_clear : Cond) ∈ tb := inA_47 _ (List.mem_of_getElem? (i := 4) rfl)
theorem kw_1133 : (.methodLink RX13 486 yX13_readDocument : Cond) ∈ tb := inA_47 _ (List.mem_of_getElem? (i := 5) rfl)
theorem kw_1134 : (.instanceMethod yX13_readDocument : Cond) ∈ tb := inA_47 _ (List.mem_of_getElem? (i := 6) rfl)
theorem kw_1135 : (.methodLink RX13 339 yX13_between : Cond) ∈ tb := inA_47 _ (List.mem_of_getElem? (i := 7) rfl)
theorem kw_1136 : (.instanceMethod yX13_between : Cond) ∈ tb := inA_47 _ (List.mem_of_getElem? (i := 8) rfl)
theorem kw_1137 : (.methodLink RX13 296 yX13_white : Cond) ∈ tb := inA_47 _ (List.mem_of_getElem? (i := 9) rfl)
theorem kw_1138 : (.instanceMethod yX13_white : Cond) ∈ tb := inA_47 _ (List.mem_of_getElem? (i := 10) rfl)
theorem kw_1139 : (.methodLink RX13 282 yX13_here : Cond) ∈ tb := inA_47 _ (List.mem_of_getElem? (i := 11) rfl)
theorem kw_1140 : (.instanceMethod yX13_here : Cond) ∈ tb := inA_47 _ (List.mem_of_getElem? (i := 12) rfl)
theorem kw_1141 : (.methodLink RX13 286 yX13_isWhite : Cond) ∈ tb := inA_47 _ (List.mem_of_getElem? (i := 13) rfl)
theorem kw_1142 : (.instanceMethod yX13_isWhite : Cond) ∈ tb := inA_47 _ (List.mem_of_getElem? (i := 14) rfl)
theorem kw_1143 : (.methodLink RX13 300 yX13_comment : Cond) ∈ tb := inA_47 _ (List.mem_of_getElem? (i := 15) rfl)
theorem kw_1144 : (.instanceMethod yX13_comment : Cond) ∈ tb := inA_47 _ (List.mem_of_getElem? (i := 16) rfl)
theorem kw_1145 : (.methodLink RX13 293 yX13_must : Cond) ∈ tb := inA_47 _ (List.mem_of_getElem? (i := 17) rfl)
theorem kw_1146 : (.instanceMethod yX13_must : Cond) ∈ tb := inA_47 _ (List.mem_of_getElem? (i := 18) rfl)
theorem kw_1147 : (.methodLink RX13 289 yX13_bad : Cond) ∈ tb := inA_47 _ (List.mem_of_getElem? (i := 19) rfl)
theorem kw_1148 : (.instanceMethod yX13_bad : Cond) ∈ tb := inA_47 _ (List.mem_of_getElem? (i := 20) rfl)
theorem kw_1149 : (.methodLink RX13 303 yX13_isSmall : Cond) ∈ tb := inA_47 _ (List.mem_of_getElem? (i := 21) rfl)
theorem kw_1150 : (.instanceMethod yX13_isSmall : Cond) ∈ tb := inA_47 _ (List.mem_of_getElem? (i := 22) rfl)
theorem kw_1151 : (.methodLink RX13 342 yX13_begin : Cond) ∈ tb := inA_47 _ (List.mem_of_getElem? (i := 23) rfl)
theorem kw_1152 : (.instanceMethod yX13_begin : Cond) ∈ tb := inA_48 _ (List.mem_of_getElem? (i := 0) rfl)
theorem kw_1153 : (.methodLink RX13 315 yX13_name : Cond) ∈ tb := inA_48 _ (List.mem_of_getElem? (i := 1) rfl)
theorem kw_1154 : (.instanceMethod yX13_name : Cond) ∈ tb := inA_48 _ (List.mem_of_getElem? (i := 2) rfl)
theorem kw_1155 : (.methodLink RX13 332 yX13_attribute : Cond) ∈ tb := inA_48 _ (List.mem_of_getElem? (i := 3) rfl)
theorem kw_1156 : (.instanceMethod yX13_attribute : Cond) ∈ tb := inA_48 _ (List.mem_of_getElem? (i := 4) rfl)
theorem kw_1157 : (.methodLink RX13 319 yX13_find : Cond) ∈ tb := inA_48 _ (List.mem_of_getElem? (i := 5) rfl)
theorem kw_1158 : (.instanceMethod yX13_find : Cond) ∈ tb := inA_48 _ (List.mem_of_getElem? (i := 6) rfl)
theorem kw_1159 : (.methodLink RX13 326 yX13_entity : Cond) ∈ tb := inA_48 _ (List.mem_of_getElem? (i := 7) rfl)
theorem kw_1160 : (.instanceMethod yX13_entity : Cond) ∈ tb := inA_48 _ (List.mem_of_getElem? (i := 8) rfl)
theorem kw_1161 : (.methodLink RX13 306 yX13_numberedEntity : Cond) ∈ tb := inA_48 _ (List.mem_of_getElem? (i := 9) rfl)
theorem kw_1162 : (.instanceMethod yX13_numberedEntity : Cond) ∈ tb := inA_48 _ (List.mem_of_getElem? (i := 10) rfl)
theorem kw_1163 : (.methodLink RX13 309 yX13_agrees : Cond) ∈ tb := inA_48 _ (List.mem_of_getElem? (i := 11) rfl)
theorem kw_1164 : (.instanceMethod yX13_agrees : Cond) ∈ tb := inA_48 _ (List.mem_of_getElem? (i := 12) rfl)
theorem kw_1165 : (.constantLong RX13 313 (255) : Cond) ∈ tb := inA_48 _ (List.mem_of_getElem? (i := 13) rfl)
theorem kw_1166 : (.methodLink RX13 346 yX13_add : Cond) ∈ tb := inA_48 _ (List.mem_of_getElem? (i := 14) rfl)
theorem kw_1167 : (.instanceMethod yX13_add : Cond) ∈ tb := inA_48 _ (List.mem_of_getElem? (i := 15) rfl)
theorem kw_1168 : (.methodLink RX13 350 yX13_end : Cond) ∈ tb := inA_48 _ (List.mem_of_getElem? (i := 16) rfl)
theorem kw_1169 : (.instanceMethod yX13_end : Cond) ∈ tb := inA_48 _ (List.mem_of_getElem? (i := 17) rfl)
theorem kw_1170 : (.methodLink RX13 489 yX13_badStructure : Cond) ∈ tb := inA_48 _ (List.mem_of_getElem? (i := 18) rfl)
theorem kw_1171 : (.instanceMethod yX13_badStructure : Cond) ∈ tb := inA_48 _ (List.mem_of_getElem? (i := 19) rfl)
theorem kw_1172 : (.methodLink RX13 436 yX13_isGood : Cond) ∈ tb := inA_48 _ (List.mem_of_getElem? (i := 20) rfl)
theorem kw_1173 : (.instanceMethod yX13_isGood : Cond) ∈ tb := inA_48 _ (List.mem_of_getElem? (i := 21) rfl)
theorem kw_1174 : (.methodLink RX13 415 yX13_isInPlace : Cond) ∈ tb := inA_48 _ (List.mem_of_getElem? (i := 22) rfl)
theorem kw_1175 : (.instanceMethod yX13_isInPlace : Cond) ∈ tb := inA_48 _ (List.mem_of_getElem? (i := 23) rfl)
theorem kw_1176 : (.methodLink RX13 418 yX13_isAllowed : Cond) ∈ tb := inA_49 _ (List.mem_of_getElem? (i := 0) rfl)
theorem kw_1177 : (.instanceMethod yX13_isAllowed : Cond) ∈ tb := inA_49 _ (List.mem_of_getElem? (i := 1) rfl)
theorem kw_1178 : (.constantLong RX13 380 (1851878757) : Cond) ∈ tb := inA_49 _ (List.mem_of_getElem? (i := 2) rfl)
theorem kw_1179 : (.constantLong RX13 382 (29807) : Cond) ∈ tb := inA_49 _ (List.mem_of_getElem? (i := 3) rfl)
theorem kw_1180 : (.constantLong RX13 384 (26980) : Cond) ∈ tb := inA_49 _ (List.mem_of_getElem? (i := 4) rfl)
theorem kw_1181 : (.constantLong RX13 386 (427020088179) : Cond) ∈ tb := inA_49 _ (List.mem_of_getElem? (i := 5) rfl)
theorem kw_1182 : (.constantLong RX13 388 (123563833388660) : Cond) ∈ tb := inA_49 _ (List.mem_of_getElem? (i := 6) rfl)
theorem kw_1183 : (.constantLong RX13 390 (7017298113369039732) : Cond) ∈ tb := inA_49 _ (List.mem_of_getElem? (i := 7) rfl)
theorem kw_1184 : (.constantLong RX13 392 (495589486693) : Cond) ∈ tb := inA_49 _ (List.mem_of_getElem? (i := 8) rfl)
theorem kw_1185 : (.constantLong RX13 394 (1818327673) : Cond) ∈ tb := inA_49 _ (List.mem_of_getElem? (i := 9) rfl)
theorem kw_1186 : (.constantLong RX13 396 (28817527407604345) : Cond) ∈ tb := inA_49 _ (List.mem_of_getElem? (i := 10) rfl)
theorem kw_1187 : (.constantLong RX13 398 (120282512125796) : Cond) ∈ tb := inA_49 _ (List.mem_of_getElem? (i := 11) rfl)
theorem kw_1188 : (.constantLong RX13 400 (1768843636) : Cond) ∈ tb := inA_49 _ (List.mem_of_getElem? (i := 12) rfl)
theorem kw_1189 : (.constantLong RX13 402 (28259044220366713) : Cond) ∈ tb := inA_49 _ (List.mem_of_getElem? (i := 13) rfl)
theorem kw_1190 : (.constantLong RX13 404 (28259031083541619) : Cond) ∈ tb := inA_49 _ (List.mem_of_getElem? (i := 14) rfl)
theorem kw_1191 : (.constantLong RX13 406 (24948) : Cond) ∈ tb := inA_49 _ (List.mem_of_getElem? (i := 15) rfl)
theorem kw_1192 : (.constantLong RX13 374 (1954115685) : Cond) ∈ tb := inA_49 _ (List.mem_of_getElem? (i := 16) rfl)
theorem kw_1193 : (.methodLink RX13 369 yX13_isWord : Cond) ∈ tb := inA_49 _ (List.mem_of_getElem? (i := 17) rfl)
theorem kw_1194 : (.instanceMethod yX13_isWord : Cond) ∈ tb := inA_49 _ (List.mem_of_getElem? (i := 18) rfl)
theorem kw_1195 : (.methodLink RX13 421 yX13_isGoodBean : Cond) ∈ tb := inA_49 _ (List.mem_of_getElem? (i := 19) rfl)
theorem kw_1196 : (.instanceMethod yX13_isGoodBean : Cond) ∈ tb := inA_49 _ (List.mem_of_getElem? (i := 20) rfl)
theorem kw_1197 : (.methodLink RX13 355 yX13_has : Cond) ∈ tb := inA_49 _ (List.mem_of_getElem? (i := 21) rfl)
theorem kw_1198 : (.instanceMethod yX13_has : Cond) ∈ tb := inA_49 _ (List.mem_of_getElem? (i := 22) rfl)
theorem kw_1199 : (.methodLink RX13 408 yX13_isOneLetter : Cond) ∈ tb := inA_49 _ (List.mem_of_getElem? (i := 23) rfl)
theorem kw_1200 : (.instanceMethod yX13_isOneLetter : Cond) ∈ tb := inA_50 _ (List.mem_of_getElem? (i := 0) rfl)
theorem kw_1201 : (.methodLink RX13 359 yX13_word : Cond) ∈ tb := inA_50 _ (List.mem_of_getElem? (i := 1) rfl)
theorem kw_1202 : (.instanceMethod yX13_word : Cond) ∈ tb := inA_50 _ (List.mem_of_getElem? (i := 2) rfl)
theorem kw_1203 : (.constantLong RX13 353 (-1) : Cond) ∈ tb := inA_50 _ (List.mem_of_getElem? (i := 3) rfl)
theorem kw_1204 : (.constantLong RX13 372 (256) : Cond) ∈ tb := inA_50 _ (List.mem_of_getElem? (i := 4) rfl)
theorem kw_1205 : (.methodLink RX13 376 yX13_classIn : Cond) ∈ tb := inA_50 _ (List.mem_of_getElem? (i := 5) rfl)
theorem kw_1206 : (.static yX13_classIn : Cond) ∈ tb := inA_50 _ (List.mem_of_getElem? (i := 6) rfl)
theorem kw_1207 : (.constantLong RX13 363 (75) : Cond) ∈ tb := inA_50 _ (List.mem_of_getElem? (i := 7) rfl)
theorem kw_1208 : (.constantLong RX13 365 (48) : Cond) ∈ tb := inA_50 _ (List.mem_of_getElem? (i := 8) rfl)
theorem kw_1209 : (.constantLong RX13 367 (55) : Cond) ∈ tb := inA_50 _ (List.mem_of_getElem? (i := 9) rfl)
theorem kw_1210 : (.methodLink RX13 411 yX13_isOneOf : Cond) ∈ tb := inA_50 _ (List.mem_of_getElem? (i := 10) rfl)
theorem kw_1211 : (.instanceMethod yX13_isOneOf : Cond) ∈ tb := inA_50 _ (List.mem_of_getElem? (i := 11) rfl)
theorem kw_1212 : (.methodLink RX13 424 yX13_isGoodHolder : Cond) ∈ tb := inA_50 _ (List.mem_of_getElem? (i := 12) rfl)
theorem kw_1213 : (.instanceMethod yX13_isGoodHolder : Cond) ∈ tb := inA_50 _ (List.mem_of_getElem? (i := 13) rfl)
theorem kw_1214 : (.methodLink RX13 427 yX13_ahead : Cond) ∈ tb := inA_50 _ (List.mem_of_getElem? (i := 14) rfl)
theorem kw_1215 : (.instanceMethod yX13_ahead : Cond) ∈ tb := inA_50 _ (List.mem_of_getElem? (i := 15) rfl)
theorem kw_1216 : (.constantLong RX13 431 (50) : Cond) ∈ tb := inA_50 _ (List.mem_of_getElem? (i := 16) rfl)
theorem kw_1217 : (.methodLink RX13 433 yX13_typeIn : Cond) ∈ tb := inA_50 _ (List.mem_of_getElem? (i := 17) rfl)
theorem kw_1218 : (.instanceMethod yX13_typeIn : Cond) ∈ tb := inA_50 _ (List.mem_of_getElem? (i := 18) rfl)
theorem kw_1219 : (.methodLink RX13 492 yX13_badBeans : Cond) ∈ tb := inA_50 _ (List.mem_of_getElem? (i := 19) rfl)
theorem kw_1220 : (.instanceMethod yX13_badBeans : Cond) ∈ tb := inA_50 _ (List.mem_of_getElem? (i := 20) rfl)
theorem kw_1221 : (.methodLink RX13 448 yX13_isUsed : Cond) ∈ tb := inA_50 _ (List.mem_of_getElem? (i := 21) rfl)
theorem kw_1222 : (.instanceMethod yX13_isUsed : Cond) ∈ tb := inA_50 _ (List.mem_of_getElem? (i := 22) rfl)
theorem kw_1223 : (.methodLink RX13 445 yX13_parentOf : Cond) ∈ tb := inA_50 _ (List.mem_of_getElem? (i := 23) rfl)
theorem kw_1224 : (.instanceMethod yX13_parentOf : Cond) ∈ tb := inA_51 _ (List.mem_of_getElem? (i := 0) rfl)
theorem kw_1225 : (.methodLink RX13 442 yX13_withId : Cond) ∈ tb := inA_51 _ (List.mem_of_getElem? (i := 1) rfl)
theorem kw_1226 : (.instanceMethod yX13_withId : Cond) ∈ tb := inA_51 _ (List.mem_of_getElem? (i := 2) rfl)
theorem kw_1227 : (.methodLink RX13 451 yX13_comesToItself : Cond) ∈ tb := inA_51 _ (List.mem_of_getElem? (i := 3) rfl)
theorem kw_1228 : (.instanceMethod yX13_comesToItself : Cond) ∈ tb := inA_51 _ (List.mem_of_getElem? (i := 4) rfl)
theorem kw_1229 : (.methodLink RX13 495 yX13_mergeBean : Cond) ∈ tb := inA_51 _ (List.mem_of_getElem? (i := 5) rfl)
theorem kw_1230 : (.instanceMethod yX13_mergeBean : Cond) ∈ tb := inA_51 _ (List.mem_of_getElem? (i := 6) rfl)
theorem kw_1231 : (.methodLink RX13 457 yX13_inner : Cond) ∈ tb := inA_51 _ (List.mem_of_getElem? (i := 7) rfl)
theorem kw_1232 : (.instanceMethod yX13_inner : Cond) ∈ tb := inA_51 _ (List.mem_of_getElem? (i := 8) rfl)
theorem kw_1233 : (.methodLink RX13 467 yX13_merge : Cond) ∈ tb := inA_51 _ (List.mem_of_getElem? (i := 9) rfl)
theorem kw_1234 : (.instanceMethod yX13_merge : Cond) ∈ tb := inA_51 _ (List.mem_of_getElem? (i := 10) rfl)
theorem kw_1235 : (.methodLink RL 71 yX13_fault : Cond) ∈ tb := inA_51 _ (List.mem_of_getElem? (i := 11) rfl)
theorem kw_1236 : (.instanceMethod yX13_fault : Cond) ∈ tb := inA_51 _ (List.mem_of_getElem? (i := 12) rfl)
theorem kw_1237 : (.selects RX13 yX13_fault yX13_fault : Cond) ∈ tb := inA_51 _ (List.mem_of_getElem? (i := 13) rfl)
theorem kw_1238 : (.methodLink RL 74 yX13_refresh : Cond) ∈ tb := inA_51 _ (List.mem_of_getElem? (i := 14) rfl)
theorem kw_1239 : (.instanceMethod yX13_refresh : Cond) ∈ tb := inA_51 _ (List.mem_of_getElem? (i := 15) rfl)
theorem kw_1240 : (.selects RX13 yX13_refresh yX13_refresh : Cond) ∈ tb := inA_51 _ (List.mem_of_getElem? (i := 16) rfl)
theorem kw_1241 : (.methodLink RX13 507 yX13_isAbstract : Cond) ∈ tb := inA_51 _ (List.mem_of_getElem? (i := 17) rfl)
theorem kw_1242 : (.instanceMethod yX13_isAbstract : Cond) ∈ tb := inA_51 _ (List.mem_of_getElem? (i := 18) rfl)
theorem kw_1243 : (.methodLink RX13 510 yX13_isMany : Cond) ∈ tb := inA_51 _ (List.mem_of_getElem? (i := 19) rfl)
theorem kw_1244 : (.instanceMethod yX13_isMany : Cond) ∈ tb := inA_51 _ (List.mem_of_getElem? (i := 20) rfl)
theorem kw_1245 : (.methodLink RX13 614 yX13_run : Cond) ∈ tb := inA_51 _ (List.mem_of_getElem? (i := 21) rfl)
theorem kw_1246 : (.instanceMethod yX13_run : Cond) ∈ tb := inA_51 _ (List.mem_of_getElem? (i := 22) rfl)
theorem kw_1247 : (.methodLink RX13 523 yX13_gets : Cond) ∈ tb := inA_51 _ (List.mem_of_getElem? (i := 23) rfl)
theorem kw_1248 : (.instanceMethod yX13_gets : Cond) ∈ tb := inA_52 _ (List.mem_of_getElem? (i := 0) rfl)
theorem kw_1249 : (.methodLink RX13 504 yX13_fails : Cond) ∈ tb := inA_52 _ (List.mem_of_getElem? (i := 1) rfl)
theorem kw_1250 : (.instanceMethod yX13_fails : Cond) ∈ tb := inA_52 _ (List.mem_of_getElem? (i := 2) rfl)
theorem kw_1251 : (.methodLink RX13 611 yX13_step : Cond) ∈ tb := inA_52 _ (List.mem_of_getElem? (i := 3) rfl)
theorem kw_1252 : (.instanceMethod yX13_step : Cond) ∈ tb := inA_52 _ (List.mem_of_getElem? (i := 4) rfl)
theorem kw_1253 : (.methodLink RX13 520 yX13_called : Cond) ∈ tb := inA_52 _ (List.mem_of_getElem? (i := 5) rfl)
theorem kw_1254 : (.instanceMethod yX13_called : Cond) ∈ tb := inA_52 _ (List.mem_of_getElem? (i := 6) rfl)
theorem kw_1255 : (.methodLink RX13 592 yX13_deliver : Cond) ∈ tb := inA_52 _ (List.mem_of_getElem? (i := 7) rfl)
theorem kw_1256 : (.instanceMethod yX13_deliver : Cond) ∈ tb := inA_52 _ (List.mem_of_getElem? (i := 8) rfl)
theorem kw_1257 : (.methodLink RX13 464 yX13_arg : Cond) ∈ tb := inA_52 _ (List.mem_of_getElem? (i := 9) rfl)
theorem kw_1258 : (.instanceMethod yX13_arg : Cond) ∈ tb := inA_52 _ (List.mem_of_getElem? (i := 10) rfl)
theorem kw_1259 : (.methodLink RX13 461 yX13_argsOf : Cond) ∈ tb := inA_52 _ (List.mem_of_getElem? (i := 11) rfl)
theorem kw_1260 : (.instanceMethod yX13_argsOf : Cond) ∈ tb := inA_52 _ (List.mem_of_getElem? (i := 12) rfl)
theorem kw_1261 : (.methodLink RX13 516 yX13_keep : Cond) ∈ tb := inA_52 _ (List.mem_of_getElem? (i := 13) rfl)
theorem kw_1262 : (.instanceMethod yX13_keep : Cond) ∈ tb := inA_52 _ (List.mem_of_getElem? (i := 14) rfl)
theorem kw_1263 : (.methodLink RX13 454 yX13_tells : Cond) ∈ tb := inA_52 _ (List.mem_of_getElem? (i := 15) rfl)
theorem kw_1264 : (.instanceMethod yX13_tells : Cond) ∈ tb := inA_52 _ (List.mem_of_getElem? (i := 16) rfl)
theorem kw_1265 : (.methodLink RX13 557 yX13_args : Cond) ∈ tb := inA_52 _ (List.mem_of_getElem? (i := 17) rfl)
theorem kw_1266 : (.instanceMethod yX13_args : Cond) ∈ tb := inA_52 _ (List.mem_of_getElem? (i := 18) rfl)
theorem kw_1267 : (.methodLink RX13 595 yX13_workedOut : Cond) ∈ tb := inA_52 _ (List.mem_of_getElem? (i := 19) rfl)
theorem kw_1268 : (.instanceMethod yX13_workedOut : Cond) ∈ tb := inA_52 _ (List.mem_of_getElem? (i := 20) rfl)
theorem kw_1269 : (.methodLink RX13 526 yX13_worked : Cond) ∈ tb := inA_52 _ (List.mem_of_getElem? (i := 21) rfl)
theorem kw_1270 : (.instanceMethod yX13_worked : Cond) ∈ tb := inA_52 _ (List.mem_of_getElem? (i := 22) rfl)
theorem kw_1271 : (.methodLink RX13 598 yX13_next : Cond) ∈ tb := inA_52 _ (List.mem_of_getElem? (i := 23) rfl)
theorem kw_1272 : (.instanceMethod yX13_next : Cond) ∈ tb := inA_53 _ (List.mem_of_getElem? (i := 0) rfl)
theorem kw_1273 : (.methodLink RX13 602 yX13_makeObject : Cond) ∈ tb := inA_53 _ (List.mem_of_getElem? (i := 1) rfl)
theorem kw_1274 : (.instanceMethod yX13_makeObject : Cond) ∈ tb := inA_53 _ (List.mem_of_getElem? (i := 2) rfl)
theorem kw_1275 : (.methodLink RX13 567 yX13_letter : Cond) ∈ tb := inA_53 _ (List.mem_of_getElem? (i := 3) rfl)
theorem kw_1276 : (.instanceMethod yX13_letter : Cond) ∈ tb := inA_53 _ (List.mem_of_getElem? (i := 4) rfl)
theorem kw_1277 : (.methodLink RX13 574 yX13_classOf : Cond) ∈ tb := inA_53 _ (List.mem_of_getElem? (i := 5) rfl)
theorem kw_1278 : (.instanceMethod yX13_classOf : Cond) ∈ tb := inA_53 _ (List.mem_of_getElem? (i := 6) rfl)
theorem kw_1279 : (.methodLink RX13 577 yX13_classWithFactory : Cond) ∈ tb := inA_53 _ (List.mem_of_getElem? (i := 7) rfl)
theorem kw_1280 : (.instanceMethod yX13_classWithFactory : Cond) ∈ tb := inA_53 _ (List.mem_of_getElem? (i := 8) rfl)
theorem kw_1281 : (.methodLink RX13 269 yX13_isFactory : Cond) ∈ tb := inA_53 _ (List.mem_of_getElem? (i := 9) rfl)
theorem kw_1282 : (.instanceMethod yX13_isFactory : Cond) ∈ tb := inA_53 _ (List.mem_of_getElem? (i := 10) rfl)
theorem kw_1283 : (.methodLink RX13 581 yX13_chosen : Cond) ∈ tb := inA_53 _ (List.mem_of_getElem? (i := 11) rfl)
theorem kw_1284 : (.instanceMethod yX13_chosen : Cond) ∈ tb := inA_53 _ (List.mem_of_getElem? (i := 12) rfl)
theorem kw_1285 : (.constant RX13 566 (1000000) : Cond) ∈ tb := inA_53 _ (List.mem_of_getElem? (i := 13) rfl)
theorem kw_1286 : (.methodLink RX13 570 yX13_sum : Cond) ∈ tb := inA_53 _ (List.mem_of_getElem? (i := 14) rfl)
theorem kw_1287 : (.instanceMethod yX13_sum : Cond) ∈ tb := inA_53 _ (List.mem_of_getElem? (i := 15) rfl)
theorem kw_1288 : (.methodLink RX13 560 yX13_placed : Cond) ∈ tb := inA_53 _ (List.mem_of_getElem? (i := 16) rfl)
theorem kw_1289 : (.instanceMethod yX13_placed : Cond) ∈ tb := inA_53 _ (List.mem_of_getElem? (i := 17) rfl)
theorem kw_1290 : (.methodLink RX13 563 yX13_weight : Cond) ∈ tb := inA_53 _ (List.mem_of_getElem? (i := 18) rfl)
theorem kw_1291 : (.instanceMethod yX13_weight : Cond) ∈ tb := inA_53 _ (List.mem_of_getElem? (i := 19) rfl)
theorem kw_1292 : (.methodLink RX13 544 yX13_numberIn : Cond) ∈ tb := inA_53 _ (List.mem_of_getElem? (i := 20) rfl)
theorem kw_1293 : (.instanceMethod yX13_numberIn : Cond) ∈ tb := inA_53 _ (List.mem_of_getElem? (i := 21) rfl)
theorem kw_1294 : (.methodLink RX13 530 yX13_length : Cond) ∈ tb := inA_53 _ (List.mem_of_getElem? (i := 22) rfl)
theorem kw_1295 : (.instanceMethod yX13_length : Cond) ∈ tb := inA_53 _ (List.mem_of_getElem? (i := 23) rfl)
theorem kw_1296 : (.methodLink RX13 533 yX13_sign : Cond) ∈ tb := inA_54 _ (List.mem_of_getElem? (i := 0) rfl)
theorem kw_1297 : (.instanceMethod yX13_sign : Cond) ∈ tb := inA_54 _ (List.mem_of_getElem? (i := 1) rfl)
theorem kw_1298 : (.constantLong RX13 536 (10) : Cond) ∈ tb := inA_54 _ (List.mem_of_getElem? (i := 2) rfl)
theorem kw_1299 : (.constantLong RX13 538 (-2147483648) : Cond) ∈ tb := inA_54 _ (List.mem_of_getElem? (i := 3) rfl)
theorem kw_1300 : (.constantLong RX13 540 (2147483647) : Cond) ∈ tb := inA_54 _ (List.mem_of_getElem? (i := 4) rfl)
theorem kw_1301 : (.constantLong RX13 542 (-9000000000000000000) : Cond) ∈ tb := inA_54 _ (List.mem_of_getElem? (i := 5) rfl)
theorem kw_1302 : (.methodLink RX13 548 yX13_is : Cond) ∈ tb := inA_54 _ (List.mem_of_getElem? (i := 6) rfl)
theorem kw_1303 : (.instanceMethod yX13_is : Cond) ∈ tb := inA_54 _ (List.mem_of_getElem? (i := 7) rfl)
theorem kw_1304 : (.methodLink RX13 554 yX13_happens : Cond) ∈ tb := inA_54 _ (List.mem_of_getElem? (i := 8) rfl)
theorem kw_1305 : (.instanceMethod yX13_happens : Cond) ∈ tb := inA_54 _ (List.mem_of_getElem? (i := 9) rfl)
theorem kw_1306 : (.methodLink RX13 585 yX13_tell : Cond) ∈ tb := inA_54 _ (List.mem_of_getElem? (i := 10) rfl)
theorem kw_1307 : (.instanceMethod yX13_tell : Cond) ∈ tb := inA_54 _ (List.mem_of_getElem? (i := 11) rfl)
theorem kw_1308 : (.methodLink RX13 551 yX13_told : Cond) ∈ tb := inA_54 _ (List.mem_of_getElem? (i := 12) rfl)
theorem kw_1309 : (.instanceMethod yX13_told : Cond) ∈ tb := inA_54 _ (List.mem_of_getElem? (i := 13) rfl)
theorem kw_1310 : (.methodLink RX13 605 yX13_finish : Cond) ∈ tb := inA_54 _ (List.mem_of_getElem? (i := 14) rfl)
theorem kw_1311 : (.instanceMethod yX13_finish : Cond) ∈ tb := inA_54 _ (List.mem_of_getElem? (i := 15) rfl)
theorem kw_1312 : (.methodLink RX13 608 yX13_setOne : Cond) ∈ tb := inA_54 _ (List.mem_of_getElem? (i := 16) rfl)
theorem kw_1313 : (.instanceMethod yX13_setOne : Cond) ∈ tb := inA_54 _ (List.mem_of_getElem? (i := 17) rfl)
theorem kw_1314 : (.methodLink RX13 589 yX13_typeOfSetter : Cond) ∈ tb := inA_54 _ (List.mem_of_getElem? (i := 18) rfl)
theorem kw_1315 : (.instanceMethod yX13_typeOfSetter : Cond) ∈ tb := inA_54 _ (List.mem_of_getElem? (i := 19) rfl)
theorem kw_1316 : (.methodLink RX13 617 yX13_shut : Cond) ∈ tb := inA_54 _ (List.mem_of_getElem? (i := 20) rfl)
theorem kw_1317 : (.instanceMethod yX13_shut : Cond) ∈ tb := inA_54 _ (List.mem_of_getElem? (i := 21) rfl)
theorem kw_1318 : (.methodLink RL 80 yX13_get : Cond) ∈ tb := inA_54 _ (List.mem_of_getElem? (i := 22) rfl)
theorem kw_1319 : (.instanceMethod yX13_get : Cond) ∈ tb := inA_54 _ (List.mem_of_getElem? (i := 23) rfl)
theorem kw_1320 : (.selects RX13 yX13_get yX13_get : Cond) ∈ tb := inA_55 _ (List.mem_of_getElem? (i := 0) rfl)
theorem kw_1321 : (.methodLink RX13 620 yX13_letters : Cond) ∈ tb := inA_55 _ (List.mem_of_getElem? (i := 1) rfl)
theorem kw_1322 : (.static yX13_letters : Cond) ∈ tb := inA_55 _ (List.mem_of_getElem? (i := 2) rfl)
theorem kw_1323 : (.methodLink RL 84 yX13_call : Cond) ∈ tb := inA_55 _ (List.mem_of_getElem? (i := 3) rfl)
theorem kw_1324 : (.instanceMethod yX13_call : Cond) ∈ tb := inA_55 _ (List.mem_of_getElem? (i := 4) rfl)
theorem kw_1325 : (.selects RX13 yX13_call yX13_call : Cond) ∈ tb := inA_55 _ (List.mem_of_getElem? (i := 5) rfl)
theorem kw_1326 : (.methodLink RL 88 yX13_close : Cond) ∈ tb := inA_55 _ (List.mem_of_getElem? (i := 6) rfl)
theorem kw_1327 : (.instanceMethod yX13_close : Cond) ∈ tb := inA_55 _ (List.mem_of_getElem? (i := 7) rfl)
theorem kw_1328 : (.selects RX13 yX13_close yX13_close : Cond) ∈ tb := inA_55 _ (List.mem_of_getElem? (i := 8) rfl)
theorem kw_1329 : (.methodLink RL 92 yX13_events : Cond) ∈ tb := inA_55 _ (List.mem_of_getElem? (i := 9) rfl)
theorem kw_1330 : (.instanceMethod yX13_events : Cond) ∈ tb := inA_55 _ (List.mem_of_getElem? (i := 10) rfl)
theorem kw_1331 : (.selects RX13 yX13_events yX13_events : Cond) ∈ tb := inA_55 _ (List.mem_of_getElem? (i := 11) rfl)
theorem kw_1332 : (.methodLink RL 96 yX13_event : Cond) ∈ tb := inA_55 _ (List.mem_of_getElem? (i := 12) rfl)
theorem kw_1333 : (.instanceMethod yX13_event : Cond) ∈ tb := inA_55 _ (List.mem_of_getElem? (i := 13) rfl)
theorem kw_1334 : (.selects RX13 yX13_event yX13_event : Cond) ∈ tb := inA_55 _ (List.mem_of_getElem? (i := 14) rfl)
theorem kw_1335 : (.methodLink RL 100 yX13_object : Cond) ∈ tb := inA_55 _ (List.mem_of_getElem? (i := 15) rfl)
theorem kw_1336 : (.instanceMethod yX13_object : Cond) ∈ tb := inA_55 _ (List.mem_of_getElem? (i := 16) rfl)
theorem kw_1337 : (.selects RX13 yX13_object yX13_object : Cond) ∈ tb := inA_55 _ (List.mem_of_getElem? (i := 17) rfl)
theorem kw_1338 : (.methodLink RL 104 yX13_bean : Cond) ∈ tb := inA_55 _ (List.mem_of_getElem? (i := 18) rfl)
theorem kw_1339 : (.instanceMethod yX13_bean : Cond) ∈ tb := inA_55 _ (List.mem_of_getElem? (i := 19) rfl)
theorem kw_1340 : (.selects RX13 yX13_bean yX13_bean : Cond) ∈ tb := inA_55 _ (List.mem_of_getElem? (i := 20) rfl)
theorem kw_1341 : (.constantLong RL 75 (4294967295) : Cond) ∈ tb := inA_55 _ (List.mem_of_getElem? (i := 21) rfl)
theorem kw_1342 : (.selects "[Ljava/lang/Object;" ⟨"java/lang/Object", "getClass", "()Ljava/lang/Class;"⟩ ⟨"java/lang/Object", "getClass", "()Ljava/lang/Class;"⟩ : Cond) ∈ tb := inA_55 _ (List.mem_of_getElem? (i := 22) rfl)
theorem kw_1343 : (.fieldLink RX11 129 "WiredBeans$Word" "key" "J" : Cond) ∈ tb := inA_55 _ (List.mem_of_getElem? (i := 23) rfl)
theorem kw_1344 : (.fieldLink RJ0 9 "java/lang/String" "value" "[B" : Cond) ∈ tb := inA_56 _ (List.mem_of_getElem? (i := 0) rfl)
theorem kw_1345 : (.fieldLink RJ0 15 "java/lang/String" "coder" "B" : Cond) ∈ tb := inA_56 _ (List.mem_of_getElem? (i := 1) rfl)
theorem kw_1346 : (.fieldLink RJx29ce0 7 "java/lang/Enum" "ordinal" "I" : Cond) ∈ tb := inA_56 _ (List.mem_of_getElem? (i := 2) rfl)
theorem kw_1347 : (.fieldLink RX6 57 "WiredBeans$Word" "key" "J" : Cond) ∈ tb := inA_56 _ (List.mem_of_getElem? (i := 3) rfl)
theorem kw_1368 : (.code yX12_init cX12_init 2 none : Cond) ∈ tb := inA_57 _ (List.mem_of_getElem? (i := 0) rfl)
theorem kw_1369 : (.code objectInit ⟨#[0xb1]⟩ 1 none : Cond) ∈ tb := inA_57 _ (List.mem_of_getElem? (i := 1) rfl)
theorem kw_1370 : (.code yX2_init cX2_init 3 none : Cond) ∈ tb := inA_57 _ (List.mem_of_getElem? (i := 2) rfl)
theorem kw_1371 : (.code yX8_init cX8_init 3 none : Cond) ∈ tb := inA_57 _ (List.mem_of_getElem? (i := 3) rfl)
theorem kw_1372 : (.code yX6_init cX6_init 3 none : Cond) ∈ tb := inA_57 _ (List.mem_of_getElem? (i := 4) rfl)
theorem kw_1373 : (.code yX3_init cX3_init 1 none : Cond) ∈ tb := inA_57 _ (List.mem_of_getElem? (i := 5) rfl)
theorem kw_1374 : (.code yX7_init cX7_init 2 none : Cond) ∈ tb := inA_57 _ (List.mem_of_getElem? (i := 6) rfl)
theorem kw_1375 : (.code yX9_init cX9_init 2 none : Cond) ∈ tb := inA_57 _ (List.mem_of_getElem? (i := 7) rfl)
theorem kw_1376 : (.code yX10_init cX10_init 3 none : Cond) ∈ tb := inA_57 _ (List.mem_of_getElem? (i := 8) rfl)
theorem kw_1377 : (.code yX1_init cX1_init 2 none : Cond) ∈ tb := inA_57 _ (List.mem_of_getElem? (i := 9) rfl)
theorem kw_1378 : (.code yJx4a65c_init_da8c8 cJx4a65c_init_da8c8 1 none : Cond) ∈ tb := inA_57 _ (List.mem_of_getElem? (i := 10) rfl)
theorem kw_1379 : (.code yJxc12de_init_da8c8 cJxc12de_init_da8c8 1 none : Cond) ∈ tb := inA_57 _ (List.mem_of_getElem? (i := 11) rfl)
theorem kw_1380 : (.code yJxa1e45_init_da8c8 cJxa1e45_init_da8c8 1 none : Cond) ∈ tb := inA_57 _ (List.mem_of_getElem? (i := 12) rfl)
theorem kw_1381 : (.code yX4_init cX4_init 1 none : Cond) ∈ tb := inA_57 _ (List.mem_of_getElem? (i := 13) rfl)
theorem kw_1382 : (.code yX5_init cX5_init 4 none : Cond) ∈ tb := inA_57 _ (List.mem_of_getElem? (i := 14) rfl)
theorem kw_1383 : (.code yX12_declare cX12_declare 3 (some .boolean) : Cond) ∈ tb := inA_57 _ (List.mem_of_getElem? (i := 15) rfl)
theorem kw_1384 : (.code yX12_isClass cX12_isClass 1 (some .boolean) : Cond) ∈ tb := inA_57 _ (List.mem_of_getElem? (i := 16) rfl)
theorem kw_1385 : (.code yX2_begin cX2_begin 3 none : Cond) ∈ tb := inA_57 _ (List.mem_of_getElem? (i := 17) rfl)
theorem kw_1386 : (.code yX12_constructor cX12_constructor 6 (some .boolean) : Cond) ∈ tb := inA_57 _ (List.mem_of_getElem? (i := 18) rfl)
theorem kw_1387 : (.code yX12_areTypes cX12_areTypes 4 (some .boolean) : Cond) ∈ tb := inA_57 _ (List.mem_of_getElem? (i := 19) rfl)
theorem kw_1388 : (.code yX12_isType cX12_isType 1 (some .boolean) : Cond) ∈ tb := inA_57 _ (List.mem_of_getElem? (i := 20) rfl)
theorem kw_1389 : (.code yX2_addConstructor cX2_addConstructor 5 (some .boolean) : Cond) ∈ tb := inA_57 _ (List.mem_of_getElem? (i := 21) rfl)
theorem kw_1390 : (.code yX8_describe cX8_describe 4 none : Cond) ∈ tb := inA_57 _ (List.mem_of_getElem? (i := 22) rfl)
theorem kw_1391 : (.code yX8_setTypes cX8_setTypes 5 none : Cond) ∈ tb := inA_57 _ (List.mem_of_getElem? (i := 23) rfl)
theorem kw_1392 : (.code yX12_setter cX12_setter 4 (some .boolean) : Cond) ∈ tb := inA_58 _ (List.mem_of_getElem? (i := 0) rfl)
theorem kw_1393 : (.code yX12_isLetter cX12_isLetter 1 (some .boolean) : Cond) ∈ tb := inA_58 _ (List.mem_of_getElem? (i := 1) rfl)
theorem kw_1394 : (.code yX2_addSetter cX2_addSetter 3 (some .boolean) : Cond) ∈ tb := inA_58 _ (List.mem_of_getElem? (i := 2) rfl)
theorem kw_1395 : (.code yX12_factory cX12_factory 9 (some .boolean) : Cond) ∈ tb := inA_58 _ (List.mem_of_getElem? (i := 3) rfl)
theorem kw_1396 : (.code yX2_addFactory cX2_addFactory 8 (some .boolean) : Cond) ∈ tb := inA_58 _ (List.mem_of_getElem? (i := 4) rfl)
theorem kw_1397 : (.code yX12_type cX12_type 7 (some .int) : Cond) ∈ tb := inA_58 _ (List.mem_of_getElem? (i := 5) rfl)
theorem kw_1398 : (.code yX12_typedBehind cX12_typedBehind 6 (some .int) : Cond) ∈ tb := inA_58 _ (List.mem_of_getElem? (i := 6) rfl)
theorem kw_1399 : (.code yX12_fault cX12_fault 2 (some .int) : Cond) ∈ tb := inA_58 _ (List.mem_of_getElem? (i := 7) rfl)
theorem kw_1400 : (.code yX5_failure cX5_failure 1 (some .int) : Cond) ∈ tb := inA_58 _ (List.mem_of_getElem? (i := 8) rfl)
theorem kw_1401 : (.code yX5_failureBean cX5_failureBean 1 (some .int) : Cond) ∈ tb := inA_58 _ (List.mem_of_getElem? (i := 9) rfl)
theorem kw_1402 : (.code yX12_close cX12_close 1 (some .int) : Cond) ∈ tb := inA_58 _ (List.mem_of_getElem? (i := 10) rfl)
theorem kw_1403 : (.code yX5_destroyAll cX5_destroyAll 2 none : Cond) ∈ tb := inA_58 _ (List.mem_of_getElem? (i := 11) rfl)
theorem kw_1404 : (.code yX4_add cX4_add 6 none : Cond) ∈ tb := inA_58 _ (List.mem_of_getElem? (i := 12) rfl)
theorem kw_1405 : (.code yX5_forgetMade cX5_forgetMade 2 none : Cond) ∈ tb := inA_58 _ (List.mem_of_getElem? (i := 13) rfl)
theorem kw_1406 : (.code yX10_count cX10_count 1 (some .int) : Cond) ∈ tb := inA_58 _ (List.mem_of_getElem? (i := 14) rfl)
theorem kw_1407 : (.code yX10_numbered cX10_numbered 2 (some (.object "WiredBeans$Bean")) : Cond) ∈ tb := inA_58 _ (List.mem_of_getElem? (i := 15) rfl)
theorem kw_1408 : (.code yX4_count cX4_count 1 (some .int) : Cond) ∈ tb := inA_58 _ (List.mem_of_getElem? (i := 16) rfl)
theorem kw_1409 : (.code yX12_events cX12_events 1 (some .int) : Cond) ∈ tb := inA_58 _ (List.mem_of_getElem? (i := 17) rfl)
theorem kw_1410 : (.code yX12_event cX12_event 3 (some .int) : Cond) ∈ tb := inA_58 _ (List.mem_of_getElem? (i := 18) rfl)
theorem kw_1411 : (.code yX4_number cX4_number 3 (some .int) : Cond) ∈ tb := inA_58 _ (List.mem_of_getElem? (i := 19) rfl)
theorem kw_1412 : (.code yX12_object cX12_object 3 (some .int) : Cond) ∈ tb := inA_58 _ (List.mem_of_getElem? (i := 20) rfl)
theorem kw_1413 : (.code yX5_classOfObject cX5_classOfObject 2 (some .int) : Cond) ∈ tb := inA_58 _ (List.mem_of_getElem? (i := 21) rfl)
theorem kw_1414 : (.code yX5_isObject cX5_isObject 2 (some .boolean) : Cond) ∈ tb := inA_58 _ (List.mem_of_getElem? (i := 22) rfl)
theorem kw_1415 : (.code yX5_beanOfObject cX5_beanOfObject 2 (some .int) : Cond) ∈ tb := inA_58 _ (List.mem_of_getElem? (i := 23) rfl)
theorem kw_1416 : (.code yX12_bean cX12_bean 3 (some .int) : Cond) ∈ tb := inA_59 _ (List.mem_of_getElem? (i := 0) rfl)
theorem kw_1417 : (.code yX1_told cX1_told 2 (some .int) : Cond) ∈ tb := inA_59 _ (List.mem_of_getElem? (i := 1) rfl)
theorem kw_1418 : (.code yJx4a65c_size_8abf5 cJx4a65c_size_8abf5 1 (some .int) : Cond) ∈ tb := inA_59 _ (List.mem_of_getElem? (i := 2) rfl)
theorem kw_1419 : (.codeWith yL_read cL_read 3 (some .int) [(0, 8, 11, 13)] : Cond) ∈ tb := inA_59 _ (List.mem_of_getElem? (i := 3) rfl)
theorem kw_1420 : (.code yX12_read cX12_read 1 (some .int) : Cond) ∈ tb := inA_59 _ (List.mem_of_getElem? (i := 4) rfl)
theorem kw_1421 : (.code yX5_startAfresh cX5_startAfresh 1 none : Cond) ∈ tb := inA_59 _ (List.mem_of_getElem? (i := 5) rfl)
theorem kw_1422 : (.code yX4_clear cX4_clear 1 none : Cond) ∈ tb := inA_59 _ (List.mem_of_getElem? (i := 6) rfl)
theorem kw_1423 : (.codeWith yX7_firstWrongPlace cX7_firstWrongPlace 4 (some .int) [(32, 75, 78, 50)] : Cond) ∈ tb := inA_59 _ (List.mem_of_getElem? (i := 7) rfl)
theorem kw_1424 : (.code yX6_clear cX6_clear 1 none : Cond) ∈ tb := inA_59 _ (List.mem_of_getElem? (i := 8) rfl)
theorem kw_1425 : (.code yX7_skipAround cX7_skipAround 2 none : Cond) ∈ tb := inA_59 _ (List.mem_of_getElem? (i := 9) rfl)
theorem kw_1426 : (.code yX7_skipsWhite cX7_skipsWhite 2 (some .boolean) : Cond) ∈ tb := inA_59 _ (List.mem_of_getElem? (i := 10) rfl)
theorem kw_1427 : (.code yX7_charAt cX7_charAt 2 (some .char) : Cond) ∈ tb := inA_59 _ (List.mem_of_getElem? (i := 11) rfl)
theorem kw_1428 : (.code yX7_skipComment cX7_skipComment 1 none : Cond) ∈ tb := inA_59 _ (List.mem_of_getElem? (i := 12) rfl)
theorem kw_1429 : (.code yX7_expect cX7_expect 2 none : Cond) ∈ tb := inA_59 _ (List.mem_of_getElem? (i := 13) rfl)
theorem kw_1430 : (.code yX7_openElement cX7_openElement 5 none : Cond) ∈ tb := inA_59 _ (List.mem_of_getElem? (i := 14) rfl)
theorem kw_1431 : (.code yX7_isNameLetter cX7_isNameLetter 1 (some .boolean) : Cond) ∈ tb := inA_59 _ (List.mem_of_getElem? (i := 15) rfl)
theorem kw_1432 : (.code yX6_isFull cX6_isFull 1 (some .boolean) : Cond) ∈ tb := inA_59 _ (List.mem_of_getElem? (i := 16) rfl)
theorem kw_1433 : (.code yX7_readName cX7_readName 4 (some .long) : Cond) ∈ tb := inA_59 _ (List.mem_of_getElem? (i := 17) rfl)
theorem kw_1434 : (.code yX6_addElement cX6_addElement 4 (some (.object "WiredBeans$Element")) : Cond) ∈ tb := inA_59 _ (List.mem_of_getElem? (i := 18) rfl)
theorem kw_1435 : (.code yX3_begin cX3_begin 4 none : Cond) ∈ tb := inA_59 _ (List.mem_of_getElem? (i := 19) rfl)
theorem kw_1436 : (.code yX3_forgetWiring cX3_forgetWiring 1 none : Cond) ∈ tb := inA_59 _ (List.mem_of_getElem? (i := 20) rfl)
theorem kw_1437 : (.code yX3_addInner cX3_addInner 4 none : Cond) ∈ tb := inA_59 _ (List.mem_of_getElem? (i := 21) rfl)
theorem kw_1438 : (.code yX11_withKey cX11_withKey 6 (some (.object "WiredBeans$Word")) : Cond) ∈ tb := inA_59 _ (List.mem_of_getElem? (i := 22) rfl)
theorem kw_1439 : (.code yX7_readAttribute cX7_readAttribute 4 none : Cond) ∈ tb := inA_59 _ (List.mem_of_getElem? (i := 23) rfl)
theorem kw_1440 : (.code yX6_hasKey cX6_hasKey 5 (some .boolean) : Cond) ∈ tb := inA_60 _ (List.mem_of_getElem? (i := 0) rfl)
theorem kw_1441 : (.code yX6_addAttribute cX6_addAttribute 4 none : Cond) ∈ tb := inA_60 _ (List.mem_of_getElem? (i := 1) rfl)
theorem kw_1442 : (.code yX7_readCharacter cX7_readCharacter 1 (some .char) : Cond) ∈ tb := inA_60 _ (List.mem_of_getElem? (i := 2) rfl)
theorem kw_1443 : (.code yX7_readEntity cX7_readEntity 4 (some .char) : Cond) ∈ tb := inA_60 _ (List.mem_of_getElem? (i := 3) rfl)
theorem kw_1444 : (.code yJ0_length_8abf5 cJ0_length_8abf5 1 (some .int) : Cond) ∈ tb := inA_60 _ (List.mem_of_getElem? (i := 4) rfl)
theorem kw_1445 : (.code yJ0_coder_7d493 cJ0_coder_7d493 1 (some .byte) : Cond) ∈ tb := inA_60 _ (List.mem_of_getElem? (i := 5) rfl)
theorem kw_1446 : (.code yJ0_charAt_5068e cJ0_charAt_5068e 2 (some .char) : Cond) ∈ tb := inA_60 _ (List.mem_of_getElem? (i := 6) rfl)
theorem kw_1447 : (.code yJ0_isLatin1_aae02 cJ0_isLatin1_aae02 1 (some .boolean) : Cond) ∈ tb := inA_60 _ (List.mem_of_getElem? (i := 7) rfl)
theorem kw_1448 : (.code yJ1_charAt_3b067 cJ1_charAt_3b067 2 (some .char) : Cond) ∈ tb := inA_60 _ (List.mem_of_getElem? (i := 8) rfl)
theorem kw_1449 : (.code yJ0_checkIndex_df160 cJ0_checkIndex_df160 2 none : Cond) ∈ tb := inA_60 _ (List.mem_of_getElem? (i := 9) rfl)
theorem kw_1450 : (.code yJ3_checkIndex_8e157 cJ3_checkIndex_8e157 3 (some .int) : Cond) ∈ tb := inA_60 _ (List.mem_of_getElem? (i := 10) rfl)
theorem kw_1455 : (.code yX7_readNumbered cX7_readNumbered 3 (some .char) : Cond) ∈ tb := inA_60 _ (List.mem_of_getElem? (i := 15) rfl)
theorem kw_1456 : (.code yX6_takesValue cX6_takesValue 3 (some .boolean) : Cond) ∈ tb := inA_60 _ (List.mem_of_getElem? (i := 16) rfl)
theorem kw_1457 : (.code yX7_leaveElement cX7_leaveElement 1 none : Cond) ∈ tb := inA_60 _ (List.mem_of_getElem? (i := 17) rfl)
theorem kw_1458 : (.code yX7_readContent cX7_readContent 2 none : Cond) ∈ tb := inA_60 _ (List.mem_of_getElem? (i := 18) rfl)
theorem kw_1459 : (.code yX3_takesText cX3_takesText 2 (some .boolean) : Cond) ∈ tb := inA_60 _ (List.mem_of_getElem? (i := 19) rfl)
theorem kw_1460 : (.code yX3_takeWhite cX3_takeWhite 2 none : Cond) ∈ tb := inA_60 _ (List.mem_of_getElem? (i := 20) rfl)
theorem kw_1461 : (.code yX7_closeElement cX7_closeElement 3 none : Cond) ∈ tb := inA_60 _ (List.mem_of_getElem? (i := 21) rfl)
theorem kw_1462 : (.code yX7_refuseMore cX7_refuseMore 1 none : Cond) ∈ tb := inA_60 _ (List.mem_of_getElem? (i := 22) rfl)
theorem kw_1463 : (.code yX9_firstWrongPlace cX9_firstWrongPlace 2 (some .int) : Cond) ∈ tb := inA_60 _ (List.mem_of_getElem? (i := 23) rfl)
theorem kw_1464 : (.code yX6_count cX6_count 1 (some .int) : Cond) ∈ tb := inA_61 _ (List.mem_of_getElem? (i := 0) rfl)
theorem kw_1465 : (.code yX6_element cX6_element 2 (some (.object "WiredBeans$Element")) : Cond) ∈ tb := inA_61 _ (List.mem_of_getElem? (i := 1) rfl)
theorem kw_1466 : (.code yX9_isRight cX9_isRight 2 (some .boolean) : Cond) ∈ tb := inA_61 _ (List.mem_of_getElem? (i := 2) rfl)
theorem kw_1467 : (.code yX9_standsRight cX9_standsRight 2 (some .boolean) : Cond) ∈ tb := inA_61 _ (List.mem_of_getElem? (i := 3) rfl)
theorem kw_1468 : (.code yJx29ce0_ordinal_8abf5 cJx29ce0_ordinal_8abf5 1 (some .int) : Cond) ∈ tb := inA_61 _ (List.mem_of_getElem? (i := 4) rfl)
theorem kw_1469 : (.code yX3_isIn cX3_isIn 2 (some .boolean) : Cond) ∈ tb := inA_61 _ (List.mem_of_getElem? (i := 5) rfl)
theorem kw_1470 : (.code yX9_isHeld cX9_isHeld 2 (some .boolean) : Cond) ∈ tb := inA_61 _ (List.mem_of_getElem? (i := 6) rfl)
theorem kw_1471 : (.code yX9_likeBefore cX9_likeBefore 5 (some .int) : Cond) ∈ tb := inA_61 _ (List.mem_of_getElem? (i := 7) rfl)
theorem kw_1472 : (.code yX9_isFirstOfName cX9_isFirstOfName 5 (some .boolean) : Cond) ∈ tb := inA_61 _ (List.mem_of_getElem? (i := 8) rfl)
theorem kw_1473 : (.code yX6_letterValue cX6_letterValue 5 (some .int) : Cond) ∈ tb := inA_61 _ (List.mem_of_getElem? (i := 9) rfl)
theorem kw_1474 : (.code yX6_find cX6_find 4 (some .int) : Cond) ∈ tb := inA_61 _ (List.mem_of_getElem? (i := 10) rfl)
theorem kw_1475 : (.code yX6_valueLength cX6_valueLength 2 (some .int) : Cond) ∈ tb := inA_61 _ (List.mem_of_getElem? (i := 11) rfl)
theorem kw_1476 : (.code yX6_valueChar cX6_valueChar 3 (some .char) : Cond) ∈ tb := inA_61 _ (List.mem_of_getElem? (i := 12) rfl)
theorem kw_1477 : (.code yX9_hasRightAttributes cX9_hasRightAttributes 4 (some .boolean) : Cond) ∈ tb := inA_61 _ (List.mem_of_getElem? (i := 13) rfl)
theorem kw_1478 : (.code yX6_attributeWord cX6_attributeWord 2 (some (.object "WiredBeans$Word")) : Cond) ∈ tb := inA_61 _ (List.mem_of_getElem? (i := 14) rfl)
theorem kw_1479 : (.code yX9_mayHave cX9_mayHave 3 (some .boolean) : Cond) ∈ tb := inA_61 _ (List.mem_of_getElem? (i := 15) rfl)
theorem kw_1480 : (.code yX9_beanMayHave cX9_beanMayHave 3 (some .boolean) : Cond) ∈ tb := inA_61 _ (List.mem_of_getElem? (i := 16) rfl)
theorem kw_1481 : (.code yX9_hasRightValue cX9_hasRightValue 3 (some .boolean) : Cond) ∈ tb := inA_61 _ (List.mem_of_getElem? (i := 17) rfl)
theorem kw_1482 : (.code yX6_nameValue cX6_nameValue 9 (some .long) : Cond) ∈ tb := inA_61 _ (List.mem_of_getElem? (i := 18) rfl)
theorem kw_1483 : (.code yX6_classValue cX6_classValue 5 (some .int) : Cond) ∈ tb := inA_61 _ (List.mem_of_getElem? (i := 19) rfl)
theorem kw_1484 : (.code yX6_valueIs cX6_valueIs 4 (some .boolean) : Cond) ∈ tb := inA_61 _ (List.mem_of_getElem? (i := 20) rfl)
theorem kw_1485 : (.code yX6_placeValue cX6_placeValue 5 (some .int) : Cond) ∈ tb := inA_61 _ (List.mem_of_getElem? (i := 21) rfl)
theorem kw_1486 : (.code yX6_typeValue cX6_typeValue 5 (some .int) : Cond) ∈ tb := inA_61 _ (List.mem_of_getElem? (i := 22) rfl)
theorem kw_1487 : (.code yX9_hasWhatItNeeds cX9_hasWhatItNeeds 2 (some .boolean) : Cond) ∈ tb := inA_61 _ (List.mem_of_getElem? (i := 23) rfl)
theorem kw_1488 : (.code yX6_has cX6_has 3 (some .boolean) : Cond) ∈ tb := inA_62 _ (List.mem_of_getElem? (i := 0) rfl)
theorem kw_1489 : (.code yX9_beanHasWhatItNeeds cX9_beanHasWhatItNeeds 2 (some .boolean) : Cond) ∈ tb := inA_62 _ (List.mem_of_getElem? (i := 1) rfl)
theorem kw_1490 : (.code yX9_hasRightCount cX9_hasRightCount 2 (some .boolean) : Cond) ∈ tb := inA_62 _ (List.mem_of_getElem? (i := 2) rfl)
theorem kw_1491 : (.code yX10_firstWrongPlace cX10_firstWrongPlace 2 (some .int) : Cond) ∈ tb := inA_62 _ (List.mem_of_getElem? (i := 3) rfl)
theorem kw_1492 : (.code yX10_settle cX10_settle 2 none : Cond) ∈ tb := inA_62 _ (List.mem_of_getElem? (i := 4) rfl)
theorem kw_1493 : (.code yX1_begin cX1_begin 3 none : Cond) ∈ tb := inA_62 _ (List.mem_of_getElem? (i := 5) rfl)
theorem kw_1494 : (.code yJx4a65c_clear_da8c8 cJx4a65c_clear_da8c8 4 none : Cond) ∈ tb := inA_62 _ (List.mem_of_getElem? (i := 6) rfl)
theorem kw_1495 : (.code yX10_settleContent cX10_settleContent 2 none : Cond) ∈ tb := inA_62 _ (List.mem_of_getElem? (i := 7) rfl)
theorem kw_1496 : (.code yX6_valueToText cX6_valueToText 6 none : Cond) ∈ tb := inA_62 _ (List.mem_of_getElem? (i := 8) rfl)
theorem kw_1497 : (.code yX3_weighText cX3_weighText 1 none : Cond) ∈ tb := inA_62 _ (List.mem_of_getElem? (i := 9) rfl)
theorem kw_1498 : (.code yX3_textAsNumber cX3_textAsNumber 7 (some .long) : Cond) ∈ tb := inA_62 _ (List.mem_of_getElem? (i := 10) rfl)
theorem kw_1499 : (.code yX3_textIs cX3_textIs 3 (some .boolean) : Cond) ∈ tb := inA_62 _ (List.mem_of_getElem? (i := 11) rfl)
theorem kw_1500 : (.code yX10_isRight cX10_isRight 4 (some .boolean) : Cond) ∈ tb := inA_62 _ (List.mem_of_getElem? (i := 12) rfl)
theorem kw_1501 : (.code yX10_hasRightParent cX10_hasRightParent 3 (some .boolean) : Cond) ∈ tb := inA_62 _ (List.mem_of_getElem? (i := 13) rfl)
theorem kw_1502 : (.code yX10_withId cX10_withId 4 (some (.object "WiredBeans$Bean")) : Cond) ∈ tb := inA_62 _ (List.mem_of_getElem? (i := 14) rfl)
theorem kw_1503 : (.code yX10_comesToItself cX10_comesToItself 4 (some .boolean) : Cond) ∈ tb := inA_62 _ (List.mem_of_getElem? (i := 15) rfl)
theorem kw_1504 : (.code yX10_merge cX10_merge 5 none : Cond) ∈ tb := inA_62 _ (List.mem_of_getElem? (i := 16) rfl)
theorem kw_1505 : (.code yX1_overlay cX1_overlay 3 none : Cond) ∈ tb := inA_62 _ (List.mem_of_getElem? (i := 17) rfl)
theorem kw_1506 : (.code yX1_overlayInner cX1_overlayInner 5 none : Cond) ∈ tb := inA_62 _ (List.mem_of_getElem? (i := 18) rfl)
theorem kw_1507 : (.code yJx4a65c_add_9ea2d cJx4a65c_add_9ea2d 2 (some .boolean) : Cond) ∈ tb := inA_62 _ (List.mem_of_getElem? (i := 19) rfl)
theorem kw_1508 : (.code yJx4a65c_add_72be8 cJx4a65c_add_72be8 4 none : Cond) ∈ tb := inA_62 _ (List.mem_of_getElem? (i := 20) rfl)
theorem kw_1509 : (.code yJx4a65c_grow_d5877 cJx4a65c_grow_d5877 1 (some (.array (.object "java/lang/Object"))) : Cond) ∈ tb := inA_62 _ (List.mem_of_getElem? (i := 21) rfl)
theorem kw_1510 : (.code yJx4a65c_grow_92f84 cJx4a65c_grow_92f84 4 (some (.array (.object "java/lang/Object"))) : Cond) ∈ tb := inA_62 _ (List.mem_of_getElem? (i := 22) rfl)
theorem kw_1511 : (.code yJ8_newLength_cabcc cJ8_newLength_cabcc 4 (some .int) : Cond) ∈ tb := inA_62 _ (List.mem_of_getElem? (i := 23) rfl)
theorem kw_1512 : (.code Lib.Math.max.name Lib.Math.max.code 2 (some .int) : Cond) ∈ tb := inA_63 _ (List.mem_of_getElem? (i := 0) rfl)
theorem kw_1514 : (.code yJ7_copyOf_1904c cJ7_copyOf_1904c 2 (some (.array (.object "java/lang/Object"))) : Cond) ∈ tb := inA_63 _ (List.mem_of_getElem? (i := 2) rfl)
theorem kw_1515 : (.code yJ7_copyOf_6403c cJ7_copyOf_6403c 4 (some (.array (.object "java/lang/Object"))) : Cond) ∈ tb := inA_63 _ (List.mem_of_getElem? (i := 3) rfl)
theorem kw_1516 : (.code Lib.Math.min.name Lib.Math.min.code 2 (some .int) : Cond) ∈ tb := inA_63 _ (List.mem_of_getElem? (i := 4) rfl)
theorem kw_1517 : (.code yX1_putNamed cX1_putNamed 3 none : Cond) ∈ tb := inA_63 _ (List.mem_of_getElem? (i := 5) rfl)
theorem kw_1518 : (.code yJx4a65c_get_915e3 cJx4a65c_get_915e3 2 (some (.object "java/lang/Object")) : Cond) ∈ tb := inA_63 _ (List.mem_of_getElem? (i := 6) rfl)
theorem kw_1519 : (.code yJ15_checkIndex_7cf53 cJ15_checkIndex_7cf53 2 (some .int) : Cond) ∈ tb := inA_63 _ (List.mem_of_getElem? (i := 7) rfl)
theorem kw_1520 : (.code yJx4a65c_elementData_915e3 cJx4a65c_elementData_915e3 2 (some (.object "java/lang/Object")) : Cond) ∈ tb := inA_63 _ (List.mem_of_getElem? (i := 8) rfl)
theorem kw_1521 : (.code yJx4a65c_set_bcc79 cJx4a65c_set_bcc79 4 (some (.object "java/lang/Object")) : Cond) ∈ tb := inA_63 _ (List.mem_of_getElem? (i := 9) rfl)
theorem kw_1522 : (.code yX10_forgetBeans cX10_forgetBeans 1 none : Cond) ∈ tb := inA_63 _ (List.mem_of_getElem? (i := 10) rfl)
theorem kw_1523 : (.codeWith yL_refresh cL_refresh 3 (some .int) [(0, 8, 11, 18), (0, 8, 14, 20)] : Cond) ∈ tb := inA_63 _ (List.mem_of_getElem? (i := 11) rfl)
theorem kw_1524 : (.code yX12_refresh cX12_refresh 1 (some .int) : Cond) ∈ tb := inA_63 _ (List.mem_of_getElem? (i := 12) rfl)
theorem kw_1525 : (.code yX5_forgetFailure cX5_forgetFailure 1 none : Cond) ∈ tb := inA_63 _ (List.mem_of_getElem? (i := 13) rfl)
theorem kw_1526 : (.codeWith yX5_renewsAll cX5_renewsAll 3 (some .boolean) [(11, 79, 82, 103)] : Cond) ∈ tb := inA_63 _ (List.mem_of_getElem? (i := 14) rfl)
theorem kw_1527 : (.code yX5_obtain cX5_obtain 5 (some .int) : Cond) ∈ tb := inA_63 _ (List.mem_of_getElem? (i := 15) rfl)
theorem kw_1528 : (.code yX10_called cX10_called 7 (some (.object "WiredBeans$Bean")) : Cond) ∈ tb := inA_63 _ (List.mem_of_getElem? (i := 16) rfl)
theorem kw_1529 : (.code yX10_nameBehindAlias cX10_nameBehindAlias 5 (some .long) : Cond) ∈ tb := inA_63 _ (List.mem_of_getElem? (i := 17) rfl)
theorem kw_1530 : (.code yX5_failWith cX5_failWith 2 (some .int) : Cond) ∈ tb := inA_63 _ (List.mem_of_getElem? (i := 18) rfl)
theorem kw_1531 : (.code yX5_make cX5_make 5 (some .int) : Cond) ∈ tb := inA_63 _ (List.mem_of_getElem? (i := 19) rfl)
theorem kw_1532 : (.code yX5_workOutArgs cX5_workOutArgs 4 none : Cond) ∈ tb := inA_63 _ (List.mem_of_getElem? (i := 20) rfl)
theorem kw_1533 : (.code yX5_slot cX5_slot 2 (some .int) : Cond) ∈ tb := inA_63 _ (List.mem_of_getElem? (i := 21) rfl)
theorem kw_1534 : (.code yX5_workOut cX5_workOut 6 none : Cond) ∈ tb := inA_63 _ (List.mem_of_getElem? (i := 22) rfl)
theorem kw_1535 : (.code yX5_itemValue cX5_itemValue 3 (some .int) : Cond) ∈ tb := inA_63 _ (List.mem_of_getElem? (i := 23) rfl)
theorem kw_1536 : (.code yX5_objectOf cX5_objectOf 3 (some .int) : Cond) ∈ tb := inA_64 _ (List.mem_of_getElem? (i := 0) rfl)
theorem kw_1537 : (.code yX5_chooseFor cX5_chooseFor 13 (some (.object "WiredBeans$Signature")) : Cond) ∈ tb := inA_64 _ (List.mem_of_getElem? (i := 1) rfl)
theorem kw_1538 : (.code yX2_withFactory cX2_withFactory 5 (some (.object "WiredBeans$DeclaredClass")) : Cond) ∈ tb := inA_64 _ (List.mem_of_getElem? (i := 2) rfl)
theorem kw_1539 : (.code yX2_ownsFactory cX2_ownsFactory 4 (some .boolean) : Cond) ∈ tb := inA_64 _ (List.mem_of_getElem? (i := 3) rfl)
theorem kw_1540 : (.code yX8_isCalled cX8_isCalled 3 (some .boolean) : Cond) ∈ tb := inA_64 _ (List.mem_of_getElem? (i := 4) rfl)
theorem kw_1541 : (.code yX5_placesArgs cX5_placesArgs 5 (some .boolean) : Cond) ∈ tb := inA_64 _ (List.mem_of_getElem? (i := 5) rfl)
theorem kw_1542 : (.code yX5_placeOthers cX5_placeOthers 5 none : Cond) ∈ tb := inA_64 _ (List.mem_of_getElem? (i := 6) rfl)
theorem kw_1543 : (.code yX5_sumFor cX5_sumFor 9 (some .int) : Cond) ∈ tb := inA_64 _ (List.mem_of_getElem? (i := 7) rfl)
theorem kw_1544 : (.code yX5_weightOf cX5_weightOf 4 (some .int) : Cond) ∈ tb := inA_64 _ (List.mem_of_getElem? (i := 8) rfl)
theorem kw_1545 : (.code yX5_textWeight cX5_textWeight 2 (some .int) : Cond) ∈ tb := inA_64 _ (List.mem_of_getElem? (i := 9) rfl)
theorem kw_1546 : (.code yX5_objectWeight cX5_objectWeight 4 (some .int) : Cond) ∈ tb := inA_64 _ (List.mem_of_getElem? (i := 10) rfl)
theorem kw_1547 : (.code yX2_stepsTo cX2_stepsTo 4 (some .int) : Cond) ∈ tb := inA_64 _ (List.mem_of_getElem? (i := 11) rfl)
theorem kw_1548 : (.code yX5_bringToBe cX5_bringToBe 7 none : Cond) ∈ tb := inA_64 _ (List.mem_of_getElem? (i := 12) rfl)
theorem kw_1549 : (.code yX5_tellValue cX5_tellValue 8 none : Cond) ∈ tb := inA_64 _ (List.mem_of_getElem? (i := 13) rfl)
theorem kw_1550 : (.code yX5_valueOf cX5_valueOf 4 (some .int) : Cond) ∈ tb := inA_64 _ (List.mem_of_getElem? (i := 14) rfl)
theorem kw_1551 : (.code yX5_textValue cX5_textValue 2 (some .int) : Cond) ∈ tb := inA_64 _ (List.mem_of_getElem? (i := 15) rfl)
theorem kw_1552 : (.code yX5_applySets cX5_applySets 8 none : Cond) ∈ tb := inA_64 _ (List.mem_of_getElem? (i := 16) rfl)
theorem kw_1553 : (.code yX2_setterType cX2_setterType 4 (some .int) : Cond) ∈ tb := inA_64 _ (List.mem_of_getElem? (i := 17) rfl)
theorem kw_1554 : (.code yX5_finish cX5_finish 2 none : Cond) ∈ tb := inA_64 _ (List.mem_of_getElem? (i := 18) rfl)
theorem kw_1555 : (.code yX5_stopMaking cX5_stopMaking 2 none : Cond) ∈ tb := inA_64 _ (List.mem_of_getElem? (i := 19) rfl)
theorem kw_1556 : (.code yX5_objectCount cX5_objectCount 1 (some .int) : Cond) ∈ tb := inA_64 _ (List.mem_of_getElem? (i := 20) rfl)
theorem kw_1557 : (.codeWith yL_get cL_get 5 (some .int) [(0, 9, 12, 18), (0, 9, 16, 20)] : Cond) ∈ tb := inA_64 _ (List.mem_of_getElem? (i := 21) rfl)
theorem kw_1558 : (.code yX12_get cX12_get 4 (some .int) : Cond) ∈ tb := inA_64 _ (List.mem_of_getElem? (i := 22) rfl)
theorem kw_1559 : (.code yX12_withoutZeros cX12_withoutZeros 7 (some .long) : Cond) ∈ tb := inA_64 _ (List.mem_of_getElem? (i := 23) rfl)
theorem kw_1560 : (.codeWith yX5_objectCalled cX5_objectCalled 4 (some .int) [(0, 6, 7, 103)] : Cond) ∈ tb := inA_65 _ (List.mem_of_getElem? (i := 0) rfl)
theorem kw_1561 : (.codeWith yL_call cL_call 5 (some .int) [(0, 10, 13, 18), (0, 10, 17, 30), (0, 10, 21, 20)] : Cond) ∈ tb := inA_65 _ (List.mem_of_getElem? (i := 1) rfl)
theorem kw_1562 : (.code yX12_call cX12_call 5 (some .int) : Cond) ∈ tb := inA_65 _ (List.mem_of_getElem? (i := 2) rfl)
theorem kw_1563 : (.code yX5_lookupOf cX5_lookupOf 3 (some (.object "WiredBeans$Element")) : Cond) ∈ tb := inA_65 _ (List.mem_of_getElem? (i := 3) rfl)
theorem kw_1564 : (.code yX1_lookupNamed cX1_lookupNamed 3 (some (.object "WiredBeans$Element")) : Cond) ∈ tb := inA_65 _ (List.mem_of_getElem? (i := 4) rfl)
theorem kw_1565 : (.code yX13_init cX13_init 2 none : Cond) ∈ tb := inA_65 _ (List.mem_of_getElem? (i := 5) rfl)
theorem kw_1566 : (.code yX13_declare cX13_declare 3 (some .boolean) : Cond) ∈ tb := inA_65 _ (List.mem_of_getElem? (i := 6) rfl)
theorem kw_1567 : (.code yX13_isClass cX13_isClass 1 (some .boolean) : Cond) ∈ tb := inA_65 _ (List.mem_of_getElem? (i := 7) rfl)
theorem kw_1568 : (.code yX13_constructor cX13_constructor 7 (some .boolean) : Cond) ∈ tb := inA_65 _ (List.mem_of_getElem? (i := 8) rfl)
theorem kw_1569 : (.code yX13_areTypes cX13_areTypes 4 (some .boolean) : Cond) ∈ tb := inA_65 _ (List.mem_of_getElem? (i := 9) rfl)
theorem kw_1570 : (.code yX13_isType cX13_isType 1 (some .boolean) : Cond) ∈ tb := inA_65 _ (List.mem_of_getElem? (i := 10) rfl)
theorem kw_1571 : (.code yX13_setter cX13_setter 5 (some .boolean) : Cond) ∈ tb := inA_65 _ (List.mem_of_getElem? (i := 11) rfl)
theorem kw_1572 : (.code yX13_isLetter cX13_isLetter 1 (some .boolean) : Cond) ∈ tb := inA_65 _ (List.mem_of_getElem? (i := 12) rfl)
theorem kw_1573 : (.code yX13_factory cX13_factory 10 (some .boolean) : Cond) ∈ tb := inA_65 _ (List.mem_of_getElem? (i := 13) rfl)
theorem kw_1574 : (.code yX13_type cX13_type 10 (some .int) : Cond) ∈ tb := inA_65 _ (List.mem_of_getElem? (i := 14) rfl)
theorem kw_1575 : (.code yX13_read cX13_read 4 (some .int) : Cond) ∈ tb := inA_65 _ (List.mem_of_getElem? (i := 15) rfl)
theorem kw_1576 : (.code yX13_clear cX13_clear 2 none : Cond) ∈ tb := inA_65 _ (List.mem_of_getElem? (i := 16) rfl)
theorem kw_1577 : (.code yX13_readDocument cX13_readDocument 5 none : Cond) ∈ tb := inA_65 _ (List.mem_of_getElem? (i := 17) rfl)
theorem kw_1578 : (.code yX13_between cX13_between 2 none : Cond) ∈ tb := inA_65 _ (List.mem_of_getElem? (i := 18) rfl)
theorem kw_1579 : (.code yX13_white cX13_white 2 (some .int) : Cond) ∈ tb := inA_65 _ (List.mem_of_getElem? (i := 19) rfl)
theorem kw_1580 : (.code yX13_here cX13_here 2 (some .int) : Cond) ∈ tb := inA_65 _ (List.mem_of_getElem? (i := 20) rfl)
theorem kw_1581 : (.code yX13_isWhite cX13_isWhite 2 (some .boolean) : Cond) ∈ tb := inA_65 _ (List.mem_of_getElem? (i := 21) rfl)
theorem kw_1582 : (.code yX13_comment cX13_comment 2 none : Cond) ∈ tb := inA_65 _ (List.mem_of_getElem? (i := 22) rfl)
theorem kw_1583 : (.code yX13_must cX13_must 2 none : Cond) ∈ tb := inA_65 _ (List.mem_of_getElem? (i := 23) rfl)
theorem kw_1584 : (.code yX13_bad cX13_bad 2 none : Cond) ∈ tb := inA_66 _ (List.mem_of_getElem? (i := 0) rfl)
theorem kw_1585 : (.code yX13_isSmall cX13_isSmall 2 (some .boolean) : Cond) ∈ tb := inA_66 _ (List.mem_of_getElem? (i := 1) rfl)
theorem kw_1586 : (.code yX13_begin cX13_begin 6 (some .int) : Cond) ∈ tb := inA_66 _ (List.mem_of_getElem? (i := 2) rfl)
theorem kw_1587 : (.code yX13_name cX13_name 4 (some .long) : Cond) ∈ tb := inA_66 _ (List.mem_of_getElem? (i := 3) rfl)
theorem kw_1588 : (.code yX13_attribute cX13_attribute 6 none : Cond) ∈ tb := inA_66 _ (List.mem_of_getElem? (i := 4) rfl)
theorem kw_1589 : (.code yX13_find cX13_find 5 (some .int) : Cond) ∈ tb := inA_66 _ (List.mem_of_getElem? (i := 5) rfl)
theorem kw_1590 : (.code yX13_entity cX13_entity 5 (some .int) : Cond) ∈ tb := inA_66 _ (List.mem_of_getElem? (i := 6) rfl)
theorem kw_1591 : (.code yX13_numberedEntity cX13_numberedEntity 3 (some .int) : Cond) ∈ tb := inA_66 _ (List.mem_of_getElem? (i := 7) rfl)
theorem kw_1592 : (.code yX13_agrees cX13_agrees 4 (some .boolean) : Cond) ∈ tb := inA_66 _ (List.mem_of_getElem? (i := 8) rfl)
theorem kw_1593 : (.code yX13_add cX13_add 3 none : Cond) ∈ tb := inA_66 _ (List.mem_of_getElem? (i := 9) rfl)
theorem kw_1594 : (.code yX13_end cX13_end 5 none : Cond) ∈ tb := inA_66 _ (List.mem_of_getElem? (i := 10) rfl)
theorem kw_1595 : (.code yX13_badStructure cX13_badStructure 3 (some .int) : Cond) ∈ tb := inA_66 _ (List.mem_of_getElem? (i := 11) rfl)
theorem kw_1596 : (.code yX13_isGood cX13_isGood 3 (some .boolean) : Cond) ∈ tb := inA_66 _ (List.mem_of_getElem? (i := 12) rfl)
theorem kw_1597 : (.code yX13_isInPlace cX13_isInPlace 3 (some .boolean) : Cond) ∈ tb := inA_66 _ (List.mem_of_getElem? (i := 13) rfl)
theorem kw_1598 : (.code yX13_isAllowed cX13_isAllowed 4 (some .boolean) : Cond) ∈ tb := inA_66 _ (List.mem_of_getElem? (i := 14) rfl)
theorem kw_1599 : (.code yX13_isWord cX13_isWord 6 (some .boolean) : Cond) ∈ tb := inA_66 _ (List.mem_of_getElem? (i := 15) rfl)
theorem kw_1600 : (.code yX13_isGoodBean cX13_isGoodBean 8 (some .boolean) : Cond) ∈ tb := inA_66 _ (List.mem_of_getElem? (i := 16) rfl)
theorem kw_1601 : (.code yX13_has cX13_has 4 (some .boolean) : Cond) ∈ tb := inA_66 _ (List.mem_of_getElem? (i := 17) rfl)
theorem kw_1602 : (.code yX13_isOneLetter cX13_isOneLetter 4 (some .boolean) : Cond) ∈ tb := inA_66 _ (List.mem_of_getElem? (i := 18) rfl)
theorem kw_1603 : (.code yX13_word cX13_word 8 (some .long) : Cond) ∈ tb := inA_66 _ (List.mem_of_getElem? (i := 19) rfl)
theorem kw_1604 : (.code yX13_classIn cX13_classIn 2 (some .int) : Cond) ∈ tb := inA_66 _ (List.mem_of_getElem? (i := 20) rfl)
theorem kw_1605 : (.code yX13_isOneOf cX13_isOneOf 6 (some .boolean) : Cond) ∈ tb := inA_66 _ (List.mem_of_getElem? (i := 21) rfl)
theorem kw_1606 : (.code yX13_isGoodHolder cX13_isGoodHolder 3 (some .boolean) : Cond) ∈ tb := inA_66 _ (List.mem_of_getElem? (i := 22) rfl)
theorem kw_1607 : (.code yX13_ahead cX13_ahead 5 (some .int) : Cond) ∈ tb := inA_66 _ (List.mem_of_getElem? (i := 23) rfl)
theorem kw_1608 : (.code yX13_typeIn cX13_typeIn 5 (some .int) : Cond) ∈ tb := inA_67 _ (List.mem_of_getElem? (i := 0) rfl)
theorem kw_1609 : (.code yX13_badBeans cX13_badBeans 4 (some .int) : Cond) ∈ tb := inA_67 _ (List.mem_of_getElem? (i := 1) rfl)
theorem kw_1610 : (.code yX13_isUsed cX13_isUsed 5 (some .boolean) : Cond) ∈ tb := inA_67 _ (List.mem_of_getElem? (i := 2) rfl)
theorem kw_1611 : (.code yX13_parentOf cX13_parentOf 2 (some .int) : Cond) ∈ tb := inA_67 _ (List.mem_of_getElem? (i := 3) rfl)
theorem kw_1612 : (.code yX13_withId cX13_withId 4 (some .int) : Cond) ∈ tb := inA_67 _ (List.mem_of_getElem? (i := 4) rfl)
theorem kw_1613 : (.code yX13_comesToItself cX13_comesToItself 4 (some .boolean) : Cond) ∈ tb := inA_67 _ (List.mem_of_getElem? (i := 5) rfl)
theorem kw_1614 : (.code yX13_mergeBean cX13_mergeBean 6 none : Cond) ∈ tb := inA_67 _ (List.mem_of_getElem? (i := 6) rfl)
theorem kw_1615 : (.code yX13_inner cX13_inner 5 (some .int) : Cond) ∈ tb := inA_67 _ (List.mem_of_getElem? (i := 7) rfl)
theorem kw_1616 : (.code yX13_merge cX13_merge 6 (some .int) : Cond) ∈ tb := inA_67 _ (List.mem_of_getElem? (i := 8) rfl)
theorem kw_1617 : (.code yX13_fault cX13_fault 2 (some .int) : Cond) ∈ tb := inA_67 _ (List.mem_of_getElem? (i := 9) rfl)
theorem kw_1618 : (.code yX13_refresh cX13_refresh 4 (some .int) : Cond) ∈ tb := inA_67 _ (List.mem_of_getElem? (i := 10) rfl)
theorem kw_1619 : (.code yX13_isAbstract cX13_isAbstract 2 (some .boolean) : Cond) ∈ tb := inA_67 _ (List.mem_of_getElem? (i := 11) rfl)
theorem kw_1620 : (.code yX13_isMany cX13_isMany 2 (some .boolean) : Cond) ∈ tb := inA_67 _ (List.mem_of_getElem? (i := 12) rfl)
theorem kw_1621 : (.code yX13_run cX13_run 4 (some .boolean) : Cond) ∈ tb := inA_67 _ (List.mem_of_getElem? (i := 13) rfl)
theorem kw_1622 : (.code yX13_gets cX13_gets 2 (some .boolean) : Cond) ∈ tb := inA_67 _ (List.mem_of_getElem? (i := 14) rfl)
theorem kw_1623 : (.code yX13_fails cX13_fails 2 none : Cond) ∈ tb := inA_67 _ (List.mem_of_getElem? (i := 15) rfl)
theorem kw_1624 : (.code yX13_step cX13_step 4 none : Cond) ∈ tb := inA_67 _ (List.mem_of_getElem? (i := 16) rfl)
theorem kw_1625 : (.code yX13_called cX13_called 10 (some .int) : Cond) ∈ tb := inA_67 _ (List.mem_of_getElem? (i := 17) rfl)
theorem kw_1626 : (.code yX13_deliver cX13_deliver 5 none : Cond) ∈ tb := inA_67 _ (List.mem_of_getElem? (i := 18) rfl)
theorem kw_1627 : (.code yX13_arg cX13_arg 6 (some .int) : Cond) ∈ tb := inA_67 _ (List.mem_of_getElem? (i := 19) rfl)
theorem kw_1628 : (.code yX13_argsOf cX13_argsOf 3 (some .int) : Cond) ∈ tb := inA_67 _ (List.mem_of_getElem? (i := 20) rfl)
theorem kw_1629 : (.code yX13_keep cX13_keep 5 none : Cond) ∈ tb := inA_67 _ (List.mem_of_getElem? (i := 21) rfl)
theorem kw_1630 : (.code yX13_tells cX13_tells 5 (some .int) : Cond) ∈ tb := inA_67 _ (List.mem_of_getElem? (i := 22) rfl)
theorem kw_1631 : (.code yX13_args cX13_args 3 (some .int) : Cond) ∈ tb := inA_67 _ (List.mem_of_getElem? (i := 23) rfl)
theorem kw_1632 : (.code yX13_workedOut cX13_workedOut 8 (some .boolean) : Cond) ∈ tb := inA_68 _ (List.mem_of_getElem? (i := 0) rfl)
theorem kw_1633 : (.code yX13_worked cX13_worked 6 (some .boolean) : Cond) ∈ tb := inA_68 _ (List.mem_of_getElem? (i := 1) rfl)
theorem kw_1634 : (.code yX13_next cX13_next 3 none : Cond) ∈ tb := inA_68 _ (List.mem_of_getElem? (i := 2) rfl)
theorem kw_1635 : (.code yX13_makeObject cX13_makeObject 9 none : Cond) ∈ tb := inA_68 _ (List.mem_of_getElem? (i := 3) rfl)
theorem kw_1636 : (.code yX13_letter cX13_letter 5 (some .int) : Cond) ∈ tb := inA_68 _ (List.mem_of_getElem? (i := 4) rfl)
theorem kw_1637 : (.code yX13_classOf cX13_classOf 3 (some .int) : Cond) ∈ tb := inA_68 _ (List.mem_of_getElem? (i := 5) rfl)
theorem kw_1638 : (.code yX13_classWithFactory cX13_classWithFactory 6 (some .int) : Cond) ∈ tb := inA_68 _ (List.mem_of_getElem? (i := 6) rfl)
theorem kw_1639 : (.code yX13_isFactory cX13_isFactory 4 (some .boolean) : Cond) ∈ tb := inA_68 _ (List.mem_of_getElem? (i := 7) rfl)
theorem kw_1640 : (.code yX13_chosen cX13_chosen 10 (some .int) : Cond) ∈ tb := inA_68 _ (List.mem_of_getElem? (i := 8) rfl)
theorem kw_1641 : (.code yX13_sum cX13_sum 11 (some .int) : Cond) ∈ tb := inA_68 _ (List.mem_of_getElem? (i := 9) rfl)
theorem kw_1642 : (.code yX13_placed cX13_placed 6 (some .boolean) : Cond) ∈ tb := inA_68 _ (List.mem_of_getElem? (i := 10) rfl)
theorem kw_1643 : (.code yX13_weight cX13_weight 6 (some .int) : Cond) ∈ tb := inA_68 _ (List.mem_of_getElem? (i := 11) rfl)
theorem kw_1644 : (.code yX13_numberIn cX13_numberIn 8 (some .long) : Cond) ∈ tb := inA_68 _ (List.mem_of_getElem? (i := 12) rfl)
theorem kw_1645 : (.code yX13_length cX13_length 2 (some .int) : Cond) ∈ tb := inA_68 _ (List.mem_of_getElem? (i := 13) rfl)
theorem kw_1646 : (.code yX13_sign cX13_sign 3 (some .int) : Cond) ∈ tb := inA_68 _ (List.mem_of_getElem? (i := 14) rfl)
theorem kw_1647 : (.code yX13_is cX13_is 7 (some .boolean) : Cond) ∈ tb := inA_68 _ (List.mem_of_getElem? (i := 15) rfl)
theorem kw_1648 : (.code yX13_happens cX13_happens 5 none : Cond) ∈ tb := inA_68 _ (List.mem_of_getElem? (i := 16) rfl)
theorem kw_1649 : (.code yX13_tell cX13_tell 7 none : Cond) ∈ tb := inA_68 _ (List.mem_of_getElem? (i := 17) rfl)
theorem kw_1650 : (.code yX13_told cX13_told 4 (some .int) : Cond) ∈ tb := inA_68 _ (List.mem_of_getElem? (i := 18) rfl)
theorem kw_1651 : (.code yX13_finish cX13_finish 3 none : Cond) ∈ tb := inA_68 _ (List.mem_of_getElem? (i := 19) rfl)
theorem kw_1652 : (.code yX13_setOne cX13_setOne 6 none : Cond) ∈ tb := inA_68 _ (List.mem_of_getElem? (i := 20) rfl)
theorem kw_1653 : (.code yX13_typeOfSetter cX13_typeOfSetter 5 (some .int) : Cond) ∈ tb := inA_68 _ (List.mem_of_getElem? (i := 21) rfl)
theorem kw_1654 : (.code yX13_shut cX13_shut 3 none : Cond) ∈ tb := inA_68 _ (List.mem_of_getElem? (i := 22) rfl)
theorem kw_1655 : (.code yX13_get cX13_get 3 (some .int) : Cond) ∈ tb := inA_68 _ (List.mem_of_getElem? (i := 23) rfl)
theorem kw_1656 : (.code yX13_letters cX13_letters 5 (some .long) : Cond) ∈ tb := inA_69 _ (List.mem_of_getElem? (i := 0) rfl)
theorem kw_1657 : (.code yX13_call cX13_call 7 (some .int) : Cond) ∈ tb := inA_69 _ (List.mem_of_getElem? (i := 1) rfl)
theorem kw_1658 : (.code yX13_close cX13_close 1 (some .int) : Cond) ∈ tb := inA_69 _ (List.mem_of_getElem? (i := 2) rfl)
theorem kw_1659 : (.code yX13_events cX13_events 1 (some .int) : Cond) ∈ tb := inA_69 _ (List.mem_of_getElem? (i := 3) rfl)
theorem kw_1660 : (.code yX13_event cX13_event 3 (some .int) : Cond) ∈ tb := inA_69 _ (List.mem_of_getElem? (i := 4) rfl)
theorem kw_1661 : (.code yX13_object cX13_object 3 (some .int) : Cond) ∈ tb := inA_69 _ (List.mem_of_getElem? (i := 5) rfl)
theorem kw_1662 : (.code yX13_bean cX13_bean 4 (some .int) : Cond) ∈ tb := inA_69 _ (List.mem_of_getElem? (i := 6) rfl)
theorem inJx4a65c : ∀ w ∈ wsJx4a65c0, w ∈ tb := fun _ h => List.mem_append_right _ (List.mem_append_left _ (List.mem_append_left _ (h)))
theorem inX1 : ∀ w ∈ wsX10, w ∈ tb := fun _ h => List.mem_append_right _ (List.mem_append_left _ (List.mem_append_right _ (List.mem_append_left _ (h))))
theorem inX2 : ∀ w ∈ wsX20, w ∈ tb := fun _ h => List.mem_append_right _ (List.mem_append_left _ (List.mem_append_right _ (List.mem_append_right _ (List.mem_append_left _ (h)))))
theorem inX3 : ∀ w ∈ wsX30, w ∈ tb := fun _ h => List.mem_append_right _ (List.mem_append_left _ (List.mem_append_right _ (List.mem_append_right _ (List.mem_append_right _ (List.mem_append_left _ (h))))))
theorem inX4 : ∀ w ∈ wsX40, w ∈ tb := fun _ h => List.mem_append_right _ (List.mem_append_left _ (List.mem_append_right _ (List.mem_append_right _ (List.mem_append_right _ (List.mem_append_right _ (List.mem_append_left _ (h)))))))
theorem inX5 : ∀ w ∈ wsX50, w ∈ tb := fun _ h => List.mem_append_right _ (List.mem_append_left _ (List.mem_append_right _ (List.mem_append_right _ (List.mem_append_right _ (List.mem_append_right _ (List.mem_append_right _ (List.mem_append_left _ (h))))))))
theorem inX6 : ∀ w ∈ wsX60, w ∈ tb := fun _ h => List.mem_append_right _ (List.mem_append_left _ (List.mem_append_right _ (List.mem_append_right _ (List.mem_append_right _ (List.mem_append_right _ (List.mem_append_right _ (List.mem_append_right _ (List.mem_append_left _ (h)))))))))
theorem inX7 : ∀ w ∈ wsX70, w ∈ tb := fun _ h => List.mem_append_right _ (List.mem_append_left _ (List.mem_append_right _ (List.mem_append_right _ (List.mem_append_right _ (List.mem_append_right _ (List.mem_append_right _ (List.mem_append_right _ (List.mem_append_right _ (List.mem_append_left _ (h))))))))))
theorem inX8 : ∀ w ∈ wsX80, w ∈ tb := fun _ h => List.mem_append_right _ (List.mem_append_left _ (List.mem_append_right _ (List.mem_append_right _ (List.mem_append_right _ (List.mem_append_right _ (List.mem_append_right _ (List.mem_append_right _ (List.mem_append_right _ (List.mem_append_right _ (List.mem_append_left _ (h)))))))))))
theorem inX9 : ∀ w ∈ wsX90, w ∈ tb := fun _ h => List.mem_append_right _ (List.mem_append_left _ (List.mem_append_right _ (List.mem_append_right _ (List.mem_append_right _ (List.mem_append_right _ (List.mem_append_right _ (List.mem_append_right _ (List.mem_append_right _ (List.mem_append_right _ (List.mem_append_right _ (List.mem_append_left _ (h))))))))))))
theorem inX10 : ∀ w ∈ wsX100, w ∈ tb := fun _ h => List.mem_append_right _ (List.mem_append_left _ (List.mem_append_right _ (List.mem_append_right _ (List.mem_append_right _ (List.mem_append_right _ (List.mem_append_right _ (List.mem_append_right _ (List.mem_append_right _ (List.mem_append_right _ (List.mem_append_right _ (List.mem_append_right _ (List.mem_append_left _ (h)))))))))))))
theorem inX12 : ∀ w ∈ wsX120, w ∈ tb := fun _ h => List.mem_append_right _ (List.mem_append_left _ (List.mem_append_right _ (List.mem_append_right _ (List.mem_append_right _ (List.mem_append_right _ (List.mem_append_right _ (List.mem_append_right _ (List.mem_append_right _ (List.mem_append_right _ (List.mem_append_right _ (List.mem_append_right _ (List.mem_append_right _ (List.mem_append_left _ (h))))))))))))))
theorem inX13 : ∀ w ∈ wsX130, w ∈ tb := fun _ h => List.mem_append_right _ (List.mem_append_left _ (List.mem_append_right _ (List.mem_append_right _ (List.mem_append_right _ (List.mem_append_right _ (List.mem_append_right _ (List.mem_append_right _ (List.mem_append_right _ (List.mem_append_right _ (List.mem_append_right _ (List.mem_append_right _ (List.mem_append_right _ (List.mem_append_right _ (h))))))))))))))
theorem inT_0 : ∀ w ∈ (vx_at0 RX12 131 "java/lang/IllegalArgumentException" ["java/lang/RuntimeException", "java/lang/Exception"]).filter goodWord, w ∈ tb := fun _ h => List.mem_append_right _ (List.mem_append_right _ (List.mem_append_left _ (h)))
theorem inU_0 : ∀ w ∈ (vx_at0 RX12 131 "java/lang/IllegalArgumentException" ["java/lang/RuntimeException", "java/lang/Exception"]).filter (fun w => !goodWord w), w ∈ [Cond.castable "java/lang/IllegalArgumentException" "java/lang/IllegalArgumentException", Cond.declares ⟨"java/lang/RuntimeException", "<init>", "()V"⟩, Cond.declares ⟨"java/lang/Exception", "<init>", "()V"⟩, Cond.declares ⟨"java/lang/Throwable", "<init>", "()V"⟩] := by decide +kernel
theorem inV_0 : ∀ w ∈ (vx_at0 RX12 131 "java/lang/IllegalArgumentException" ["java/lang/RuntimeException", "java/lang/Exception"]), vx_ot w = true := by decide +kernel
theorem inT_1 : ∀ w ∈ (vx_at0 RX7 52 "java/lang/IllegalArgumentException" ["java/lang/RuntimeException", "java/lang/Exception"]).filter goodWord, w ∈ tb := fun _ h => List.mem_append_right _ (List.mem_append_right _ (List.mem_append_right _ (List.mem_append_left _ (h))))
theorem inU_1 : ∀ w ∈ (vx_at0 RX7 52 "java/lang/IllegalArgumentException" ["java/lang/RuntimeException", "java/lang/Exception"]).filter (fun w => !goodWord w), w ∈ [Cond.castable "java/lang/IllegalArgumentException" "java/lang/IllegalArgumentException", Cond.declares ⟨"java/lang/RuntimeException", "<init>", "()V"⟩, Cond.declares ⟨"java/lang/Exception", "<init>", "()V"⟩, Cond.declares ⟨"java/lang/Throwable", "<init>", "()V"⟩] := by decide +kernel
theorem inV_1 : ∀ w ∈ (vx_at0 RX7 52 "java/lang/IllegalArgumentException" ["java/lang/RuntimeException", "java/lang/Exception"]), vx_ot w = true := by decide +kernel
theorem inT_2 : ∀ w ∈ (vx_at0 RX12 146 "java/lang/IllegalStateException" ["java/lang/RuntimeException", "java/lang/Exception"]).filter goodWord, w ∈ tb := fun _ h => List.mem_append_right _ (List.mem_append_right _ (List.mem_append_right _ (List.mem_append_right _ (List.mem_append_left _ (h)))))
theorem inU_2 : ∀ w ∈ (vx_at0 RX12 146 "java/lang/IllegalStateException" ["java/lang/RuntimeException", "java/lang/Exception"]).filter (fun w => !goodWord w), w ∈ [Cond.castable "java/lang/IllegalStateException" "java/lang/IllegalStateException", Cond.declares ⟨"java/lang/RuntimeException", "<init>", "()V"⟩, Cond.declares ⟨"java/lang/Exception", "<init>", "()V"⟩, Cond.declares ⟨"java/lang/Throwable", "<init>", "()V"⟩] := by decide +kernel
theorem inV_2 : ∀ w ∈ (vx_at0 RX12 146 "java/lang/IllegalStateException" ["java/lang/RuntimeException", "java/lang/Exception"]), vx_ot w = true := by decide +kernel
theorem inT_3 : ∀ w ∈ (vx_at0 RX12 153 "java/lang/UnsupportedOperationException" ["java/lang/RuntimeException", "java/lang/Exception"]).filter goodWord, w ∈ tb := fun _ h => List.mem_append_right _ (List.mem_append_right _ (List.mem_append_right _ (List.mem_append_right _ (List.mem_append_right _ (List.mem_append_left _ (h))))))
theorem inU_3 : ∀ w ∈ (vx_at0 RX12 153 "java/lang/UnsupportedOperationException" ["java/lang/RuntimeException", "java/lang/Exception"]).filter (fun w => !goodWord w), w ∈ [Cond.castable "java/lang/UnsupportedOperationException" "java/lang/UnsupportedOperationException", Cond.declares ⟨"java/lang/RuntimeException", "<init>", "()V"⟩, Cond.declares ⟨"java/lang/Exception", "<init>", "()V"⟩, Cond.declares ⟨"java/lang/Throwable", "<init>", "()V"⟩] := by decide +kernel
theorem inV_3 : ∀ w ∈ (vx_at0 RX12 153 "java/lang/UnsupportedOperationException" ["java/lang/RuntimeException", "java/lang/Exception"]), vx_ot w = true := by decide +kernel
theorem inT_4 : ∀ w ∈ (vx_at0 RX5 131 "java/lang/UnsupportedOperationException" ["java/lang/RuntimeException", "java/lang/Exception"]).filter goodWord, w ∈ tb := fun _ h => List.mem_append_right _ (List.mem_append_right _ (List.mem_append_right _ (List.mem_append_right _ (List.mem_append_right _ (List.mem_append_right _ (List.mem_append_left _ (h)))))))
theorem inU_4 : ∀ w ∈ (vx_at0 RX5 131 "java/lang/UnsupportedOperationException" ["java/lang/RuntimeException", "java/lang/Exception"]).filter (fun w => !goodWord w), w ∈ [Cond.castable "java/lang/UnsupportedOperationException" "java/lang/UnsupportedOperationException", Cond.declares ⟨"java/lang/RuntimeException", "<init>", "()V"⟩, Cond.declares ⟨"java/lang/Exception", "<init>", "()V"⟩, Cond.declares ⟨"java/lang/Throwable", "<init>", "()V"⟩] := by decide +kernel
theorem inV_4 : ∀ w ∈ (vx_at0 RX5 131 "java/lang/UnsupportedOperationException" ["java/lang/RuntimeException", "java/lang/Exception"]), vx_ot w = true := by decide +kernel
theorem inT_5 : ∀ w ∈ (vx_at0 RX12 171 "java/lang/IndexOutOfBoundsException" ["java/lang/RuntimeException", "java/lang/Exception"]).filter goodWord, w ∈ tb := fun _ h => List.mem_append_right _ (List.mem_append_right _ (List.mem_append_right _ (List.mem_append_right _ (List.mem_append_right _ (List.mem_append_right _ (List.mem_append_right _ (h)))))))
theorem inU_5 : ∀ w ∈ (vx_at0 RX12 171 "java/lang/IndexOutOfBoundsException" ["java/lang/RuntimeException", "java/lang/Exception"]).filter (fun w => !goodWord w), w ∈ [Cond.castable "java/lang/IndexOutOfBoundsException" "java/lang/IndexOutOfBoundsException", Cond.declares ⟨"java/lang/RuntimeException", "<init>", "()V"⟩, Cond.declares ⟨"java/lang/Exception", "<init>", "()V"⟩, Cond.declares ⟨"java/lang/Throwable", "<init>", "()V"⟩] := by decide +kernel
theorem inV_5 : ∀ w ∈ (vx_at0 RX12 171 "java/lang/IndexOutOfBoundsException" ["java/lang/RuntimeException", "java/lang/Exception"]), vx_ot w = true := by decide +kernel
