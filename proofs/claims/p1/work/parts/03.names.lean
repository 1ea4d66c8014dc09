def RX12 : String := "WiredBeans"
def TX12 : u_T := fun k => match k with
  | 0 => ("WiredBeans", "classes", "[LWiredBeans$DeclaredClass;", true)
  | 1 => ("WiredBeans", "typed", "[C", true)
  | 2 => ("WiredBeans", "paper", "LWiredBeans$Paper;", true)
  | 3 => ("WiredBeans", "reader", "LWiredBeans$Reader;", true)
  | 4 => ("WiredBeans", "structure", "LWiredBeans$Structure;", true)
  | 5 => ("WiredBeans", "wiring", "LWiredBeans$Wiring;", true)
  | 6 => ("WiredBeans", "row", "LWiredBeans$EventRow;", true)
  | 7 => ("WiredBeans", "maker", "LWiredBeans$Maker;", true)
  | 8 => ("WiredBeans", "typedLength", "I", false)
  | 9 => ("WiredBeans", "hasDocument", "Z", false)
  | 10 => ("WiredBeans", "faultNumber", "I", false)
  | _ => ("WiredBeans", "faultPlace", "I", false)
def tyX12 : Nat → FieldType := fun k => match k with
  | 0 => .array (.object "WiredBeans$DeclaredClass")
  | 1 => .array .char
  | 2 => .object "WiredBeans$Paper"
  | 3 => .object "WiredBeans$Reader"
  | 4 => .object "WiredBeans$Structure"
  | 5 => .object "WiredBeans$Wiring"
  | 6 => .object "WiredBeans$EventRow"
  | 7 => .object "WiredBeans$Maker"
  | 8 => .int
  | 9 => .boolean
  | 10 => .int
  | _ => .int
abbrev wsX120 : List Cond := u_ws RX12 TX12 12
theorem nmX12 : ∀ a, a < 12 → ∀ b, b < 12 → a ≠ b → (TX12 a).2.1 ≠ (TX12 b).2.1 := by decide +kernel
theorem tyX12_ok : ∀ k, k < 12 → parseFieldDescriptor (TX12 k).2.2.1 = some (tyX12 k) := by decide +kernel
def RX8 : String := "WiredBeans$Signature"
def TX8 : u_T := fun k => match k with
  | 0 => ("WiredBeans$Signature", "owner", "I", true)
  | 1 => ("WiredBeans$Signature", "number", "I", true)
  | 2 => ("WiredBeans$Signature", "types", "[I", true)
  | 3 => ("WiredBeans$Signature", "count", "I", false)
  | 4 => ("WiredBeans$Signature", "name", "I", false)
  | 5 => ("WiredBeans$Signature", "isStatic", "Z", false)
  | _ => ("WiredBeans$Signature", "result", "I", false)
def tyX8 : Nat → FieldType := fun k => match k with
  | 0 => .int
  | 1 => .int
  | 2 => .array .int
  | 3 => .int
  | 4 => .int
  | 5 => .boolean
  | _ => .int
abbrev wsX80 : List Cond := u_ws RX8 TX8 7
theorem nmX8 : ∀ a, a < 7 → ∀ b, b < 7 → a ≠ b → (TX8 a).2.1 ≠ (TX8 b).2.1 := by decide +kernel
theorem tyX8_ok : ∀ k, k < 7 → parseFieldDescriptor (TX8 k).2.2.1 = some (tyX8 k) := by decide +kernel
def RX2 : String := "WiredBeans$DeclaredClass"
def TX2 : u_T := fun k => match k with
  | 0 => ("WiredBeans$DeclaredClass", "constructors", "[LWiredBeans$Signature;", true)
  | 1 => ("WiredBeans$DeclaredClass", "factories", "[LWiredBeans$Signature;", true)
  | 2 => ("WiredBeans$DeclaredClass", "constructorCount", "I", false)
  | 3 => ("WiredBeans$DeclaredClass", "factoryCount", "I", false)
  | 4 => ("WiredBeans$DeclaredClass", "number", "I", true)
  | 5 => ("WiredBeans$DeclaredClass", "setterTypes", "[I", true)
  | 6 => ("WiredBeans$DeclaredClass", "setterCount", "I", false)
  | _ => ("WiredBeans$DeclaredClass", "parent", "LWiredBeans$DeclaredClass;", false)
def tyX2 : Nat → FieldType := fun k => match k with
  | 0 => .array (.object "WiredBeans$Signature")
  | 1 => .array (.object "WiredBeans$Signature")
  | 2 => .int
  | 3 => .int
  | 4 => .int
  | 5 => .array .int
  | 6 => .int
  | _ => .object "WiredBeans$DeclaredClass"
abbrev wsX20 : List Cond := u_ws RX2 TX2 8
theorem nmX2 : ∀ a, a < 8 → ∀ b, b < 8 → a ≠ b → (TX2 a).2.1 ≠ (TX2 b).2.1 := by decide +kernel
theorem tyX2_ok : ∀ k, k < 8 → parseFieldDescriptor (TX2 k).2.2.1 = some (tyX2 k) := by decide +kernel
def RX3 : String := "WiredBeans$Element"
def TX3 : u_T := fun k => match k with
  | 0 => ("WiredBeans$Element", "text", "[C", true)
  | 1 => ("WiredBeans$Element", "textLength", "I", false)
  | 2 => ("WiredBeans$Element", "textEnd", "I", false)
  | 3 => ("WiredBeans$Element", "place", "I", false)
  | 4 => ("WiredBeans$Element", "word", "LWiredBeans$Word;", false)
  | 5 => ("WiredBeans$Element", "outer", "LWiredBeans$Element;", false)
  | 6 => ("WiredBeans$Element", "firstInner", "LWiredBeans$Element;", false)
  | 7 => ("WiredBeans$Element", "next", "LWiredBeans$Element;", false)
  | 8 => ("WiredBeans$Element", "innerCount", "I", false)
  | 9 => ("WiredBeans$Element", "firstAttribute", "I", false)
  | 10 => ("WiredBeans$Element", "attributeCount", "I", false)
  | 11 => ("WiredBeans$Element", "name", "J", false)
  | 12 => ("WiredBeans$Element", "target", "J", false)
  | 13 => ("WiredBeans$Element", "number", "J", false)
  | 14 => ("WiredBeans$Element", "truth", "I", false)
  | 15 => ("WiredBeans$Element", "letter", "I", false)
  | 16 => ("WiredBeans$Element", "at", "I", false)
  | 17 => ("WiredBeans$Element", "type", "I", false)
  | 18 => ("WiredBeans$Element", "kind", "LWiredBeans$Word;", false)
  | 19 => ("WiredBeans$Element", "content", "LWiredBeans$Element;", false)
  | _ => ("WiredBeans$Element", "bean", "LWiredBeans$Bean;", false)
def tyX3 : Nat → FieldType := fun k => match k with
  | 0 => .array .char
  | 1 => .int
  | 2 => .int
  | 3 => .int
  | 4 => .object "WiredBeans$Word"
  | 5 => .object "WiredBeans$Element"
  | 6 => .object "WiredBeans$Element"
  | 7 => .object "WiredBeans$Element"
  | 8 => .int
  | 9 => .int
  | 10 => .int
  | 11 => .long
  | 12 => .long
  | 13 => .long
  | 14 => .int
  | 15 => .int
  | 16 => .int
  | 17 => .int
  | 18 => .object "WiredBeans$Word"
  | 19 => .object "WiredBeans$Element"
  | _ => .object "WiredBeans$Bean"
abbrev wsX30 : List Cond := u_ws RX3 TX3 21
theorem nmX3 : ∀ a, a < 21 → ∀ b, b < 21 → a ≠ b → (TX3 a).2.1 ≠ (TX3 b).2.1 := by decide +kernel
theorem tyX3_ok : ∀ k, k < 21 → parseFieldDescriptor (TX3 k).2.2.1 = some (tyX3 k) := by decide +kernel
def RX6 : String := "WiredBeans$Paper"
def TX6 : u_T := fun k => match k with
  | 0 => ("WiredBeans$Paper", "elements", "[LWiredBeans$Element;", true)
  | 1 => ("WiredBeans$Paper", "attributeKeys", "[J", true)
  | 2 => ("WiredBeans$Paper", "valueStarts", "[I", true)
  | 3 => ("WiredBeans$Paper", "valueLengths", "[I", true)
  | 4 => ("WiredBeans$Paper", "values", "[C", true)
  | 5 => ("WiredBeans$Paper", "count", "I", false)
  | 6 => ("WiredBeans$Paper", "attributes", "I", false)
  | _ => ("WiredBeans$Paper", "valuesEnd", "I", false)
def tyX6 : Nat → FieldType := fun k => match k with
  | 0 => .array (.object "WiredBeans$Element")
  | 1 => .array .long
  | 2 => .array .int
  | 3 => .array .int
  | 4 => .array .char
  | 5 => .int
  | 6 => .int
  | _ => .int
abbrev wsX60 : List Cond := u_ws RX6 TX6 8
theorem nmX6 : ∀ a, a < 8 → ∀ b, b < 8 → a ≠ b → (TX6 a).2.1 ≠ (TX6 b).2.1 := by decide +kernel
theorem tyX6_ok : ∀ k, k < 8 → parseFieldDescriptor (TX6 k).2.2.1 = some (tyX6 k) := by decide +kernel
def RX7 : String := "WiredBeans$Reader"
def TX7 : u_T := fun k => match k with
  | 0 => ("WiredBeans$Reader", "paper", "LWiredBeans$Paper;", true)
  | 1 => ("WiredBeans$Reader", "text", "[C", false)
  | 2 => ("WiredBeans$Reader", "length", "I", false)
  | 3 => ("WiredBeans$Reader", "at", "I", false)
  | 4 => ("WiredBeans$Reader", "depth", "I", false)
  | _ => ("WiredBeans$Reader", "open", "LWiredBeans$Element;", false)
def tyX7 : Nat → FieldType := fun k => match k with
  | 0 => .object "WiredBeans$Paper"
  | 1 => .array .char
  | 2 => .int
  | 3 => .int
  | 4 => .int
  | _ => .object "WiredBeans$Element"
abbrev wsX70 : List Cond := u_ws RX7 TX7 6
theorem nmX7 : ∀ a, a < 6 → ∀ b, b < 6 → a ≠ b → (TX7 a).2.1 ≠ (TX7 b).2.1 := by decide +kernel
theorem tyX7_ok : ∀ k, k < 6 → parseFieldDescriptor (TX7 k).2.2.1 = some (tyX7 k) := by decide +kernel
def RX9 : String := "WiredBeans$Structure"
def TX9 : u_T := fun k => match k with
  | _ => ("WiredBeans$Structure", "paper", "LWiredBeans$Paper;", true)
def tyX9 : Nat → FieldType := fun k => match k with
  | _ => .object "WiredBeans$Paper"
abbrev wsX90 : List Cond := u_ws RX9 TX9 1
theorem nmX9 : ∀ a, a < 1 → ∀ b, b < 1 → a ≠ b → (TX9 a).2.1 ≠ (TX9 b).2.1 := by decide +kernel
theorem tyX9_ok : ∀ k, k < 1 → parseFieldDescriptor (TX9 k).2.2.1 = some (tyX9 k) := by decide +kernel
def RX1 : String := "WiredBeans$Bean"
def TX1 : u_T := fun k => match k with
  | 0 => ("WiredBeans$Bean", "number", "I", true)
  | 1 => ("WiredBeans$Bean", "args", "Ljava/util/ArrayList;", true)
  | 2 => ("WiredBeans$Bean", "sets", "Ljava/util/ArrayList;", true)
  | 3 => ("WiredBeans$Bean", "lookups", "Ljava/util/ArrayList;", true)
  | 4 => ("WiredBeans$Bean", "element", "LWiredBeans$Element;", false)
  | 5 => ("WiredBeans$Bean", "id", "J", false)
  | 6 => ("WiredBeans$Bean", "parent", "J", false)
  | 7 => ("WiredBeans$Bean", "depends", "J", false)
  | 8 => ("WiredBeans$Bean", "factory", "J", false)
  | 9 => ("WiredBeans$Bean", "classNumber", "I", false)
  | 10 => ("WiredBeans$Bean", "method", "I", false)
  | 11 => ("WiredBeans$Bean", "init", "I", false)
  | 12 => ("WiredBeans$Bean", "destroy", "I", false)
  | 13 => ("WiredBeans$Bean", "isAbstract", "Z", false)
  | 14 => ("WiredBeans$Bean", "isMany", "Z", false)
  | 15 => ("WiredBeans$Bean", "isLazy", "Z", false)
  | 16 => ("WiredBeans$Bean", "isBeingMade", "Z", false)
  | 17 => ("WiredBeans$Bean", "isMade", "Z", false)
  | _ => ("WiredBeans$Bean", "madeObject", "I", false)
def tyX1 : Nat → FieldType := fun k => match k with
  | 0 => .int
  | 1 => .object "java/util/ArrayList"
  | 2 => .object "java/util/ArrayList"
  | 3 => .object "java/util/ArrayList"
  | 4 => .object "WiredBeans$Element"
  | 5 => .long
  | 6 => .long
  | 7 => .long
  | 8 => .long
  | 9 => .int
  | 10 => .int
  | 11 => .int
  | 12 => .int
  | 13 => .boolean
  | 14 => .boolean
  | 15 => .boolean
  | 16 => .boolean
  | 17 => .boolean
  | _ => .int
abbrev wsX10 : List Cond := u_ws RX1 TX1 19
theorem nmX1 : ∀ a, a < 19 → ∀ b, b < 19 → a ≠ b → (TX1 a).2.1 ≠ (TX1 b).2.1 := by decide +kernel
theorem tyX1_ok : ∀ k, k < 19 → parseFieldDescriptor (TX1 k).2.2.1 = some (tyX1 k) := by decide +kernel
def RX10 : String := "WiredBeans$Wiring"
def TX10 : u_T := fun k => match k with
  | 0 => ("WiredBeans$Wiring", "paper", "LWiredBeans$Paper;", true)
  | 1 => ("WiredBeans$Wiring", "beans", "[LWiredBeans$Bean;", true)
  | 2 => ("WiredBeans$Wiring", "chain", "[LWiredBeans$Bean;", true)
  | _ => ("WiredBeans$Wiring", "count", "I", false)
def tyX10 : Nat → FieldType := fun k => match k with
  | 0 => .object "WiredBeans$Paper"
  | 1 => .array (.object "WiredBeans$Bean")
  | 2 => .array (.object "WiredBeans$Bean")
  | _ => .int
abbrev wsX100 : List Cond := u_ws RX10 TX10 4
theorem nmX10 : ∀ a, a < 4 → ∀ b, b < 4 → a ≠ b → (TX10 a).2.1 ≠ (TX10 b).2.1 := by decide +kernel
theorem tyX10_ok : ∀ k, k < 4 → parseFieldDescriptor (TX10 k).2.2.1 = some (tyX10 k) := by decide +kernel
def RX4 : String := "WiredBeans$EventRow"
def TX4 : u_T := fun k => match k with
  | 0 => ("WiredBeans$EventRow", "numbers", "[I", true)
  | _ => ("WiredBeans$EventRow", "count", "I", false)
def tyX4 : Nat → FieldType := fun k => match k with
  | 0 => .array .int
  | _ => .int
abbrev wsX40 : List Cond := u_ws RX4 TX4 2
theorem nmX4 : ∀ a, a < 2 → ∀ b, b < 2 → a ≠ b → (TX4 a).2.1 ≠ (TX4 b).2.1 := by decide +kernel
theorem tyX4_ok : ∀ k, k < 2 → parseFieldDescriptor (TX4 k).2.2.1 = some (tyX4 k) := by decide +kernel
def RX5 : String := "WiredBeans$Maker"
def TX5 : u_T := fun k => match k with
  | 0 => ("WiredBeans$Maker", "wiring", "LWiredBeans$Wiring;", true)
  | 1 => ("WiredBeans$Maker", "classes", "[LWiredBeans$DeclaredClass;", true)
  | 2 => ("WiredBeans$Maker", "row", "LWiredBeans$EventRow;", true)
  | 3 => ("WiredBeans$Maker", "objectClasses", "[I", true)
  | 4 => ("WiredBeans$Maker", "objectBeans", "[I", true)
  | 5 => ("WiredBeans$Maker", "objectCount", "I", false)
  | 6 => ("WiredBeans$Maker", "finished", "[LWiredBeans$Bean;", true)
  | 7 => ("WiredBeans$Maker", "finishedCount", "I", false)
  | 8 => ("WiredBeans$Maker", "worked", "[I", true)
  | 9 => ("WiredBeans$Maker", "argAtPlace", "[I", true)
  | 10 => ("WiredBeans$Maker", "innermost", "LWiredBeans$Bean;", false)
  | 11 => ("WiredBeans$Maker", "failure", "I", false)
  | _ => ("WiredBeans$Maker", "failureBean", "I", false)
def tyX5 : Nat → FieldType := fun k => match k with
  | 0 => .object "WiredBeans$Wiring"
  | 1 => .array (.object "WiredBeans$DeclaredClass")
  | 2 => .object "WiredBeans$EventRow"
  | 3 => .array .int
  | 4 => .array .int
  | 5 => .int
  | 6 => .array (.object "WiredBeans$Bean")
  | 7 => .int
  | 8 => .array .int
  | 9 => .array .int
  | 10 => .object "WiredBeans$Bean"
  | 11 => .int
  | _ => .int
abbrev wsX50 : List Cond := u_ws RX5 TX5 13
theorem nmX5 : ∀ a, a < 13 → ∀ b, b < 13 → a ≠ b → (TX5 a).2.1 ≠ (TX5 b).2.1 := by decide +kernel
theorem tyX5_ok : ∀ k, k < 13 → parseFieldDescriptor (TX5 k).2.2.1 = some (tyX5 k) := by decide +kernel
def RJx4a65c : String := "java/util/ArrayList"
def TJx4a65c : u_T := fun k => match k with
  | 0 => ("java/util/AbstractList", "modCount", "I", false)
  | 1 => ("java/util/ArrayList", "elementData", "[Ljava/lang/Object;", false)
  | _ => ("java/util/ArrayList", "size", "I", false)
def tyJx4a65c : Nat → FieldType := fun k => match k with
  | 0 => .int
  | 1 => .array (.object "java/lang/Object")
  | _ => .int
abbrev wsJx4a65c0 : List Cond := u_ws RJx4a65c TJx4a65c 3
theorem nmJx4a65c : ∀ a, a < 3 → ∀ b, b < 3 → a ≠ b → (TJx4a65c a).2.1 ≠ (TJx4a65c b).2.1 := by decide +kernel
theorem tyJx4a65c_ok : ∀ k, k < 3 → parseFieldDescriptor (TJx4a65c k).2.2.1 = some (tyJx4a65c k) := by decide +kernel
def RJxc12de : String := "java/util/AbstractList"
def RJxa1e45 : String := "java/util/AbstractCollection"
def RX13 : String := "WiredBeansModel"
def TX13 : u_T := fun k => match k with
  | 0 => ("WiredBeansModel", "elementNames", "[J", true)
  | 1 => ("WiredBeansModel", "words", "[J", true)
  | 2 => ("WiredBeansModel", "entities", "[J", true)
  | 3 => ("WiredBeansModel", "entityLengths", "[I", true)
  | 4 => ("WiredBeansModel", "entitySigns", "[I", true)
  | 5 => ("WiredBeansModel", "thrown", "I", false)
  | 6 => ("WiredBeansModel", "parents", "[I", true)
  | 7 => ("WiredBeansModel", "makers", "[I", true)
  | 8 => ("WiredBeansModel", "makerSize", "[I", true)
  | 9 => ("WiredBeansModel", "makerType", "[I", true)
  | 10 => ("WiredBeansModel", "setters", "[I", true)
  | 11 => ("WiredBeansModel", "setterName", "[I", true)
  | 12 => ("WiredBeansModel", "setterType", "[I", true)
  | 13 => ("WiredBeansModel", "factories", "[I", true)
  | 14 => ("WiredBeansModel", "factoryName", "[I", true)
  | 15 => ("WiredBeansModel", "factoryResult", "[I", true)
  | 16 => ("WiredBeansModel", "factorySize", "[I", true)
  | 17 => ("WiredBeansModel", "factoryType", "[I", true)
  | 18 => ("WiredBeansModel", "factoryStatic", "[Z", true)
  | 19 => ("WiredBeansModel", "text", "[B", true)
  | 20 => ("WiredBeansModel", "size", "I", false)
  | 21 => ("WiredBeansModel", "at", "I", false)
  | 22 => ("WiredBeansModel", "fault", "I", false)
  | 23 => ("WiredBeansModel", "faultPlace", "I", false)
  | 24 => ("WiredBeansModel", "elements", "I", false)
  | 25 => ("WiredBeansModel", "pool", "I", false)
  | 26 => ("WiredBeansModel", "kinds", "[I", true)
  | 27 => ("WiredBeansModel", "places", "[I", true)
  | 28 => ("WiredBeansModel", "above", "[I", true)
  | 29 => ("WiredBeansModel", "within", "[I", true)
  | 30 => ("WiredBeansModel", "attributes", "[I", true)
  | 31 => ("WiredBeansModel", "textSize", "[I", true)
  | 32 => ("WiredBeansModel", "pending", "[I", true)
  | 33 => ("WiredBeansModel", "textAt", "[I", true)
  | 34 => ("WiredBeansModel", "names", "[J", true)
  | 35 => ("WiredBeansModel", "attributeName", "[J", true)
  | 36 => ("WiredBeansModel", "attributeAt", "[I", true)
  | 37 => ("WiredBeansModel", "attributeSize", "[I", true)
  | 38 => ("WiredBeansModel", "characters", "[B", true)
  | 39 => ("WiredBeansModel", "texts", "[B", true)
  | 40 => ("WiredBeansModel", "document", "Z", false)
  | 41 => ("WiredBeansModel", "beans", "I", false)
  | 42 => ("WiredBeansModel", "beanElement", "[I", true)
  | 43 => ("WiredBeansModel", "beanOf", "[I", true)
  | 44 => ("WiredBeansModel", "setMany", "[I", true)
  | 45 => ("WiredBeansModel", "setElement", "[I", true)
  | 46 => ("WiredBeansModel", "lookupMany", "[I", true)
  | 47 => ("WiredBeansModel", "lookupElement", "[I", true)
  | 48 => ("WiredBeansModel", "objects", "I", false)
  | 49 => ("WiredBeansModel", "events", "I", false)
  | 50 => ("WiredBeansModel", "made", "I", false)
  | 51 => ("WiredBeansModel", "failure", "I", false)
  | 52 => ("WiredBeansModel", "failureBean", "I", false)
  | 53 => ("WiredBeansModel", "objectClass", "[I", true)
  | 54 => ("WiredBeansModel", "objectBean", "[I", true)
  | 55 => ("WiredBeansModel", "eventKind", "[I", true)
  | 56 => ("WiredBeansModel", "eventObject", "[I", true)
  | 57 => ("WiredBeansModel", "eventSecond", "[I", true)
  | 58 => ("WiredBeansModel", "eventThird", "[I", true)
  | 59 => ("WiredBeansModel", "madeOrder", "[I", true)
  | 60 => ("WiredBeansModel", "own", "[I", true)
  | 61 => ("WiredBeansModel", "isMade", "[Z", true)
  | 62 => ("WiredBeansModel", "making", "[Z", true)
  | 63 => ("WiredBeansModel", "high", "I", false)
  | 64 => ("WiredBeansModel", "pileBean", "[I", true)
  | 65 => ("WiredBeansModel", "pilePhase", "[I", true)
  | 66 => ("WiredBeansModel", "pileIndex", "[I", true)
  | 67 => ("WiredBeansModel", "pileItem", "[I", true)
  | 68 => ("WiredBeansModel", "pileFactory", "[I", true)
  | 69 => ("WiredBeansModel", "pileObject", "[I", true)
  | 70 => ("WiredBeansModel", "valueKind", "[I", true)
  | 71 => ("WiredBeansModel", "value", "[I", true)
  | 72 => ("WiredBeansModel", "itemKind", "[I", true)
  | 73 => ("WiredBeansModel", "item", "[I", true)
  | 74 => ("WiredBeansModel", "got", "I", false)
  | 75 => ("WiredBeansModel", "spot", "[I", true)
  | _ => ("WiredBeansModel", "closed", "Z", false)
def tyX13 : Nat → FieldType := fun k => match k with
  | 0 => .array .long
  | 1 => .array .long
  | 2 => .array .long
  | 3 => .array .int
  | 4 => .array .int
  | 5 => .int
  | 6 => .array .int
  | 7 => .array .int
  | 8 => .array .int
  | 9 => .array .int
  | 10 => .array .int
  | 11 => .array .int
  | 12 => .array .int
  | 13 => .array .int
  | 14 => .array .int
  | 15 => .array .int
  | 16 => .array .int
  | 17 => .array .int
  | 18 => .array .boolean
  | 19 => .array .byte
  | 20 => .int
  | 21 => .int
  | 22 => .int
  | 23 => .int
  | 24 => .int
  | 25 => .int
  | 26 => .array .int
  | 27 => .array .int
  | 28 => .array .int
  | 29 => .array .int
  | 30 => .array .int
  | 31 => .array .int
  | 32 => .array .int
  | 33 => .array .int
  | 34 => .array .long
  | 35 => .array .long
  | 36 => .array .int
  | 37 => .array .int
  | 38 => .array .byte
  | 39 => .array .byte
  | 40 => .boolean
  | 41 => .int
  | 42 => .array .int
  | 43 => .array .int
  | 44 => .array .int
  | 45 => .array .int
  | 46 => .array .int
  | 47 => .array .int
  | 48 => .int
  | 49 => .int
  | 50 => .int
  | 51 => .int
  | 52 => .int
  | 53 => .array .int
  | 54 => .array .int
  | 55 => .array .int
  | 56 => .array .int
  | 57 => .array .int
  | 58 => .array .int
  | 59 => .array .int
  | 60 => .array .int
  | 61 => .array .boolean
  | 62 => .array .boolean
  | 63 => .int
  | 64 => .array .int
  | 65 => .array .int
  | 66 => .array .int
  | 67 => .array .int
  | 68 => .array .int
  | 69 => .array .int
  | 70 => .array .int
  | 71 => .array .int
  | 72 => .array .int
  | 73 => .array .int
  | 74 => .int
  | 75 => .array .int
  | _ => .boolean
abbrev wsX130 : List Cond := u_ws RX13 TX13 77
theorem nmX13 : ∀ a, a < 77 → ∀ b, b < 77 → a ≠ b → (TX13 a).2.1 ≠ (TX13 b).2.1 := by decide +kernel
theorem tyX13_ok : ∀ k, k < 77 → parseFieldDescriptor (TX13 k).2.2.1 = some (tyX13 k) := by decide +kernel
def RL : String := "WiredBeansLaw"
abbrev cX12_init : ByteArray := prog_1_method_1_code
def yX12_init : MethodName := ⟨RX12, "<init>", "()V"⟩
abbrev cX12_declare : ByteArray := prog_1_method_2_code
def yX12_declare : MethodName := ⟨RX12, "declare", "(II)Z"⟩
abbrev cX12_constructor : ByteArray := prog_1_method_3_code
def yX12_constructor : MethodName := ⟨RX12, "constructor", "(IIIII)Z"⟩
abbrev cX12_setter : ByteArray := prog_1_method_4_code
def yX12_setter : MethodName := ⟨RX12, "setter", "(III)Z"⟩
abbrev cX12_factory : ByteArray := prog_1_method_5_code
def yX12_factory : MethodName := ⟨RX12, "factory", "(IIZIIIII)Z"⟩
abbrev cX12_type : ByteArray := prog_1_method_6_code
def yX12_type : MethodName := ⟨RX12, "type", "(IIIII)I"⟩
abbrev cX12_read : ByteArray := prog_1_method_7_code
def yX12_read : MethodName := ⟨RX12, "read", "()I"⟩
abbrev cX12_fault : ByteArray := prog_1_method_8_code
def yX12_fault : MethodName := ⟨RX12, "fault", "(I)I"⟩
abbrev cX12_refresh : ByteArray := prog_1_method_9_code
def yX12_refresh : MethodName := ⟨RX12, "refresh", "()I"⟩
abbrev cX12_get : ByteArray := prog_1_method_10_code
def yX12_get : MethodName := ⟨RX12, "get", "(J)I"⟩
abbrev cX12_call : ByteArray := prog_1_method_11_code
def yX12_call : MethodName := ⟨RX12, "call", "(II)I"⟩
abbrev cX12_close : ByteArray := prog_1_method_12_code
def yX12_close : MethodName := ⟨RX12, "close", "()I"⟩
abbrev cX12_events : ByteArray := prog_1_method_13_code
def yX12_events : MethodName := ⟨RX12, "events", "()I"⟩
abbrev cX12_event : ByteArray := prog_1_method_14_code
def yX12_event : MethodName := ⟨RX12, "event", "(II)I"⟩
abbrev cX12_object : ByteArray := prog_1_method_15_code
def yX12_object : MethodName := ⟨RX12, "object", "(II)I"⟩
abbrev cX12_bean : ByteArray := prog_1_method_16_code
def yX12_bean : MethodName := ⟨RX12, "bean", "(II)I"⟩
abbrev cX12_isClass : ByteArray := prog_1_method_17_code
def yX12_isClass : MethodName := ⟨RX12, "isClass", "(I)Z"⟩
abbrev cX12_isLetter : ByteArray := prog_1_method_18_code
def yX12_isLetter : MethodName := ⟨RX12, "isLetter", "(I)Z"⟩
abbrev cX12_isType : ByteArray := prog_1_method_19_code
def yX12_isType : MethodName := ⟨RX12, "isType", "(I)Z"⟩
abbrev cX12_areTypes : ByteArray := prog_1_method_20_code
def yX12_areTypes : MethodName := ⟨RX12, "areTypes", "(IIII)Z"⟩
abbrev cX12_typedBehind : ByteArray := prog_1_method_21_code
def yX12_typedBehind : MethodName := ⟨RX12, "typedBehind", "(II)I"⟩
abbrev cX8_init : ByteArray := prog_10_method_1_code
def yX8_init : MethodName := ⟨RX8, "<init>", "(II)V"⟩
abbrev cX8_describe : ByteArray := prog_10_method_2_code
def yX8_describe : MethodName := ⟨RX8, "describe", "(IZI)V"⟩
abbrev cX8_setTypes : ByteArray := prog_10_method_3_code
def yX8_setTypes : MethodName := ⟨RX8, "setTypes", "(IIII)V"⟩
abbrev cX2_init : ByteArray := prog_4_method_1_code
def yX2_init : MethodName := ⟨RX2, "<init>", "(I)V"⟩
abbrev cX2_begin : ByteArray := prog_4_method_2_code
def yX2_begin : MethodName := ⟨RX2, "begin", "(LWiredBeans$DeclaredClass;)V"⟩
abbrev cX2_addConstructor : ByteArray := prog_4_method_3_code
def yX2_addConstructor : MethodName := ⟨RX2, "addConstructor", "(IIII)Z"⟩
abbrev cX2_addFactory : ByteArray := prog_4_method_4_code
def yX2_addFactory : MethodName := ⟨RX2, "addFactory", "(IZIIIII)Z"⟩
abbrev cX2_addSetter : ByteArray := prog_4_method_5_code
def yX2_addSetter : MethodName := ⟨RX2, "addSetter", "(II)Z"⟩
abbrev cX3_init : ByteArray := prog_5_method_1_code
def yX3_init : MethodName := ⟨RX3, "<init>", "()V"⟩
abbrev cX6_init : ByteArray := prog_8_method_1_code
def yX6_init : MethodName := ⟨RX6, "<init>", "(I)V"⟩
abbrev cX6_clear : ByteArray := prog_8_method_2_code
def yX6_clear : MethodName := ⟨RX6, "clear", "()V"⟩
abbrev cX7_init : ByteArray := prog_9_method_1_code
def yX7_init : MethodName := ⟨RX7, "<init>", "(LWiredBeans$Paper;)V"⟩
abbrev cX7_firstWrongPlace : ByteArray := prog_9_method_2_code
def yX7_firstWrongPlace : MethodName := ⟨RX7, "firstWrongPlace", "([CI)I"⟩
abbrev cX7_skipAround : ByteArray := prog_9_method_8_code
def yX7_skipAround : MethodName := ⟨RX7, "skipAround", "()V"⟩
abbrev cX7_skipsWhite : ByteArray := prog_9_method_7_code
def yX7_skipsWhite : MethodName := ⟨RX7, "skipsWhite", "()Z"⟩
abbrev cX7_openElement : ByteArray := prog_9_method_11_code
def yX7_openElement : MethodName := ⟨RX7, "openElement", "()V"⟩
abbrev cX7_expect : ByteArray := prog_9_method_5_code
def yX7_expect : MethodName := ⟨RX7, "expect", "(C)V"⟩
abbrev cX9_init : ByteArray := prog_11_method_1_code
def yX9_init : MethodName := ⟨RX9, "<init>", "(LWiredBeans$Paper;)V"⟩
abbrev cX1_init : ByteArray := prog_3_method_1_code
def yX1_init : MethodName := ⟨RX1, "<init>", "(I)V"⟩
abbrev cX10_init : ByteArray := prog_12_method_1_code
def yX10_init : MethodName := ⟨RX10, "<init>", "(LWiredBeans$Paper;)V"⟩
abbrev cX10_count : ByteArray := prog_12_method_3_code
def yX10_count : MethodName := ⟨RX10, "count", "()I"⟩
abbrev cX10_forgetBeans : ByteArray := prog_12_method_2_code
def yX10_forgetBeans : MethodName := ⟨RX10, "forgetBeans", "()V"⟩
abbrev cX4_init : ByteArray := prog_6_method_1_code
def yX4_init : MethodName := ⟨RX4, "<init>", "()V"⟩
abbrev cX4_clear : ByteArray := prog_6_method_2_code
def yX4_clear : MethodName := ⟨RX4, "clear", "()V"⟩
abbrev cX4_count : ByteArray := prog_6_method_3_code
def yX4_count : MethodName := ⟨RX4, "count", "()I"⟩
abbrev cX4_number : ByteArray := prog_6_method_5_code
def yX4_number : MethodName := ⟨RX4, "number", "(II)I"⟩
abbrev cX5_init : ByteArray := prog_7_method_1_code
def yX5_init : MethodName := ⟨RX5, "<init>", "(LWiredBeans$Wiring;[LWiredBeans$DeclaredClass;LWiredBeans$EventRow;)V"⟩
abbrev cX5_startAfresh : ByteArray := prog_7_method_2_code
def yX5_startAfresh : MethodName := ⟨RX5, "startAfresh", "()V"⟩
abbrev cX5_forgetMade : ByteArray := prog_7_method_11_code
def yX5_forgetMade : MethodName := ⟨RX5, "forgetMade", "()V"⟩
abbrev cX5_forgetFailure : ByteArray := prog_7_method_3_code
def yX5_forgetFailure : MethodName := ⟨RX5, "forgetFailure", "()V"⟩
abbrev cX5_failure : ByteArray := prog_7_method_4_code
def yX5_failure : MethodName := ⟨RX5, "failure", "()I"⟩
abbrev cX5_failureBean : ByteArray := prog_7_method_5_code
def yX5_failureBean : MethodName := ⟨RX5, "failureBean", "()I"⟩
abbrev cX5_destroyAll : ByteArray := prog_7_method_12_code
def yX5_destroyAll : MethodName := ⟨RX5, "destroyAll", "()V"⟩
abbrev cX5_classOfObject : ByteArray := prog_7_method_8_code
def yX5_classOfObject : MethodName := ⟨RX5, "classOfObject", "(I)I"⟩
abbrev cX5_beanOfObject : ByteArray := prog_7_method_9_code
def yX5_beanOfObject : MethodName := ⟨RX5, "beanOfObject", "(I)I"⟩
abbrev cX5_isObject : ByteArray := prog_7_method_7_code
def yX5_isObject : MethodName := ⟨RX5, "isObject", "(I)Z"⟩
abbrev cJx4a65c_init_da8c8 : ByteArray := prog_34_method_2_code
def yJx4a65c_init_da8c8 : MethodName := ⟨RJx4a65c, "<init>", "()V"⟩
abbrev cJxc12de_init_da8c8 : ByteArray := prog_33_method_1_code
def yJxc12de_init_da8c8 : MethodName := ⟨RJxc12de, "<init>", "()V"⟩
abbrev cJxa1e45_init_da8c8 : ByteArray := prog_32_method_1_code
def yJxa1e45_init_da8c8 : MethodName := ⟨RJxa1e45, "<init>", "()V"⟩
abbrev cX13_init : ByteArray := prog_15_method_1_code
def yX13_init : MethodName := ⟨RX13, "<init>", "()V"⟩
abbrev cX13_thrown : ByteArray := prog_15_method_2_code
def yX13_thrown : MethodName := ⟨RX13, "thrown", "()I"⟩
abbrev cX13_isClass : ByteArray := prog_15_method_3_code
def yX13_isClass : MethodName := ⟨RX13, "isClass", "(I)Z"⟩
abbrev cX13_isType : ByteArray := prog_15_method_4_code
def yX13_isType : MethodName := ⟨RX13, "isType", "(I)Z"⟩
abbrev cX13_areTypes : ByteArray := prog_15_method_5_code
def yX13_areTypes : MethodName := ⟨RX13, "areTypes", "(IIII)Z"⟩
abbrev cX13_isLetter : ByteArray := prog_15_method_6_code
def yX13_isLetter : MethodName := ⟨RX13, "isLetter", "(I)Z"⟩
abbrev cX13_declare : ByteArray := prog_15_method_7_code
def yX13_declare : MethodName := ⟨RX13, "declare", "(II)Z"⟩
abbrev cX13_constructor : ByteArray := prog_15_method_8_code
def yX13_constructor : MethodName := ⟨RX13, "constructor", "(IIIII)Z"⟩
abbrev cX13_setter : ByteArray := prog_15_method_9_code
def yX13_setter : MethodName := ⟨RX13, "setter", "(III)Z"⟩
abbrev cX13_factory : ByteArray := prog_15_method_10_code
def yX13_factory : MethodName := ⟨RX13, "factory", "(IIZIIIII)Z"⟩
abbrev cX13_type : ByteArray := prog_15_method_14_code
def yX13_type : MethodName := ⟨RX13, "type", "(IIIII)I"⟩
abbrev cX13_bad : ByteArray := prog_15_method_15_code
def yX13_bad : MethodName := ⟨RX13, "bad", "(I)V"⟩
abbrev cX13_here : ByteArray := prog_15_method_16_code
def yX13_here : MethodName := ⟨RX13, "here", "(I)I"⟩
abbrev cX13_isWhite : ByteArray := prog_15_method_18_code
def yX13_isWhite : MethodName := ⟨RX13, "isWhite", "(I)Z"⟩
abbrev cX13_white : ByteArray := prog_15_method_19_code
def yX13_white : MethodName := ⟨RX13, "white", "()I"⟩
abbrev cX13_between : ByteArray := prog_15_method_22_code
def yX13_between : MethodName := ⟨RX13, "between", "()V"⟩
abbrev cX13_begin : ByteArray := prog_15_method_30_code
def yX13_begin : MethodName := ⟨RX13, "begin", "(II)I"⟩
abbrev cX13_readDocument : ByteArray := prog_15_method_32_code
def yX13_readDocument : MethodName := ⟨RX13, "readDocument", "()V"⟩
abbrev cX13_clear : ByteArray := prog_15_method_61_code
def yX13_clear : MethodName := ⟨RX13, "clear", "()V"⟩
abbrev cX13_read : ByteArray := prog_15_method_62_code
def yX13_read : MethodName := ⟨RX13, "read", "()I"⟩
abbrev cX13_fault : ByteArray := prog_15_method_63_code
def yX13_fault : MethodName := ⟨RX13, "fault", "(I)I"⟩
abbrev cX13_refresh : ByteArray := prog_15_method_90_code
def yX13_refresh : MethodName := ⟨RX13, "refresh", "()I"⟩
abbrev cX13_get : ByteArray := prog_15_method_92_code
def yX13_get : MethodName := ⟨RX13, "get", "(J)I"⟩
abbrev cX13_call : ByteArray := prog_15_method_93_code
def yX13_call : MethodName := ⟨RX13, "call", "(II)I"⟩
abbrev cX13_close : ByteArray := prog_15_method_95_code
def yX13_close : MethodName := ⟨RX13, "close", "()I"⟩
abbrev cX13_events : ByteArray := prog_15_method_96_code
def yX13_events : MethodName := ⟨RX13, "events", "()I"⟩
abbrev cX13_event : ByteArray := prog_15_method_97_code
def yX13_event : MethodName := ⟨RX13, "event", "(II)I"⟩
abbrev cX13_object : ByteArray := prog_15_method_98_code
def yX13_object : MethodName := ⟨RX13, "object", "(II)I"⟩
abbrev cX13_bean : ByteArray := prog_15_method_99_code
def yX13_bean : MethodName := ⟨RX13, "bean", "(II)I"⟩
abbrev cL_law : ByteArray := code
def yL_law : MethodName := ⟨RL, "law", "([I)Z"⟩
abbrev cL_read : ByteArray := method_3_code
def yL_read : MethodName := ⟨RL, "read", "(LWiredBeans;[J)I"⟩
abbrev cL_refresh : ByteArray := method_4_code
def yL_refresh : MethodName := ⟨RL, "refresh", "(LWiredBeans;[J)I"⟩
abbrev cL_get : ByteArray := method_5_code
def yL_get : MethodName := ⟨RL, "get", "(LWiredBeans;J[J)I"⟩
abbrev cL_call : ByteArray := method_6_code
def yL_call : MethodName := ⟨RL, "call", "(LWiredBeans;II[J)I"⟩
abbrev vwCl : List vw_C := [(RJx4a65c, TJx4a65c, 3), (RX1, TX1, 19), (RX2, TX2, 8), (RX3, TX3, 21), (RX4, TX4, 2), (RX5, TX5, 13), (RX6, TX6, 8), (RX7, TX7, 6), (RX8, TX8, 7), (RX9, TX9, 1), (RX10, TX10, 4), (RX12, TX12, 12), (RX13, TX13, 77)]
abbrev nvJx4a65c : List Value := [.int 0, .null, .int 0]
theorem nwJx4a65c : ∀ j, j < 3 → defaultValue (tyJx4a65c j) = vp_V nvJx4a65c j := by
  intro j hj
  match j, hj with
  | 0, _ => rfl
  | 1, _ => rfl
  | 2, _ => rfl
  | n + 3, h => exact absurd h (by omega)
abbrev nvX1 : List Value := [.int 0, .null, .null, .null, .null, .long 0, .long 0, .long 0, .long 0, .int 0, .int 0, .int 0, .int 0, .int 0, .int 0, .int 0, .int 0, .int 0, .int 0]
theorem nwX1 : ∀ j, j < 19 → defaultValue (tyX1 j) = vp_V nvX1 j := by
  intro j hj
  match j, hj with
  | 0, _ => rfl
  | 1, _ => rfl
  | 2, _ => rfl
  | 3, _ => rfl
  | 4, _ => rfl
  | 5, _ => rfl
  | 6, _ => rfl
  | 7, _ => rfl
  | 8, _ => rfl
  | 9, _ => rfl
  | 10, _ => rfl
  | 11, _ => rfl
  | 12, _ => rfl
  | 13, _ => rfl
  | 14, _ => rfl
  | 15, _ => rfl
  | 16, _ => rfl
  | 17, _ => rfl
  | 18, _ => rfl
  | n + 19, h => exact absurd h (by omega)
abbrev nvX2 : List Value := [.null, .null, .int 0, .int 0, .int 0, .null, .int 0, .null]
theorem nwX2 : ∀ j, j < 8 → defaultValue (tyX2 j) = vp_V nvX2 j := by
  intro j hj
  match j, hj with
  | 0, _ => rfl
  | 1, _ => rfl
  | 2, _ => rfl
  | 3, _ => rfl
  | 4, _ => rfl
  | 5, _ => rfl
  | 6, _ => rfl
  | 7, _ => rfl
  | n + 8, h => exact absurd h (by omega)
abbrev nvX3 : List Value := [.null, .int 0, .int 0, .int 0, .null, .null, .null, .null, .int 0, .int 0, .int 0, .long 0, .long 0, .long 0, .int 0, .int 0, .int 0, .int 0, .null, .null, .null]
theorem nwX3 : ∀ j, j < 21 → defaultValue (tyX3 j) = vp_V nvX3 j := by
  intro j hj
  match j, hj with
  | 0, _ => rfl
  | 1, _ => rfl
  | 2, _ => rfl
  | 3, _ => rfl
  | 4, _ => rfl
  | 5, _ => rfl
  | 6, _ => rfl
  | 7, _ => rfl
  | 8, _ => rfl
  | 9, _ => rfl
  | 10, _ => rfl
  | 11, _ => rfl
  | 12, _ => rfl
  | 13, _ => rfl
  | 14, _ => rfl
  | 15, _ => rfl
  | 16, _ => rfl
  | 17, _ => rfl
  | 18, _ => rfl
  | 19, _ => rfl
  | 20, _ => rfl
  | n + 21, h => exact absurd h (by omega)
abbrev nvX4 : List Value := [.null, .int 0]
theorem nwX4 : ∀ j, j < 2 → defaultValue (tyX4 j) = vp_V nvX4 j := by
  intro j hj
  match j, hj with
  | 0, _ => rfl
  | 1, _ => rfl
  | n + 2, h => exact absurd h (by omega)
abbrev nvX5 : List Value := [.null, .null, .null, .null, .null, .int 0, .null, .int 0, .null, .null, .null, .int 0, .int 0]
theorem nwX5 : ∀ j, j < 13 → defaultValue (tyX5 j) = vp_V nvX5 j := by
  intro j hj
  match j, hj with
  | 0, _ => rfl
  | 1, _ => rfl
  | 2, _ => rfl
  | 3, _ => rfl
  | 4, _ => rfl
  | 5, _ => rfl
  | 6, _ => rfl
  | 7, _ => rfl
  | 8, _ => rfl
  | 9, _ => rfl
  | 10, _ => rfl
  | 11, _ => rfl
  | 12, _ => rfl
  | n + 13, h => exact absurd h (by omega)
abbrev nvX6 : List Value := [.null, .null, .null, .null, .null, .int 0, .int 0, .int 0]
theorem nwX6 : ∀ j, j < 8 → defaultValue (tyX6 j) = vp_V nvX6 j := by
  intro j hj
  match j, hj with
  | 0, _ => rfl
  | 1, _ => rfl
  | 2, _ => rfl
  | 3, _ => rfl
  | 4, _ => rfl
  | 5, _ => rfl
  | 6, _ => rfl
  | 7, _ => rfl
  | n + 8, h => exact absurd h (by omega)
abbrev nvX7 : List Value := [.null, .null, .int 0, .int 0, .int 0, .null]
theorem nwX7 : ∀ j, j < 6 → defaultValue (tyX7 j) = vp_V nvX7 j := by
  intro j hj
  match j, hj with
  | 0, _ => rfl
  | 1, _ => rfl
  | 2, _ => rfl
  | 3, _ => rfl
  | 4, _ => rfl
  | 5, _ => rfl
  | n + 6, h => exact absurd h (by omega)
abbrev nvX8 : List Value := [.int 0, .int 0, .null, .int 0, .int 0, .int 0, .int 0]
theorem nwX8 : ∀ j, j < 7 → defaultValue (tyX8 j) = vp_V nvX8 j := by
  intro j hj
  match j, hj with
  | 0, _ => rfl
  | 1, _ => rfl
  | 2, _ => rfl
  | 3, _ => rfl
  | 4, _ => rfl
  | 5, _ => rfl
  | 6, _ => rfl
  | n + 7, h => exact absurd h (by omega)
abbrev nvX9 : List Value := [.null]
theorem nwX9 : ∀ j, j < 1 → defaultValue (tyX9 j) = vp_V nvX9 j := by
  intro j hj
  match j, hj with
  | 0, _ => rfl
  | n + 1, h => exact absurd h (by omega)
abbrev nvX10 : List Value := [.null, .null, .null, .int 0]
theorem nwX10 : ∀ j, j < 4 → defaultValue (tyX10 j) = vp_V nvX10 j := by
  intro j hj
  match j, hj with
  | 0, _ => rfl
  | 1, _ => rfl
  | 2, _ => rfl
  | 3, _ => rfl
  | n + 4, h => exact absurd h (by omega)
abbrev nvX12 : List Value := [.null, .null, .null, .null, .null, .null, .null, .null, .int 0, .int 0, .int 0, .int 0]
theorem nwX12 : ∀ j, j < 12 → defaultValue (tyX12 j) = vp_V nvX12 j := by
  intro j hj
  match j, hj with
  | 0, _ => rfl
  | 1, _ => rfl
  | 2, _ => rfl
  | 3, _ => rfl
  | 4, _ => rfl
  | 5, _ => rfl
  | 6, _ => rfl
  | 7, _ => rfl
  | 8, _ => rfl
  | 9, _ => rfl
  | 10, _ => rfl
  | 11, _ => rfl
  | n + 12, h => exact absurd h (by omega)
abbrev nvX13 : List Value := [.null, .null, .null, .null, .null, .int 0, .null, .null, .null, .null, .null, .null, .null, .null, .null, .null, .null, .null, .null, .null, .int 0, .int 0, .int 0, .int 0, .int 0, .int 0, .null, .null, .null, .null, .null, .null, .null, .null, .null, .null, .null, .null, .null, .null, .int 0, .int 0, .null, .null, .null, .null, .null, .null, .int 0, .int 0, .int 0, .int 0, .int 0, .null, .null, .null, .null, .null, .null, .null, .null, .null, .null, .int 0, .null, .null, .null, .null, .null, .null, .null, .null, .null, .null, .int 0, .null, .int 0]
theorem nwX13 : ∀ j, j < 77 → defaultValue (tyX13 j) = vp_V nvX13 j := by
  intro j hj
  match j, hj with
  | 0, _ => rfl
  | 1, _ => rfl
  | 2, _ => rfl
  | 3, _ => rfl
  | 4, _ => rfl
  | 5, _ => rfl
  | 6, _ => rfl
  | 7, _ => rfl
  | 8, _ => rfl
  | 9, _ => rfl
  | 10, _ => rfl
  | 11, _ => rfl
  | 12, _ => rfl
  | 13, _ => rfl
  | 14, _ => rfl
  | 15, _ => rfl
  | 16, _ => rfl
  | 17, _ => rfl
  | 18, _ => rfl
  | 19, _ => rfl
  | 20, _ => rfl
  | 21, _ => rfl
  | 22, _ => rfl
  | 23, _ => rfl
  | 24, _ => rfl
  | 25, _ => rfl
  | 26, _ => rfl
  | 27, _ => rfl
  | 28, _ => rfl
  | 29, _ => rfl
  | 30, _ => rfl
  | 31, _ => rfl
  | 32, _ => rfl
  | 33, _ => rfl
  | 34, _ => rfl
  | 35, _ => rfl
  | 36, _ => rfl
  | 37, _ => rfl
  | 38, _ => rfl
  | 39, _ => rfl
  | 40, _ => rfl
  | 41, _ => rfl
  | 42, _ => rfl
  | 43, _ => rfl
  | 44, _ => rfl
  | 45, _ => rfl
  | 46, _ => rfl
  | 47, _ => rfl
  | 48, _ => rfl
  | 49, _ => rfl
  | 50, _ => rfl
  | 51, _ => rfl
  | 52, _ => rfl
  | 53, _ => rfl
  | 54, _ => rfl
  | 55, _ => rfl
  | 56, _ => rfl
  | 57, _ => rfl
  | 58, _ => rfl
  | 59, _ => rfl
  | 60, _ => rfl
  | 61, _ => rfl
  | 62, _ => rfl
  | 63, _ => rfl
  | 64, _ => rfl
  | 65, _ => rfl
  | 66, _ => rfl
  | 67, _ => rfl
  | 68, _ => rfl
  | 69, _ => rfl
  | 70, _ => rfl
  | 71, _ => rfl
  | 72, _ => rfl
  | 73, _ => rfl
  | 74, _ => rfl
  | 75, _ => rfl
  | 76, _ => rfl
  | n + 77, h => exact absurd h (by omega)
def tbA_0 : List Cond := [.methodLink RX12 1 objectInit, .instanceMethod objectInit, .classLink RX12 9 RX2, .fieldLink RX12 11 "WiredBeans" "classes" "[LWiredBeans$DeclaredClass;", .initialized RX2, .instantiable RX2 8, .methodLink RX12 15 yX2_init, .instanceMethod yX2_init, .arrayClass .char, .fieldLink RX12 18 "WiredBeans" "typed" "[C", .classLink RX12 22 RX6, .initialized RX6, .instantiable RX6 8, .methodLink RX12 24 yX6_init, .instanceMethod yX6_init, .fieldLink RX12 25 "WiredBeans" "paper" "LWiredBeans$Paper;", .classLink RX12 29 RX7, .initialized RX7, .instantiable RX7 6, .methodLink RX12 31 yX7_init, .instanceMethod yX7_init, .fieldLink RX12 34 "WiredBeans" "reader" "LWiredBeans$Reader;", .classLink RX12 38 RX9, .initialized RX9]
def tbA_1 : List Cond := [.instantiable RX9 1, .methodLink RX12 40 yX9_init, .instanceMethod yX9_init, .fieldLink RX12 41 "WiredBeans" "structure" "LWiredBeans$Structure;", .classLink RX12 45 RX10, .initialized RX10, .instantiable RX10 4, .methodLink RX12 47 yX10_init, .instanceMethod yX10_init, .fieldLink RX12 48 "WiredBeans" "wiring" "LWiredBeans$Wiring;", .classLink RX12 52 RX4, .initialized RX4, .instantiable RX4 2, .methodLink RX12 54 yX4_init, .instanceMethod yX4_init, .fieldLink RX12 55 "WiredBeans" "row" "LWiredBeans$EventRow;", .classLink RX12 59 RX5, .initialized RX5, .instantiable RX5 13, .methodLink RX12 61 yX5_init, .instanceMethod yX5_init, .fieldLink RX12 64 "WiredBeans" "maker" "LWiredBeans$Maker;", .fieldLink RX12 68 "WiredBeans" "faultPlace" "I", .methodLink RX12 72 yX12_isClass]
def tbA_2 : List Cond := [.static yX12_isClass, .initialized RX12, .methodLink RX12 76 yX2_begin, .instanceMethod yX2_begin, .selects RX2 yX2_begin yX2_begin, .methodLink RX12 80 yX12_areTypes, .static yX12_areTypes, .methodLink RX12 84 yX2_addConstructor, .instanceMethod yX2_addConstructor, .selects RX2 yX2_addConstructor yX2_addConstructor, .methodLink RX12 87 yX12_isLetter, .static yX12_isLetter, .methodLink RX12 90 yX12_isType, .static yX12_isType, .methodLink RX12 93 yX2_addSetter, .instanceMethod yX2_addSetter, .selects RX2 yX2_addSetter yX2_addSetter, .methodLink RX12 97 yX2_addFactory, .instanceMethod yX2_addFactory, .selects RX2 yX2_addFactory yX2_addFactory, .fieldLink RX12 101 "WiredBeans" "typedLength" "I", .methodLink RX12 104 yX12_typedBehind, .instanceMethod yX12_typedBehind, .selects RX12 yX12_typedBehind yX12_typedBehind]
def tbA_3 : List Cond := [.methodLink RX12 108 yX5_startAfresh, .instanceMethod yX5_startAfresh, .selects RX5 yX5_startAfresh yX5_startAfresh, .fieldLink RX12 111 "WiredBeans" "faultNumber" "I", .methodLink RX12 114 yX7_firstWrongPlace, .instanceMethod yX7_firstWrongPlace, .selects RX7 yX7_firstWrongPlace yX7_firstWrongPlace, .fieldLink RX12 122 "WiredBeans" "hasDocument" "Z", .methodLink RX12 126 yX10_forgetBeans, .instanceMethod yX10_forgetBeans, .selects RX10 yX10_forgetBeans yX10_forgetBeans, .classLink RX12 129 "java/lang/IllegalArgumentException", .initialized "java/lang/IllegalArgumentException", .methodLink RX12 132 yX10_count, .instanceMethod yX10_count, .selects RX10 yX10_count yX10_count, .methodLink RX12 135 yX5_failure, .instanceMethod yX5_failure, .selects RX5 yX5_failure yX5_failure, .methodLink RX12 138 yX5_failureBean, .instanceMethod yX5_failureBean, .selects RX5 yX5_failureBean yX5_failureBean, .methodLink RX12 141 yX5_forgetFailure, .instanceMethod yX5_forgetFailure]
def tbA_4 : List Cond := [.selects RX5 yX5_forgetFailure yX5_forgetFailure, .classLink RX12 144 "java/lang/IllegalStateException", .initialized "java/lang/IllegalStateException", .classLink RX12 151 "java/lang/UnsupportedOperationException", .initialized "java/lang/UnsupportedOperationException", .classLink RX12 169 "java/lang/IndexOutOfBoundsException", .initialized "java/lang/IndexOutOfBoundsException", .fieldLink RX12 172 "WiredBeans$Element" "target" "J", .methodLink RX12 178 yX5_destroyAll, .instanceMethod yX5_destroyAll, .selects RX5 yX5_destroyAll yX5_destroyAll, .methodLink RX12 181 yX4_count, .instanceMethod yX4_count, .selects RX4 yX4_count yX4_count, .methodLink RX12 182 yX4_number, .instanceMethod yX4_number, .selects RX4 yX4_number yX4_number, .methodLink RX12 185 yX5_classOfObject, .instanceMethod yX5_classOfObject, .selects RX5 yX5_classOfObject yX5_classOfObject, .methodLink RX12 189 yX5_beanOfObject, .instanceMethod yX5_beanOfObject, .selects RX5 yX5_beanOfObject yX5_beanOfObject, .methodLink RX8 3 objectInit]
def tbA_5 : List Cond := [.fieldLink RX8 9 "WiredBeans$Signature" "owner" "I", .fieldLink RX8 15 "WiredBeans$Signature" "number" "I", .arrayClass .int, .fieldLink RX8 18 "WiredBeans$Signature" "types" "[I", .fieldLink RX8 22 "WiredBeans$Signature" "name" "I", .fieldLink RX8 25 "WiredBeans$Signature" "isStatic" "Z", .fieldLink RX8 29 "WiredBeans$Signature" "result" "I", .fieldLink RX8 32 "WiredBeans$Signature" "count" "I", .methodLink RX2 3 objectInit, .fieldLink RX2 9 "WiredBeans$DeclaredClass" "number" "I", .classLink RX2 15 RX8, .fieldLink RX2 17 "WiredBeans$DeclaredClass" "constructors" "[LWiredBeans$Signature;", .fieldLink RX2 21 "WiredBeans$DeclaredClass" "factories" "[LWiredBeans$Signature;", .initialized RX8, .instantiable RX8 7, .methodLink RX2 24 yX8_init, .instanceMethod yX8_init, .fieldLink RX2 27 "WiredBeans$DeclaredClass" "setterTypes" "[I", .fieldLink RX2 31 "WiredBeans$DeclaredClass" "parent" "LWiredBeans$DeclaredClass;", .fieldLink RX2 35 "WiredBeans$DeclaredClass" "constructorCount" "I", .fieldLink RX2 38 "WiredBeans$DeclaredClass" "factoryCount" "I", .fieldLink RX2 41 "WiredBeans$DeclaredClass" "setterCount" "I", .methodLink RX2 44 yX8_describe, .instanceMethod yX8_describe]
def tbA_6 : List Cond := [.selects RX8 yX8_describe yX8_describe, .methodLink RX2 48 yX8_setTypes, .instanceMethod yX8_setTypes, .selects RX8 yX8_setTypes yX8_setTypes, .methodLink RX3 3 objectInit, .fieldLink RX3 11 "WiredBeans$Element" "text" "[C", .methodLink RX6 3 objectInit, .classLink RX6 11 RX3, .fieldLink RX6 13 "WiredBeans$Paper" "elements" "[LWiredBeans$Element;", .initialized RX3, .instantiable RX3 21, .methodLink RX6 17 yX3_init, .instanceMethod yX3_init, .arrayClass .long, .fieldLink RX6 18 "WiredBeans$Paper" "attributeKeys" "[J", .fieldLink RX6 22 "WiredBeans$Paper" "valueStarts" "[I", .fieldLink RX6 26 "WiredBeans$Paper" "valueLengths" "[I", .fieldLink RX6 29 "WiredBeans$Paper" "values" "[C", .fieldLink RX6 33 "WiredBeans$Paper" "count" "I", .fieldLink RX6 37 "WiredBeans$Paper" "attributes" "I", .fieldLink RX6 40 "WiredBeans$Paper" "valuesEnd" "I", .methodLink RX7 3 objectInit, .fieldLink RX7 9 "WiredBeans$Reader" "paper" "LWiredBeans$Paper;", .fieldLink RX7 15 "WiredBeans$Reader" "text" "[C"]
def tbA_7 : List Cond := [.fieldLink RX7 19 "WiredBeans$Reader" "length" "I", .fieldLink RX7 23 "WiredBeans$Reader" "at" "I", .fieldLink RX7 26 "WiredBeans$Reader" "depth" "I", .fieldLink RX7 29 "WiredBeans$Reader" "open" "LWiredBeans$Element;", .methodLink RX7 33 yX6_clear, .instanceMethod yX6_clear, .selects RX6 yX6_clear yX6_clear, .methodLink RX7 38 yX7_skipAround, .instanceMethod yX7_skipAround, .selects RX7 yX7_skipAround yX7_skipAround, .methodLink RX7 41 yX7_openElement, .instanceMethod yX7_openElement, .selects RX7 yX7_openElement yX7_openElement, .classLink RX7 50 "java/lang/IllegalArgumentException", .methodLink RX7 53 yX7_skipsWhite, .instanceMethod yX7_skipsWhite, .selects RX7 yX7_skipsWhite yX7_skipsWhite, .methodLink RX7 64 yX7_expect, .instanceMethod yX7_expect, .selects RX7 yX7_expect yX7_expect, .fieldLink RX7 101 "WiredBeans$Element" "word" "LWiredBeans$Word;", .methodLink RX9 3 objectInit, .fieldLink RX9 9 "WiredBeans$Structure" "paper" "LWiredBeans$Paper;", .methodLink RX1 3 objectInit]
def tbA_8 : List Cond := [.fieldLink RX1 9 "WiredBeans$Bean" "number" "I", .classLink RX1 15 RJx4a65c, .initialized RJx4a65c, .instantiable RJx4a65c 3, .methodLink RX1 17 yJx4a65c_init_da8c8, .instanceMethod yJx4a65c_init_da8c8, .fieldLink RX1 18 "WiredBeans$Bean" "args" "Ljava/util/ArrayList;", .fieldLink RX1 22 "WiredBeans$Bean" "sets" "Ljava/util/ArrayList;", .fieldLink RX1 25 "WiredBeans$Bean" "lookups" "Ljava/util/ArrayList;", .methodLink RX10 3 objectInit, .fieldLink RX10 9 "WiredBeans$Wiring" "paper" "LWiredBeans$Paper;", .classLink RX10 17 RX1, .fieldLink RX10 19 "WiredBeans$Wiring" "beans" "[LWiredBeans$Bean;", .initialized RX1, .instantiable RX1 19, .methodLink RX10 23 yX1_init, .instanceMethod yX1_init, .fieldLink RX10 26 "WiredBeans$Wiring" "chain" "[LWiredBeans$Bean;", .fieldLink RX10 29 "WiredBeans$Wiring" "count" "I", .methodLink RX4 3 objectInit, .fieldLink RX4 11 "WiredBeans$EventRow" "numbers" "[I", .fieldLink RX4 15 "WiredBeans$EventRow" "count" "I", .methodLink RX5 7 objectInit, .fieldLink RX5 13 "WiredBeans$Maker" "wiring" "LWiredBeans$Wiring;"]
def tbA_9 : List Cond := [.fieldLink RX5 17 "WiredBeans$Maker" "classes" "[LWiredBeans$DeclaredClass;", .fieldLink RX5 21 "WiredBeans$Maker" "row" "LWiredBeans$EventRow;", .fieldLink RX5 25 "WiredBeans$Maker" "objectClasses" "[I", .fieldLink RX5 29 "WiredBeans$Maker" "objectBeans" "[I", .classLink RX5 34 RX1, .fieldLink RX5 36 "WiredBeans$Maker" "finished" "[LWiredBeans$Bean;", .fieldLink RX5 40 "WiredBeans$Maker" "worked" "[I", .fieldLink RX5 43 "WiredBeans$Maker" "argAtPlace" "[I", .fieldLink RX5 46 "WiredBeans$Maker" "failureBean" "I", .fieldLink RX5 50 "WiredBeans$Maker" "objectCount" "I", .methodLink RX5 53 yX5_forgetMade, .instanceMethod yX5_forgetMade, .selects RX5 yX5_forgetMade yX5_forgetMade, .methodLink RX5 56 yX4_clear, .instanceMethod yX4_clear, .selects RX4 yX4_clear yX4_clear, .methodLink RX5 78 yX10_count, .fieldLink RX5 82 "WiredBeans$Bean" "isMade" "Z", .fieldLink RX5 86 "WiredBeans$Maker" "finishedCount" "I", .fieldLink RX5 61 "WiredBeans$Maker" "failure" "I", .fieldLink RX5 89 "WiredBeans$Bean" "destroy" "I", .fieldLink RX5 92 "WiredBeans$Bean" "madeObject" "I", .methodLink RX5 64 yX5_isObject, .instanceMethod yX5_isObject]
def tbA_10 : List Cond := [.selects RX5 yX5_isObject yX5_isObject, .methodLink RJx4a65c 1 yJxc12de_init_da8c8, .instanceMethod yJxc12de_init_da8c8, .initialized RJxc12de, .fieldLink RJx4a65c 39 "java/util/ArrayList" "DEFAULTCAPACITY_EMPTY_ELEMENTDATA" "[Ljava/lang/Object;", .fieldLink RJx4a65c 9 "java/util/ArrayList" "elementData" "[Ljava/lang/Object;", .methodLink RJxc12de 1 yJxa1e45_init_da8c8, .instanceMethod yJxa1e45_init_da8c8, .initialized RJxa1e45, .fieldLink RJxc12de 7 "java/util/AbstractList" "modCount" "I", .methodLink RJxa1e45 1 objectInit, .methodLink RX13 1 objectInit, .constantLong RX13 7 (422607679091), .constantLong RX13 9 (418430673267), .constantLong RX13 11 (1650811246), .constantLong RX13 13 (6386279), .constantLong RX13 15 (7562612), .constantLong RX13 17 (1818850164), .constantLong RX13 19 (508440638821), .constantLong RX13 21 (7497062), .constantLong RX13 23 (1853189228), .constantLong RX13 25 (119225866483056), .fieldLink RX13 27 "WiredBeansModel" "elementNames" "[J", .constantLong RX13 33 (7955827)]
def tbA_11 : List Cond := [.constantLong RX13 35 (28271), .constantLong RX13 37 (7302757), .constantLong RX13 39 (1835101817), .constantLong RX13 41 (6909556), .constantLong RX13 43 (500136506472), .constantLong RX13 45 (1667785074), .constantLong RX13 47 (1952807028), .constantLong RX13 49 (7499639), .constantLong RX13 51 (1953658213), .constantLong RX13 53 (439721161573), .fieldLink RX13 55 "WiredBeansModel" "words" "[J", .constantLong RX13 58 (7107643), .constantLong RX13 60 (6779963), .constantLong RX13 62 (1634562107), .constantLong RX13 64 (487301542971), .constantLong RX13 66 (418498179899), .fieldLink RX13 68 "WiredBeansModel" "entities" "[J", .fieldLink RX13 71 "WiredBeansModel" "entityLengths" "[I", .fieldLink RX13 75 "WiredBeansModel" "entitySigns" "[I", .fieldLink RX13 78 "WiredBeansModel" "parents" "[I", .fieldLink RX13 81 "WiredBeansModel" "makers" "[I", .fieldLink RX13 84 "WiredBeansModel" "makerSize" "[I", .fieldLink RX13 87 "WiredBeansModel" "makerType" "[I", .fieldLink RX13 90 "WiredBeansModel" "setters" "[I"]
def tbA_12 : List Cond := [.fieldLink RX13 93 "WiredBeansModel" "setterName" "[I", .fieldLink RX13 96 "WiredBeansModel" "setterType" "[I", .fieldLink RX13 99 "WiredBeansModel" "factories" "[I", .fieldLink RX13 102 "WiredBeansModel" "factoryName" "[I", .fieldLink RX13 105 "WiredBeansModel" "factoryResult" "[I", .fieldLink RX13 108 "WiredBeansModel" "factorySize" "[I", .fieldLink RX13 111 "WiredBeansModel" "factoryType" "[I", .arrayClass .boolean, .fieldLink RX13 114 "WiredBeansModel" "factoryStatic" "[Z", .arrayClass .byte, .fieldLink RX13 118 "WiredBeansModel" "text" "[B", .fieldLink RX13 122 "WiredBeansModel" "faultPlace" "I", .fieldLink RX13 126 "WiredBeansModel" "kinds" "[I", .fieldLink RX13 129 "WiredBeansModel" "places" "[I", .fieldLink RX13 132 "WiredBeansModel" "above" "[I", .fieldLink RX13 135 "WiredBeansModel" "within" "[I", .fieldLink RX13 138 "WiredBeansModel" "attributes" "[I", .fieldLink RX13 141 "WiredBeansModel" "textSize" "[I", .fieldLink RX13 144 "WiredBeansModel" "pending" "[I", .fieldLink RX13 147 "WiredBeansModel" "textAt" "[I", .fieldLink RX13 150 "WiredBeansModel" "names" "[J", .fieldLink RX13 153 "WiredBeansModel" "attributeName" "[J", .fieldLink RX13 156 "WiredBeansModel" "attributeAt" "[I", .fieldLink RX13 159 "WiredBeansModel" "attributeSize" "[I"]
def tbA_13 : List Cond := [.fieldLink RX13 162 "WiredBeansModel" "characters" "[B", .fieldLink RX13 165 "WiredBeansModel" "texts" "[B", .fieldLink RX13 168 "WiredBeansModel" "beanElement" "[I", .fieldLink RX13 171 "WiredBeansModel" "beanOf" "[I", .fieldLink RX13 174 "WiredBeansModel" "setMany" "[I", .fieldLink RX13 177 "WiredBeansModel" "setElement" "[I", .fieldLink RX13 180 "WiredBeansModel" "lookupMany" "[I", .fieldLink RX13 183 "WiredBeansModel" "lookupElement" "[I", .fieldLink RX13 186 "WiredBeansModel" "failureBean" "I", .fieldLink RX13 189 "WiredBeansModel" "objectClass" "[I", .fieldLink RX13 192 "WiredBeansModel" "objectBean" "[I", .fieldLink RX13 195 "WiredBeansModel" "eventKind" "[I", .fieldLink RX13 198 "WiredBeansModel" "eventObject" "[I", .fieldLink RX13 201 "WiredBeansModel" "eventSecond" "[I", .fieldLink RX13 204 "WiredBeansModel" "eventThird" "[I", .fieldLink RX13 207 "WiredBeansModel" "madeOrder" "[I", .fieldLink RX13 210 "WiredBeansModel" "own" "[I", .fieldLink RX13 213 "WiredBeansModel" "isMade" "[Z", .fieldLink RX13 216 "WiredBeansModel" "making" "[Z", .fieldLink RX13 219 "WiredBeansModel" "pileBean" "[I", .fieldLink RX13 222 "WiredBeansModel" "pilePhase" "[I", .fieldLink RX13 225 "WiredBeansModel" "pileIndex" "[I", .fieldLink RX13 228 "WiredBeansModel" "pileItem" "[I", .fieldLink RX13 231 "WiredBeansModel" "pileFactory" "[I"]
def tbA_14 : List Cond := [.fieldLink RX13 234 "WiredBeansModel" "pileObject" "[I", .fieldLink RX13 237 "WiredBeansModel" "valueKind" "[I", .fieldLink RX13 240 "WiredBeansModel" "value" "[I", .fieldLink RX13 243 "WiredBeansModel" "itemKind" "[I", .fieldLink RX13 246 "WiredBeansModel" "item" "[I", .fieldLink RX13 249 "WiredBeansModel" "spot" "[I", .fieldLink RX13 252 "WiredBeansModel" "thrown" "I", .methodLink RX13 255 yX13_isType, .static yX13_isType, .initialized RX13, .methodLink RX13 259 yX13_isClass, .static yX13_isClass, .methodLink RX13 262 yX13_areTypes, .static yX13_areTypes, .methodLink RX13 266 yX13_isLetter, .static yX13_isLetter, .fieldLink RX13 273 "WiredBeansModel" "size" "I", .fieldLink RX13 276 "WiredBeansModel" "fault" "I", .fieldLink RX13 279 "WiredBeansModel" "at" "I", .methodLink RX13 282 yX13_here, .instanceMethod yX13_here, .selects RX13 yX13_here yX13_here, .methodLink RX13 286 yX13_isWhite, .instanceMethod yX13_isWhite]
def tbA_15 : List Cond := [.selects RX13 yX13_isWhite yX13_isWhite, .methodLink RX13 296 yX13_white, .instanceMethod yX13_white, .selects RX13 yX13_white yX13_white, .fieldLink RX13 329 "WiredBeansModel" "elements" "I", .methodLink RX13 289 yX13_bad, .instanceMethod yX13_bad, .selects RX13 yX13_bad yX13_bad, .fieldLink RX13 335 "WiredBeansModel" "closed" "Z", .methodLink RX13 339 yX13_between, .instanceMethod yX13_between, .selects RX13 yX13_between yX13_between, .methodLink RX13 342 yX13_begin, .instanceMethod yX13_begin, .selects RX13 yX13_begin yX13_begin, .fieldLink RX13 471 "WiredBeansModel" "events" "I", .fieldLink RX13 474 "WiredBeansModel" "made" "I", .fieldLink RX13 323 "WiredBeansModel" "pool" "I", .fieldLink RX13 439 "WiredBeansModel" "beans" "I", .fieldLink RX13 477 "WiredBeansModel" "document" "Z", .fieldLink RX13 480 "WiredBeansModel" "objects" "I", .methodLink RX13 483 yX13_clear, .instanceMethod yX13_clear, .selects RX13 yX13_clear yX13_clear]
def tbA_16 : List Cond := [.methodLink RX13 486 yX13_readDocument, .instanceMethod yX13_readDocument, .selects RX13 yX13_readDocument yX13_readDocument, .fieldLink RX13 498 "WiredBeansModel" "failure" "I", .constantLong RX13 394 (1818327673), .fieldLink RX13 513 "WiredBeansModel" "got" "I", .constantLong RX13 380 (1851878757), .constantLong RX13 398 (120282512125796), .constantLong RX13 400 (1768843636), .constantLong RX13 402 (28259044220366713), .constantLong RX13 392 (495589486693), .classLink RL 8 RX12, .instantiable RX12 12, .methodLink RL 32 yX12_init, .instanceMethod yX12_init, .classLink RL 33 RX13, .instantiable RX13 77, .methodLink RL 35 yX13_init, .instanceMethod yX13_init, .methodLink RL 36 yX12_declare, .instanceMethod yX12_declare, .selects RX12 yX12_declare yX12_declare, .methodLink RL 40 yX13_declare, .instanceMethod yX13_declare]
def tbA_17 : List Cond := [.selects RX13 yX13_declare yX13_declare, .methodLink RL 41 yX12_constructor, .instanceMethod yX12_constructor, .selects RX12 yX12_constructor yX12_constructor, .methodLink RL 45 yX13_constructor, .instanceMethod yX13_constructor, .selects RX13 yX13_constructor yX13_constructor, .methodLink RL 46 yX12_setter, .instanceMethod yX12_setter, .selects RX12 yX12_setter yX12_setter, .methodLink RL 50 yX13_setter, .instanceMethod yX13_setter, .selects RX13 yX13_setter yX13_setter, .methodLink RL 51 yX12_factory, .instanceMethod yX12_factory, .selects RX12 yX12_factory yX12_factory, .methodLink RL 55 yX13_factory, .instanceMethod yX13_factory, .selects RX13 yX13_factory yX13_factory, .methodLink RL 56 yX12_type, .instanceMethod yX12_type, .selects RX12 yX12_type yX12_type, .methodLink RL 60 yX13_type, .instanceMethod yX13_type]
def tbA_18 : List Cond := [.selects RX13 yX13_type yX13_type, .methodLink RL 61 yL_read, .static yL_read, .initialized RL, .methodLink RL 66 yX13_read, .instanceMethod yX13_read, .selects RX13 yX13_read yX13_read, .methodLink RL 67 yX13_thrown, .instanceMethod yX13_thrown, .selects RX13 yX13_thrown yX13_thrown, .methodLink RL 70 yX12_fault, .instanceMethod yX12_fault, .selects RX12 yX12_fault yX12_fault, .methodLink RL 74 yX13_fault, .instanceMethod yX13_fault, .selects RX13 yX13_fault yX13_fault, .methodLink RL 75 yL_refresh, .static yL_refresh, .methodLink RL 77 yX13_refresh, .instanceMethod yX13_refresh, .selects RX13 yX13_refresh yX13_refresh, .constantLong RL 78 (4294967295), .methodLink RL 80 yL_get, .static yL_get]
def tbA_19 : List Cond := [.methodLink RL 83 yX13_get, .instanceMethod yX13_get, .selects RX13 yX13_get yX13_get, .methodLink RL 84 yL_call, .static yL_call, .methodLink RL 87 yX13_call, .instanceMethod yX13_call, .selects RX13 yX13_call yX13_call, .methodLink RL 88 yX12_close, .instanceMethod yX12_close, .selects RX12 yX12_close yX12_close, .methodLink RL 91 yX13_close, .instanceMethod yX13_close, .selects RX13 yX13_close yX13_close, .methodLink RL 92 yX12_events, .instanceMethod yX12_events, .selects RX12 yX12_events yX12_events, .methodLink RL 95 yX13_events, .instanceMethod yX13_events, .selects RX13 yX13_events yX13_events, .methodLink RL 96 yX12_event, .instanceMethod yX12_event, .selects RX12 yX12_event yX12_event, .methodLink RL 99 yX13_event]
def tbA_20 : List Cond := [.instanceMethod yX13_event, .selects RX13 yX13_event yX13_event, .methodLink RL 100 yX12_object, .instanceMethod yX12_object, .selects RX12 yX12_object yX12_object, .methodLink RL 103 yX13_object, .instanceMethod yX13_object, .selects RX13 yX13_object yX13_object, .methodLink RL 104 yX12_bean, .instanceMethod yX12_bean, .selects RX12 yX12_bean yX12_bean, .methodLink RL 107 yX13_bean, .instanceMethod yX13_bean, .selects RX13 yX13_bean yX13_bean, .methodLink RL 7 yX12_read, .instanceMethod yX12_read, .selects RX12 yX12_read yX12_read, .classLink RL 13 "java/lang/IllegalArgumentException", .methodLink RL 15 yX12_refresh, .instanceMethod yX12_refresh, .selects RX12 yX12_refresh yX12_refresh, .classLink RL 18 "java/lang/IllegalStateException", .classLink RL 20 "java/lang/UnsupportedOperationException", .methodLink RL 22 yX12_get]
def tbA_21 : List Cond := [.instanceMethod yX12_get, .selects RX12 yX12_get yX12_get, .methodLink RL 26 yX12_call, .instanceMethod yX12_call, .selects RX12 yX12_call yX12_call, .classLink RL 30 "java/lang/IndexOutOfBoundsException", .methodLink RX12 1 objectInit, .methodLink RX12 1 objectInit, .methodLink RX12 1 objectInit, .methodLink RX12 1 objectInit, .methodLink RX12 1 objectInit, .methodLink RX12 1 objectInit, .methodLink RX12 1 objectInit, .methodLink RX12 1 objectInit, .methodLink RX12 1 objectInit, .methodLink RX12 1 objectInit, .methodLink RX12 1 objectInit, .methodLink RX12 1 objectInit, .methodLink RX12 1 objectInit, .methodLink RX12 1 objectInit, .methodLink RX12 1 objectInit, .methodLink RX12 1 objectInit, .methodLink RX12 1 objectInit, .methodLink RX12 1 objectInit]
def tbA_22 : List Cond := [.code objectInit ⟨#[0xb1]⟩ 1 none, .code yX2_init cX2_init 3 none, .code yX6_init cX6_init 3 none, .code yX7_init cX7_init 2 none, .code yX9_init cX9_init 2 none, .code yX10_init cX10_init 3 none, .code yX4_init cX4_init 1 none, .code yX5_init cX5_init 4 none, .code yX12_isClass cX12_isClass 1 (some .boolean), .code yX2_begin cX2_begin 3 none, .code yX12_areTypes cX12_areTypes 4 (some .boolean), .code yX2_addConstructor cX2_addConstructor 5 (some .boolean), .code yX12_isLetter cX12_isLetter 1 (some .boolean), .code yX12_isType cX12_isType 1 (some .boolean), .code yX2_addSetter cX2_addSetter 3 (some .boolean), .code yX2_addFactory cX2_addFactory 8 (some .boolean), .code yX12_typedBehind cX12_typedBehind 6 (some .int), .code yX5_startAfresh cX5_startAfresh 1 none, .codeWith yX7_firstWrongPlace cX7_firstWrongPlace 4 (some .int) [(32, 75, 78, 50)], .code yX10_forgetBeans cX10_forgetBeans 1 none, .code yX10_count cX10_count 1 (some .int), .code yX5_failure cX5_failure 1 (some .int), .code yX5_failureBean cX5_failureBean 1 (some .int), .code yX5_forgetFailure cX5_forgetFailure 1 none]
def tbA_23 : List Cond := [.code yX5_destroyAll cX5_destroyAll 2 none, .code yX4_count cX4_count 1 (some .int), .code yX4_number cX4_number 3 (some .int), .code yX5_classOfObject cX5_classOfObject 2 (some .int), .code yX5_beanOfObject cX5_beanOfObject 2 (some .int), .code yX8_init cX8_init 3 none, .code yX8_describe cX8_describe 4 none, .code yX8_setTypes cX8_setTypes 5 none, .code yX3_init cX3_init 1 none, .code yX6_clear cX6_clear 1 none, .code yX7_skipAround cX7_skipAround 2 none, .code yX7_openElement cX7_openElement 5 none, .code yX7_skipsWhite cX7_skipsWhite 2 (some .boolean), .code yX7_expect cX7_expect 2 none, .code yJx4a65c_init_da8c8 cJx4a65c_init_da8c8 1 none, .code yX1_init cX1_init 2 none, .code yX5_forgetMade cX5_forgetMade 2 none, .code yX4_clear cX4_clear 1 none, .code yX5_isObject cX5_isObject 2 (some .boolean), .code yJxc12de_init_da8c8 cJxc12de_init_da8c8 1 none, .code yJxa1e45_init_da8c8 cJxa1e45_init_da8c8 1 none, .code yX13_isType cX13_isType 1 (some .boolean), .code yX13_isClass cX13_isClass 1 (some .boolean), .code yX13_areTypes cX13_areTypes 4 (some .boolean)]
def tbA_24 : List Cond := [.code yX13_isLetter cX13_isLetter 1 (some .boolean), .code yX13_here cX13_here 2 (some .int), .code yX13_isWhite cX13_isWhite 2 (some .boolean), .code yX13_white cX13_white 2 (some .int), .code yX13_bad cX13_bad 2 none, .code yX13_between cX13_between 2 none, .code yX13_begin cX13_begin 6 (some .int), .code yX13_clear cX13_clear 2 none, .code yX13_readDocument cX13_readDocument 5 none, .code yX12_init cX12_init 2 none, .code yX13_init cX13_init 2 none, .code yX12_declare cX12_declare 3 (some .boolean), .code yX13_declare cX13_declare 3 (some .boolean), .code yX12_constructor cX12_constructor 6 (some .boolean), .code yX13_constructor cX13_constructor 7 (some .boolean), .code yX12_setter cX12_setter 4 (some .boolean), .code yX13_setter cX13_setter 5 (some .boolean), .code yX12_factory cX12_factory 9 (some .boolean), .code yX13_factory cX13_factory 10 (some .boolean), .code yX12_type cX12_type 7 (some .int), .code yX13_type cX13_type 10 (some .int), .codeWith yL_read cL_read 3 (some .int) [(0, 8, 11, 13)], .code yX13_read cX13_read 4 (some .int), .code yX13_thrown cX13_thrown 1 (some .int)]
def tbA_25 : List Cond := [.code yX12_fault cX12_fault 2 (some .int), .code yX13_fault cX13_fault 2 (some .int), .codeWith yL_refresh cL_refresh 3 (some .int) [(0, 8, 11, 18), (0, 8, 14, 20)], .code yX13_refresh cX13_refresh 4 (some .int), .codeWith yL_get cL_get 5 (some .int) [(0, 9, 12, 18), (0, 9, 16, 20)], .code yX13_get cX13_get 3 (some .int), .codeWith yL_call cL_call 5 (some .int) [(0, 10, 13, 18), (0, 10, 17, 30), (0, 10, 21, 20)], .code yX13_call cX13_call 7 (some .int), .code yX12_close cX12_close 1 (some .int), .code yX13_close cX13_close 1 (some .int), .code yX12_events cX12_events 1 (some .int), .code yX13_events cX13_events 1 (some .int), .code yX12_event cX12_event 3 (some .int), .code yX13_event cX13_event 3 (some .int), .code yX12_object cX12_object 3 (some .int), .code yX13_object cX13_object 3 (some .int), .code yX12_bean cX12_bean 3 (some .int), .code yX13_bean cX13_bean 4 (some .int), .code yX12_read cX12_read 1 (some .int), .code yX12_refresh cX12_refresh 1 (some .int), .code yX12_get cX12_get 4 (some .int), .code yX12_call cX12_call 5 (some .int)]
def tbA : List Cond := tbA_0 ++ (tbA_1 ++ (tbA_2 ++ (tbA_3 ++ (tbA_4 ++ (tbA_5 ++ (tbA_6 ++ (tbA_7 ++ (tbA_8 ++ (tbA_9 ++ (tbA_10 ++ (tbA_11 ++ (tbA_12 ++ (tbA_13 ++ (tbA_14 ++ (tbA_15 ++ (tbA_16 ++ (tbA_17 ++ (tbA_18 ++ (tbA_19 ++ (tbA_20 ++ (tbA_21 ++ (tbA_22 ++ (tbA_23 ++ (tbA_24 ++ (tbA_25)))))))))))))))))))))))))
def tbF : List Cond := wsJx4a65c0 ++ (wsX10 ++ (wsX20 ++ (wsX30 ++ (wsX40 ++ (wsX50 ++ (wsX60 ++ (wsX70 ++ (wsX80 ++ (wsX90 ++ (wsX100 ++ (wsX120 ++ (wsX130))))))))))))
def tbX : List Cond := (vx_at0 RX12 131 "java/lang/IllegalArgumentException" ["java/lang/RuntimeException", "java/lang/Exception"]).filter goodWord ++ ((vx_at0 RX12 146 "java/lang/IllegalStateException" ["java/lang/RuntimeException", "java/lang/Exception"]).filter goodWord ++ ((vx_at0 RX7 52 "java/lang/IllegalArgumentException" ["java/lang/RuntimeException", "java/lang/Exception"]).filter goodWord))
def tb : List Cond := tbA ++ (tbF ++ tbX)
theorem inA_0 : ∀ w ∈ tbA_0, w ∈ tb := fun _ h => List.mem_append_left _ (List.mem_append_left _ h)
theorem inA_1 : ∀ w ∈ tbA_1, w ∈ tb := fun _ h => List.mem_append_left _ (List.mem_append_right _ (List.mem_append_left _ h))
theorem inA_2 : ∀ w ∈ tbA_2, w ∈ tb := fun _ h => List.mem_append_left _ (List.mem_append_right _ (List.mem_append_right _ (List.mem_append_left _ h)))
theorem inA_3 : ∀ w ∈ tbA_3, w ∈ tb := fun _ h => List.mem_append_left _ (List.mem_append_right _ (List.mem_append_right _ (List.mem_append_right _ (List.mem_append_left _ h))))
theorem inA_4 : ∀ w ∈ tbA_4, w ∈ tb := fun _ h => List.mem_append_left _ (List.mem_append_right _ (List.mem_append_right _ (List.mem_append_right _ (List.mem_append_right _ (List.mem_append_left _ h)))))
theorem inA_5 : ∀ w ∈ tbA_5, w ∈ tb := fun _ h => List.mem_append_left _ (List.mem_append_right _ (List.mem_append_right _ (List.mem_append_right _ (List.mem_append_right _ (List.mem_append_right _ (List.mem_append_left _ h))))))
theorem inA_6 : ∀ w ∈ tbA_6, w ∈ tb := fun _ h => List.mem_append_left _ (List.mem_append_right _ (List.mem_append_right _ (List.mem_append_right _ (List.mem_append_right _ (List.mem_append_right _ (List.mem_append_right _ (List.mem_append_left _ h)))))))
theorem inA_7 : ∀ w ∈ tbA_7, w ∈ tb := fun _ h => List.mem_append_left _ (List.mem_append_right _ (List.mem_append_right _ (List.mem_append_right _ (List.mem_append_right _ (List.mem_append_right _ (List.mem_append_right _ (List.mem_append_right _ (List.mem_append_left _ h))))))))
theorem inA_8 : ∀ w ∈ tbA_8, w ∈ tb := fun _ h => List.mem_append_left _ (List.mem_append_right _ (List.mem_append_right _ (List.mem_append_right _ (List.mem_append_right _ (List.mem_append_right _ (List.mem_append_right _ (List.mem_append_right _ (List.mem_append_right _ (List.mem_append_left _ h)))))))))
theorem inA_9 : ∀ w ∈ tbA_9, w ∈ tb := fun _ h => List.mem_append_left _ (List.mem_append_right _ (List.mem_append_right _ (List.mem_append_right _ (List.mem_append_right _ (List.mem_append_right _ (List.mem_append_right _ (List.mem_append_right _ (List.mem_append_right _ (List.mem_append_right _ (List.mem_append_left _ h))))))))))
theorem inA_10 : ∀ w ∈ tbA_10, w ∈ tb := fun _ h => List.mem_append_left _ (List.mem_append_right _ (List.mem_append_right _ (List.mem_append_right _ (List.mem_append_right _ (List.mem_append_right _ (List.mem_append_right _ (List.mem_append_right _ (List.mem_append_right _ (List.mem_append_right _ (List.mem_append_right _ (List.mem_append_left _ h)))))))))))
theorem inA_11 : ∀ w ∈ tbA_11, w ∈ tb := fun _ h => List.mem_append_left _ (List.mem_append_right _ (List.mem_append_right _ (List.mem_append_right _ (List.mem_append_right _ (List.mem_append_right _ (List.mem_append_right _ (List.mem_append_right _ (List.mem_append_right _ (List.mem_append_right _ (List.mem_append_right _ (List.mem_append_right _ (List.mem_append_left _ h))))))))))))
theorem inA_12 : ∀ w ∈ tbA_12, w ∈ tb := fun _ h => List.mem_append_left _ (List.mem_append_right _ (List.mem_append_right _ (List.mem_append_right _ (List.mem_append_right _ (List.mem_append_right _ (List.mem_append_right _ (List.mem_append_right _ (List.mem_append_right _ (List.mem_append_right _ (List.mem_append_right _ (List.mem_append_right _ (List.mem_append_right _ (List.mem_append_left _ h)))))))))))))
theorem inA_13 : ∀ w ∈ tbA_13, w ∈ tb := fun _ h => List.mem_append_left _ (List.mem_append_right _ (List.mem_append_right _ (List.mem_append_right _ (List.mem_append_right _ (List.mem_append_right _ (List.mem_append_right _ (List.mem_append_right _ (List.mem_append_right _ (List.mem_append_right _ (List.mem_append_right _ (List.mem_append_right _ (List.mem_append_right _ (List.mem_append_right _ (List.mem_append_left _ h))))))))))))))
theorem inA_14 : ∀ w ∈ tbA_14, w ∈ tb := fun _ h => List.mem_append_left _ (List.mem_append_right _ (List.mem_append_right _ (List.mem_append_right _ (List.mem_append_right _ (List.mem_append_right _ (List.mem_append_right _ (List.mem_append_right _ (List.mem_append_right _ (List.mem_append_right _ (List.mem_append_right _ (List.mem_append_right _ (List.mem_append_right _ (List.mem_append_right _ (List.mem_append_right _ (List.mem_append_left _ h)))))))))))))))
theorem inA_15 : ∀ w ∈ tbA_15, w ∈ tb := fun _ h => List.mem_append_left _ (List.mem_append_right _ (List.mem_append_right _ (List.mem_append_right _ (List.mem_append_right _ (List.mem_append_right _ (List.mem_append_right _ (List.mem_append_right _ (List.mem_append_right _ (List.mem_append_right _ (List.mem_append_right _ (List.mem_append_right _ (List.mem_append_right _ (List.mem_append_right _ (List.mem_append_right _ (List.mem_append_right _ (List.mem_append_left _ h))))))))))))))))
theorem inA_16 : ∀ w ∈ tbA_16, w ∈ tb := fun _ h => List.mem_append_left _ (List.mem_append_right _ (List.mem_append_right _ (List.mem_append_right _ (List.mem_append_right _ (List.mem_append_right _ (List.mem_append_right _ (List.mem_append_right _ (List.mem_append_right _ (List.mem_append_right _ (List.mem_append_right _ (List.mem_append_right _ (List.mem_append_right _ (List.mem_append_right _ (List.mem_append_right _ (List.mem_append_right _ (List.mem_append_right _ (List.mem_append_left _ h)))))))))))))))))
theorem inA_17 : ∀ w ∈ tbA_17, w ∈ tb := fun _ h => List.mem_append_left _ (List.mem_append_right _ (List.mem_append_right _ (List.mem_append_right _ (List.mem_append_right _ (List.mem_append_right _ (List.mem_append_right _ (List.mem_append_right _ (List.mem_append_right _ (List.mem_append_right _ (List.mem_append_right _ (List.mem_append_right _ (List.mem_append_right _ (List.mem_append_right _ (List.mem_append_right _ (List.mem_append_right _ (List.mem_append_right _ (List.mem_append_right _ (List.mem_append_left _ h))))))))))))))))))
theorem inA_18 : ∀ w ∈ tbA_18, w ∈ tb := fun _ h => List.mem_append_left _ (List.mem_append_right _ (List.mem_append_right _ (List.mem_append_right _ (List.mem_append_right _ (List.mem_append_right _ (List.mem_append_right _ (List.mem_append_right _ (List.mem_append_right _ (List.mem_append_right _ (List.mem_append_right _ (List.mem_append_right _ (List.mem_append_right _ (List.mem_append_right _ (List.mem_append_right _ (List.mem_append_right _ (List.mem_append_right _ (List.mem_append_right _ (List.mem_append_right _ (List.mem_append_left _ h)))))))))))))))))))
theorem inA_19 : ∀ w ∈ tbA_19, w ∈ tb := fun _ h => List.mem_append_left _ (List.mem_append_right _ (List.mem_append_right _ (List.mem_append_right _ (List.mem_append_right _ (List.mem_append_right _ (List.mem_append_right _ (List.mem_append_right _ (List.mem_append_right _ (List.mem_append_right _ (List.mem_append_right _ (List.mem_append_right _ (List.mem_append_right _ (List.mem_append_right _ (List.mem_append_right _ (List.mem_append_right _ (List.mem_append_right _ (List.mem_append_right _ (List.mem_append_right _ (List.mem_append_right _ (List.mem_append_left _ h))))))))))))))))))))
theorem inA_20 : ∀ w ∈ tbA_20, w ∈ tb := fun _ h => List.mem_append_left _ (List.mem_append_right _ (List.mem_append_right _ (List.mem_append_right _ (List.mem_append_right _ (List.mem_append_right _ (List.mem_append_right _ (List.mem_append_right _ (List.mem_append_right _ (List.mem_append_right _ (List.mem_append_right _ (List.mem_append_right _ (List.mem_append_right _ (List.mem_append_right _ (List.mem_append_right _ (List.mem_append_right _ (List.mem_append_right _ (List.mem_append_right _ (List.mem_append_right _ (List.mem_append_right _ (List.mem_append_right _ (List.mem_append_left _ h)))))))))))))))))))))
theorem inA_21 : ∀ w ∈ tbA_21, w ∈ tb := fun _ h => List.mem_append_left _ (List.mem_append_right _ (List.mem_append_right _ (List.mem_append_right _ (List.mem_append_right _ (List.mem_append_right _ (List.mem_append_right _ (List.mem_append_right _ (List.mem_append_right _ (List.mem_append_right _ (List.mem_append_right _ (List.mem_append_right _ (List.mem_append_right _ (List.mem_append_right _ (List.mem_append_right _ (List.mem_append_right _ (List.mem_append_right _ (List.mem_append_right _ (List.mem_append_right _ (List.mem_append_right _ (List.mem_append_right _ (List.mem_append_right _ (List.mem_append_left _ h))))))))))))))))))))))
theorem inA_22 : ∀ w ∈ tbA_22, w ∈ tb := fun _ h => List.mem_append_left _ (List.mem_append_right _ (List.mem_append_right _ (List.mem_append_right _ (List.mem_append_right _ (List.mem_append_right _ (List.mem_append_right _ (List.mem_append_right _ (List.mem_append_right _ (List.mem_append_right _ (List.mem_append_right _ (List.mem_append_right _ (List.mem_append_right _ (List.mem_append_right _ (List.mem_append_right _ (List.mem_append_right _ (List.mem_append_right _ (List.mem_append_right _ (List.mem_append_right _ (List.mem_append_right _ (List.mem_append_right _ (List.mem_append_right _ (List.mem_append_right _ (List.mem_append_left _ h)))))))))))))))))))))))
theorem inA_23 : ∀ w ∈ tbA_23, w ∈ tb := fun _ h => List.mem_append_left _ (List.mem_append_right _ (List.mem_append_right _ (List.mem_append_right _ (List.mem_append_right _ (List.mem_append_right _ (List.mem_append_right _ (List.mem_append_right _ (List.mem_append_right _ (List.mem_append_right _ (List.mem_append_right _ (List.mem_append_right _ (List.mem_append_right _ (List.mem_append_right _ (List.mem_append_right _ (List.mem_append_right _ (List.mem_append_right _ (List.mem_append_right _ (List.mem_append_right _ (List.mem_append_right _ (List.mem_append_right _ (List.mem_append_right _ (List.mem_append_right _ (List.mem_append_right _ (List.mem_append_left _ h))))))))))))))))))))))))
theorem inA_24 : ∀ w ∈ tbA_24, w ∈ tb := fun _ h => List.mem_append_left _ (List.mem_append_right _ (List.mem_append_right _ (List.mem_append_right _ (List.mem_append_right _ (List.mem_append_right _ (List.mem_append_right _ (List.mem_append_right _ (List.mem_append_right _ (List.mem_append_right _ (List.mem_append_right _ (List.mem_append_right _ (List.mem_append_right _ (List.mem_append_right _ (List.mem_append_right _ (List.mem_append_right _ (List.mem_append_right _ (List.mem_append_right _ (List.mem_append_right _ (List.mem_append_right _ (List.mem_append_right _ (List.mem_append_right _ (List.mem_append_right _ (List.mem_append_right _ (List.mem_append_right _ (List.mem_append_left _ h)))))))))))))))))))))))))
theorem inA_25 : ∀ w ∈ tbA_25, w ∈ tb := fun _ h => List.mem_append_left _ (List.mem_append_right _ (List.mem_append_right _ (List.mem_append_right _ (List.mem_append_right _ (List.mem_append_right _ (List.mem_append_right _ (List.mem_append_right _ (List.mem_append_right _ (List.mem_append_right _ (List.mem_append_right _ (List.mem_append_right _ (List.mem_append_right _ (List.mem_append_right _ (List.mem_append_right _ (List.mem_append_right _ (List.mem_append_right _ (List.mem_append_right _ (List.mem_append_right _ (List.mem_append_right _ (List.mem_append_right _ (List.mem_append_right _ (List.mem_append_right _ (List.mem_append_right _ (List.mem_append_right _ (List.mem_append_right _ (h))))))))))))))))))))))))))
theorem kw_0 : (.methodLink RX12 1 objectInit : Cond) ∈ tb := inA_0 _ (List.mem_of_getElem? (i := 0) rfl)
theorem kw_1 : (.instanceMethod objectInit : Cond) ∈ tb := inA_0 _ (List.mem_of_getElem? (i := 1) rfl)
theorem kw_2 : (.classLink RX12 9 RX2 : Cond) ∈ tb := inA_0 _ (List.mem_of_getElem? (i := 2) rfl)
theorem kw_3 : (.fieldLink RX12 11 "WiredBeans" "classes" "[LWiredBeans$DeclaredClass;" : Cond) ∈ tb := inA_0 _ (List.mem_of_getElem? (i := 3) rfl)
theorem kw_4 : (.initialized RX2 : Cond) ∈ tb := inA_0 _ (List.mem_of_getElem? (i := 4) rfl)
theorem kw_5 : (.instantiable RX2 8 : Cond) ∈ tb := inA_0 _ (List.mem_of_getElem? (i := 5) rfl)
theorem kw_6 : (.methodLink RX12 15 yX2_init : Cond) ∈ tb := inA_0 _ (List.mem_of_getElem? (i := 6) rfl)
theorem kw_7 : (.instanceMethod yX2_init : Cond) ∈ tb := inA_0 _ (List.mem_of_getElem? (i := 7) rfl)
theorem kw_8 : (.arrayClass .char : Cond) ∈ tb := inA_0 _ (List.mem_of_getElem? (i := 8) rfl)
theorem kw_9 : (.fieldLink RX12 18 "WiredBeans" "typed" "[C" : Cond) ∈ tb := inA_0 _ (List.mem_of_getElem? (i := 9) rfl)
theorem kw_10 : (.classLink RX12 22 RX6 : Cond) ∈ tb := inA_0 _ (List.mem_of_getElem? (i := 10) rfl)
theorem kw_11 : (.initialized RX6 : Cond) ∈ tb := inA_0 _ (List.mem_of_getElem? (i := 11) rfl)
theorem kw_12 : (.instantiable RX6 8 : Cond) ∈ tb := inA_0 _ (List.mem_of_getElem? (i := 12) rfl)
theorem kw_13 : (.methodLink RX12 24 yX6_init : Cond) ∈ tb := inA_0 _ (List.mem_of_getElem? (i := 13) rfl)
theorem kw_14 : (.instanceMethod yX6_init : Cond) ∈ tb := inA_0 _ (List.mem_of_getElem? (i := 14) rfl)
theorem kw_15 : (.fieldLink RX12 25 "WiredBeans" "paper" "LWiredBeans$Paper;" : Cond) ∈ tb := inA_0 _ (List.mem_of_getElem? (i := 15) rfl)
theorem kw_16 : (.classLink RX12 29 RX7 : Cond) ∈ tb := inA_0 _ (List.mem_of_getElem? (i := 16) rfl)
theorem kw_17 : (.initialized RX7 : Cond) ∈ tb := inA_0 _ (List.mem_of_getElem? (i := 17) rfl)
theorem kw_18 : (.instantiable RX7 6 : Cond) ∈ tb := inA_0 _ (List.mem_of_getElem? (i := 18) rfl)
theorem kw_19 : (.methodLink RX12 31 yX7_init : Cond) ∈ tb := inA_0 _ (List.mem_of_getElem? (i := 19) rfl)
theorem kw_20 : (.instanceMethod yX7_init : Cond) ∈ tb := inA_0 _ (List.mem_of_getElem? (i := 20) rfl)
theorem kw_21 : (.fieldLink RX12 34 "WiredBeans" "reader" "LWiredBeans$Reader;" : Cond) ∈ tb := inA_0 _ (List.mem_of_getElem? (i := 21) rfl)
theorem kw_22 : (.classLink RX12 38 RX9 : Cond) ∈ tb := inA_0 _ (List.mem_of_getElem? (i := 22) rfl)
theorem kw_23 : (.initialized RX9 : Cond) ∈ tb := inA_0 _ (List.mem_of_getElem? (i := 23) rfl)
theorem kw_24 : (.instantiable RX9 1 : Cond) ∈ tb := inA_1 _ (List.mem_of_getElem? (i := 0) rfl)
theorem kw_25 : (.methodLink RX12 40 yX9_init : Cond) ∈ tb := inA_1 _ (List.mem_of_getElem? (i := 1) rfl)
theorem kw_26 : (.instanceMethod yX9_init : Cond) ∈ tb := inA_1 _ (List.mem_of_getElem? (i := 2) rfl)
theorem kw_27 : (.fieldLink RX12 41 "WiredBeans" "structure" "LWiredBeans$Structure;" : Cond) ∈ tb := inA_1 _ (List.mem_of_getElem? (i := 3) rfl)
theorem kw_28 : (.classLink RX12 45 RX10 : Cond) ∈ tb := inA_1 _ (List.mem_of_getElem? (i := 4) rfl)
theorem kw_29 : (.initialized RX10 : Cond) ∈ tb := inA_1 _ (List.mem_of_getElem? (i := 5) rfl)
theorem kw_30 : (.instantiable RX10 4 : Cond) ∈ tb := inA_1 _ (List.mem_of_getElem? (i := 6) rfl)
theorem kw_31 : (.methodLink RX12 47 yX10_init : Cond) ∈ tb := inA_1 _ (List.mem_of_getElem? (i := 7) rfl)
theorem kw_32 : (.instanceMethod yX10_init : Cond) ∈ tb := inA_1 _ (List.mem_of_getElem? (i := 8) rfl)
theorem kw_33 : (.fieldLink RX12 48 "WiredBeans" "wiring" "LWiredBeans$Wiring;" : Cond) ∈ tb := inA_1 _ (List.mem_of_getElem? (i := 9) rfl)
theorem kw_34 : (.classLink RX12 52 RX4 : Cond) ∈ tb := inA_1 _ (List.mem_of_getElem? (i := 10) rfl)
theorem kw_35 : (.initialized RX4 : Cond) ∈ tb := inA_1 _ (List.mem_of_getElem? (i := 11) rfl)
theorem kw_36 : (.instantiable RX4 2 : Cond) ∈ tb := inA_1 _ (List.mem_of_getElem? (i := 12) rfl)
theorem kw_37 : (.methodLink RX12 54 yX4_init : Cond) ∈ tb := inA_1 _ (List.mem_of_getElem? (i := 13) rfl)
theorem kw_38 : (.instanceMethod yX4_init : Cond) ∈ tb := inA_1 _ (List.mem_of_getElem? (i := 14) rfl)
theorem kw_39 : (.fieldLink RX12 55 "WiredBeans" "row" "LWiredBeans$EventRow;" : Cond) ∈ tb := inA_1 _ (List.mem_of_getElem? (i := 15) rfl)
theorem kw_40 : (.classLink RX12 59 RX5 : Cond) ∈ tb := inA_1 _ (List.mem_of_getElem? (i := 16) rfl)
theorem kw_41 : (.initialized RX5 : Cond) ∈ tb := inA_1 _ (List.mem_of_getElem? (i := 17) rfl)
theorem kw_42 : (.instantiable RX5 13 : Cond) ∈ tb := inA_1 _ (List.mem_of_getElem? (i := 18) rfl)
theorem kw_43 : (.methodLink RX12 61 yX5_init : Cond) ∈ tb := inA_1 _ (List.mem_of_getElem? (i := 19) rfl)
theorem kw_44 : (.instanceMethod yX5_init : Cond) ∈ tb := inA_1 _ (List.mem_of_getElem? (i := 20) rfl)
theorem kw_45 : (.fieldLink RX12 64 "WiredBeans" "maker" "LWiredBeans$Maker;" : Cond) ∈ tb := inA_1 _ (List.mem_of_getElem? (i := 21) rfl)
theorem kw_46 : (.fieldLink RX12 68 "WiredBeans" "faultPlace" "I" : Cond) ∈ tb := inA_1 _ (List.mem_of_getElem? (i := 22) rfl)
theorem kw_47 : (.methodLink RX12 72 yX12_isClass : Cond) ∈ tb := inA_1 _ (List.mem_of_getElem? (i := 23) rfl)
theorem kw_48 : (.static yX12_isClass : Cond) ∈ tb := inA_2 _ (List.mem_of_getElem? (i := 0) rfl)
theorem kw_49 : (.initialized RX12 : Cond) ∈ tb := inA_2 _ (List.mem_of_getElem? (i := 1) rfl)
theorem kw_50 : (.methodLink RX12 76 yX2_begin : Cond) ∈ tb := inA_2 _ (List.mem_of_getElem? (i := 2) rfl)
theorem kw_51 : (.instanceMethod yX2_begin : Cond) ∈ tb := inA_2 _ (List.mem_of_getElem? (i := 3) rfl)
theorem kw_52 : (.selects RX2 yX2_begin yX2_begin : Cond) ∈ tb := inA_2 _ (List.mem_of_getElem? (i := 4) rfl)
theorem kw_53 : (.methodLink RX12 80 yX12_areTypes : Cond) ∈ tb := inA_2 _ (List.mem_of_getElem? (i := 5) rfl)
theorem kw_54 : (.static yX12_areTypes : Cond) ∈ tb := inA_2 _ (List.mem_of_getElem? (i := 6) rfl)
theorem kw_55 : (.methodLink RX12 84 yX2_addConstructor : Cond) ∈ tb := inA_2 _ (List.mem_of_getElem? (i := 7) rfl)
theorem kw_56 : (.instanceMethod yX2_addConstructor : Cond) ∈ tb := inA_2 _ (List.mem_of_getElem? (i := 8) rfl)
theorem kw_57 : (.selects RX2 yX2_addConstructor yX2_addConstructor : Cond) ∈ tb := inA_2 _ (List.mem_of_getElem? (i := 9) rfl)
theorem kw_58 : (.methodLink RX12 87 yX12_isLetter : Cond) ∈ tb := inA_2 _ (List.mem_of_getElem? (i := 10) rfl)
theorem kw_59 : (.static yX12_isLetter : Cond) ∈ tb := inA_2 _ (List.mem_of_getElem? (i := 11) rfl)
theorem kw_60 : (.methodLink RX12 90 yX12_isType : Cond) ∈ tb := inA_2 _ (List.mem_of_getElem? (i := 12) rfl)
theorem kw_61 : (.static yX12_isType : Cond) ∈ tb := inA_2 _ (List.mem_of_getElem? (i := 13) rfl)
theorem kw_62 : (.methodLink RX12 93 yX2_addSetter : Cond) ∈ tb := inA_2 _ (List.mem_of_getElem? (i := 14) rfl)
theorem kw_63 : (.instanceMethod yX2_addSetter : Cond) ∈ tb := inA_2 _ (List.mem_of_getElem? (i := 15) rfl)
theorem kw_64 : (.selects RX2 yX2_addSetter yX2_addSetter : Cond) ∈ tb := inA_2 _ (List.mem_of_getElem? (i := 16) rfl)
theorem kw_65 : (.methodLink RX12 97 yX2_addFactory : Cond) ∈ tb := inA_2 _ (List.mem_of_getElem? (i := 17) rfl)
theorem kw_66 : (.instanceMethod yX2_addFactory : Cond) ∈ tb := inA_2 _ (List.mem_of_getElem? (i := 18) rfl)
theorem kw_67 : (.selects RX2 yX2_addFactory yX2_addFactory : Cond) ∈ tb := inA_2 _ (List.mem_of_getElem? (i := 19) rfl)
theorem kw_68 : (.fieldLink RX12 101 "WiredBeans" "typedLength" "I" : Cond) ∈ tb := inA_2 _ (List.mem_of_getElem? (i := 20) rfl)
theorem kw_69 : (.methodLink RX12 104 yX12_typedBehind : Cond) ∈ tb := inA_2 _ (List.mem_of_getElem? (i := 21) rfl)
theorem kw_70 : (.instanceMethod yX12_typedBehind : Cond) ∈ tb := inA_2 _ (List.mem_of_getElem? (i := 22) rfl)
theorem kw_71 : (.selects RX12 yX12_typedBehind yX12_typedBehind : Cond) ∈ tb := inA_2 _ (List.mem_of_getElem? (i := 23) rfl)
theorem kw_72 : (.methodLink RX12 108 yX5_startAfresh : Cond) ∈ tb := inA_3 _ (List.mem_of_getElem? (i := 0) rfl)
theorem kw_73 : (.instanceMethod yX5_startAfresh : Cond) ∈ tb := inA_3 _ (List.mem_of_getElem? (i := 1) rfl)
theorem kw_74 : (.selects RX5 yX5_startAfresh yX5_startAfresh : Cond) ∈ tb := inA_3 _ (List.mem_of_getElem? (i := 2) rfl)
theorem kw_75 : (.fieldLink RX12 111 "WiredBeans" "faultNumber" "I" : Cond) ∈ tb := inA_3 _ (List.mem_of_getElem? (i := 3) rfl)
theorem kw_76 : (.methodLink RX12 114 yX7_firstWrongPlace : Cond) ∈ tb := inA_3 _ (List.mem_of_getElem? (i := 4) rfl)
theorem kw_77 : (.instanceMethod yX7_firstWrongPlace : Cond) ∈ tb := inA_3 _ (List.mem_of_getElem? (i := 5) rfl)
theorem kw_78 : (.selects RX7 yX7_firstWrongPlace yX7_firstWrongPlace : Cond) ∈ tb := inA_3 _ (List.mem_of_getElem? (i := 6) rfl)
theorem kw_79 : (.fieldLink RX12 122 "WiredBeans" "hasDocument" "Z" : Cond) ∈ tb := inA_3 _ (List.mem_of_getElem? (i := 7) rfl)
theorem kw_80 : (.methodLink RX12 126 yX10_forgetBeans : Cond) ∈ tb := inA_3 _ (List.mem_of_getElem? (i := 8) rfl)
theorem kw_81 : (.instanceMethod yX10_forgetBeans : Cond) ∈ tb := inA_3 _ (List.mem_of_getElem? (i := 9) rfl)
theorem kw_82 : (.selects RX10 yX10_forgetBeans yX10_forgetBeans : Cond) ∈ tb := inA_3 _ (List.mem_of_getElem? (i := 10) rfl)
theorem kw_83 : (.classLink RX12 129 "java/lang/IllegalArgumentException" : Cond) ∈ tb := inA_3 _ (List.mem_of_getElem? (i := 11) rfl)
theorem kw_84 : (.initialized "java/lang/IllegalArgumentException" : Cond) ∈ tb := inA_3 _ (List.mem_of_getElem? (i := 12) rfl)
theorem kw_85 : (.methodLink RX12 132 yX10_count : Cond) ∈ tb := inA_3 _ (List.mem_of_getElem? (i := 13) rfl)
theorem kw_86 : (.instanceMethod yX10_count : Cond) ∈ tb := inA_3 _ (List.mem_of_getElem? (i := 14) rfl)
theorem kw_87 : (.selects RX10 yX10_count yX10_count : Cond) ∈ tb := inA_3 _ (List.mem_of_getElem? (i := 15) rfl)
theorem kw_88 : (.methodLink RX12 135 yX5_failure : Cond) ∈ tb := inA_3 _ (List.mem_of_getElem? (i := 16) rfl)
theorem kw_89 : (.instanceMethod yX5_failure : Cond) ∈ tb := inA_3 _ (List.mem_of_getElem? (i := 17) rfl)
theorem kw_90 : (.selects RX5 yX5_failure yX5_failure : Cond) ∈ tb := inA_3 _ (List.mem_of_getElem? (i := 18) rfl)
theorem kw_91 : (.methodLink RX12 138 yX5_failureBean : Cond) ∈ tb := inA_3 _ (List.mem_of_getElem? (i := 19) rfl)
theorem kw_92 : (.instanceMethod yX5_failureBean : Cond) ∈ tb := inA_3 _ (List.mem_of_getElem? (i := 20) rfl)
theorem kw_93 : (.selects RX5 yX5_failureBean yX5_failureBean : Cond) ∈ tb := inA_3 _ (List.mem_of_getElem? (i := 21) rfl)
theorem kw_94 : (.methodLink RX12 141 yX5_forgetFailure : Cond) ∈ tb := inA_3 _ (List.mem_of_getElem? (i := 22) rfl)
theorem kw_95 : (.instanceMethod yX5_forgetFailure : Cond) ∈ tb := inA_3 _ (List.mem_of_getElem? (i := 23) rfl)
theorem kw_96 : (.selects RX5 yX5_forgetFailure yX5_forgetFailure : Cond) ∈ tb := inA_4 _ (List.mem_of_getElem? (i := 0) rfl)
theorem kw_97 : (.classLink RX12 144 "java/lang/IllegalStateException" : Cond) ∈ tb := inA_4 _ (List.mem_of_getElem? (i := 1) rfl)
theorem kw_98 : (.initialized "java/lang/IllegalStateException" : Cond) ∈ tb := inA_4 _ (List.mem_of_getElem? (i := 2) rfl)
theorem kw_99 : (.classLink RX12 151 "java/lang/UnsupportedOperationException" : Cond) ∈ tb := inA_4 _ (List.mem_of_getElem? (i := 3) rfl)
theorem kw_100 : (.initialized "java/lang/UnsupportedOperationException" : Cond) ∈ tb := inA_4 _ (List.mem_of_getElem? (i := 4) rfl)
theorem kw_101 : (.classLink RX12 169 "java/lang/IndexOutOfBoundsException" : Cond) ∈ tb := inA_4 _ (List.mem_of_getElem? (i := 5) rfl)
theorem kw_102 : (.initialized "java/lang/IndexOutOfBoundsException" : Cond) ∈ tb := inA_4 _ (List.mem_of_getElem? (i := 6) rfl)
theorem kw_103 : (.fieldLink RX12 172 "WiredBeans$Element" "target" "J" : Cond) ∈ tb := inA_4 _ (List.mem_of_getElem? (i := 7) rfl)
theorem kw_104 : (.methodLink RX12 178 yX5_destroyAll : Cond) ∈ tb := inA_4 _ (List.mem_of_getElem? (i := 8) rfl)
theorem kw_105 : (.instanceMethod yX5_destroyAll : Cond) ∈ tb := inA_4 _ (List.mem_of_getElem? (i := 9) rfl)
theorem kw_106 : (.selects RX5 yX5_destroyAll yX5_destroyAll : Cond) ∈ tb := inA_4 _ (List.mem_of_getElem? (i := 10) rfl)
theorem kw_107 : (.methodLink RX12 181 yX4_count : Cond) ∈ tb := inA_4 _ (List.mem_of_getElem? (i := 11) rfl)
theorem kw_108 : (.instanceMethod yX4_count : Cond) ∈ tb := inA_4 _ (List.mem_of_getElem? (i := 12) rfl)
theorem kw_109 : (.selects RX4 yX4_count yX4_count : Cond) ∈ tb := inA_4 _ (List.mem_of_getElem? (i := 13) rfl)
theorem kw_110 : (.methodLink RX12 182 yX4_number : Cond) ∈ tb := inA_4 _ (List.mem_of_getElem? (i := 14) rfl)
theorem kw_111 : (.instanceMethod yX4_number : Cond) ∈ tb := inA_4 _ (List.mem_of_getElem? (i := 15) rfl)
theorem kw_112 : (.selects RX4 yX4_number yX4_number : Cond) ∈ tb := inA_4 _ (List.mem_of_getElem? (i := 16) rfl)
theorem kw_113 : (.methodLink RX12 185 yX5_classOfObject : Cond) ∈ tb := inA_4 _ (List.mem_of_getElem? (i := 17) rfl)
theorem kw_114 : (.instanceMethod yX5_classOfObject : Cond) ∈ tb := inA_4 _ (List.mem_of_getElem? (i := 18) rfl)
theorem kw_115 : (.selects RX5 yX5_classOfObject yX5_classOfObject : Cond) ∈ tb := inA_4 _ (List.mem_of_getElem? (i := 19) rfl)
theorem kw_116 : (.methodLink RX12 189 yX5_beanOfObject : Cond) ∈ tb := inA_4 _ (List.mem_of_getElem? (i := 20) rfl)
theorem kw_117 : (.instanceMethod yX5_beanOfObject : Cond) ∈ tb := inA_4 _ (List.mem_of_getElem? (i := 21) rfl)
theorem kw_118 : (.selects RX5 yX5_beanOfObject yX5_beanOfObject : Cond) ∈ tb := inA_4 _ (List.mem_of_getElem? (i := 22) rfl)
theorem kw_119 : (.methodLink RX8 3 objectInit : Cond) ∈ tb := inA_4 _ (List.mem_of_getElem? (i := 23) rfl)
theorem kw_120 : (.fieldLink RX8 9 "WiredBeans$Signature" "owner" "I" : Cond) ∈ tb := inA_5 _ (List.mem_of_getElem? (i := 0) rfl)
theorem kw_121 : (.fieldLink RX8 15 "WiredBeans$Signature" "number" "I" : Cond) ∈ tb := inA_5 _ (List.mem_of_getElem? (i := 1) rfl)
theorem kw_122 : (.arrayClass .int : Cond) ∈ tb := inA_5 _ (List.mem_of_getElem? (i := 2) rfl)
theorem kw_123 : (.fieldLink RX8 18 "WiredBeans$Signature" "types" "[I" : Cond) ∈ tb := inA_5 _ (List.mem_of_getElem? (i := 3) rfl)
theorem kw_124 : (.fieldLink RX8 22 "WiredBeans$Signature" "name" "I" : Cond) ∈ tb := inA_5 _ (List.mem_of_getElem? (i := 4) rfl)
theorem kw_125 : (.fieldLink RX8 25 "WiredBeans$Signature" "isStatic" "Z" : Cond) ∈ tb := inA_5 _ (List.mem_of_getElem? (i := 5) rfl)
theorem kw_126 : (.fieldLink RX8 29 "WiredBeans$Signature" "result" "I" : Cond) ∈ tb := inA_5 _ (List.mem_of_getElem? (i := 6) rfl)
theorem kw_127 : (.fieldLink RX8 32 "WiredBeans$Signature" "count" "I" : Cond) ∈ tb := inA_5 _ (List.mem_of_getElem? (i := 7) rfl)
theorem kw_128 : (.methodLink RX2 3 objectInit : Cond) ∈ tb := inA_5 _ (List.mem_of_getElem? (i := 8) rfl)
theorem kw_129 : (.fieldLink RX2 9 "WiredBeans$DeclaredClass" "number" "I" : Cond) ∈ tb := inA_5 _ (List.mem_of_getElem? (i := 9) rfl)
theorem kw_130 : (.classLink RX2 15 RX8 : Cond) ∈ tb := inA_5 _ (List.mem_of_getElem? (i := 10) rfl)
theorem kw_131 : (.fieldLink RX2 17 "WiredBeans$DeclaredClass" "constructors" "[LWiredBeans$Signature;" : Cond) ∈ tb := inA_5 _ (List.mem_of_getElem? (i := 11) rfl)
theorem kw_132 : (.fieldLink RX2 21 "WiredBeans$DeclaredClass" "factories" "[LWiredBeans$Signature;" : Cond) ∈ tb := inA_5 _ (List.mem_of_getElem? (i := 12) rfl)
theorem kw_133 : (.initialized RX8 : Cond) ∈ tb := inA_5 _ (List.mem_of_getElem? (i := 13) rfl)
theorem kw_134 : (.instantiable RX8 7 : Cond) ∈ tb := inA_5 _ (List.mem_of_getElem? (i := 14) rfl)
theorem kw_135 : (.methodLink RX2 24 yX8_init : Cond) ∈ tb := inA_5 _ (List.mem_of_getElem? (i := 15) rfl)
theorem kw_136 : (.instanceMethod yX8_init : Cond) ∈ tb := inA_5 _ (List.mem_of_getElem? (i := 16) rfl)
theorem kw_137 : (.fieldLink RX2 27 "WiredBeans$DeclaredClass" "setterTypes" "[I" : Cond) ∈ tb := inA_5 _ (List.mem_of_getElem? (i := 17) rfl)
theorem kw_138 : (.fieldLink RX2 31 "WiredBeans$DeclaredClass" "parent" "LWiredBeans$DeclaredClass;" : Cond) ∈ tb := inA_5 _ (List.mem_of_getElem? (i := 18) rfl)
theorem kw_139 : (.fieldLink RX2 35 "WiredBeans$DeclaredClass" "constructorCount" "I" : Cond) ∈ tb := inA_5 _ (List.mem_of_getElem? (i := 19) rfl)
theorem kw_140 : (.fieldLink RX2 38 "WiredBeans$DeclaredClass" "factoryCount" "I" : Cond) ∈ tb := inA_5 _ (List.mem_of_getElem? (i := 20) rfl)
theorem kw_141 : (.fieldLink RX2 41 "WiredBeans$DeclaredClass" "setterCount" "I" : Cond) ∈ tb := inA_5 _ (List.mem_of_getElem? (i := 21) rfl)
theorem kw_142 : (.methodLink RX2 44 yX8_describe : Cond) ∈ tb := inA_5 _ (List.mem_of_getElem? (i := 22) rfl)
theorem kw_143 : (.instanceMethod yX8_describe : Cond) ∈ tb := inA_5 _ (List.mem_of_getElem? (i := 23) rfl)
theorem kw_144 : (.selects RX8 yX8_describe yX8_describe : Cond) ∈ tb := inA_6 _ (List.mem_of_getElem? (i := 0) rfl)
theorem kw_145 : (.methodLink RX2 48 yX8_setTypes : Cond) ∈ tb := inA_6 _ (List.mem_of_getElem? (i := 1) rfl)
theorem kw_146 : (.instanceMethod yX8_setTypes : Cond) ∈ tb := inA_6 _ (List.mem_of_getElem? (i := 2) rfl)
theorem kw_147 : (.selects RX8 yX8_setTypes yX8_setTypes : Cond) ∈ tb := inA_6 _ (List.mem_of_getElem? (i := 3) rfl)
theorem kw_148 : (.methodLink RX3 3 objectInit : Cond) ∈ tb := inA_6 _ (List.mem_of_getElem? (i := 4) rfl)
theorem kw_149 : (.fieldLink RX3 11 "WiredBeans$Element" "text" "[C" : Cond) ∈ tb := inA_6 _ (List.mem_of_getElem? (i := 5) rfl)
theorem kw_150 : (.methodLink RX6 3 objectInit : Cond) ∈ tb := inA_6 _ (List.mem_of_getElem? (i := 6) rfl)
theorem kw_151 : (.classLink RX6 11 RX3 : Cond) ∈ tb := inA_6 _ (List.mem_of_getElem? (i := 7) rfl)
theorem kw_152 : (.fieldLink RX6 13 "WiredBeans$Paper" "elements" "[LWiredBeans$Element;" : Cond) ∈ tb := inA_6 _ (List.mem_of_getElem? (i := 8) rfl)
theorem kw_153 : (.initialized RX3 : Cond) ∈ tb := inA_6 _ (List.mem_of_getElem? (i := 9) rfl)
theorem kw_154 : (.instantiable RX3 21 : Cond) ∈ tb := inA_6 _ (List.mem_of_getElem? (i := 10) rfl)
theorem kw_155 : (.methodLink RX6 17 yX3_init : Cond) ∈ tb := inA_6 _ (List.mem_of_getElem? (i := 11) rfl)
theorem kw_156 : (.instanceMethod yX3_init : Cond) ∈ tb := inA_6 _ (List.mem_of_getElem? (i := 12) rfl)
theorem kw_157 : (.arrayClass .long : Cond) ∈ tb := inA_6 _ (List.mem_of_getElem? (i := 13) rfl)
theorem kw_158 : (.fieldLink RX6 18 "WiredBeans$Paper" "attributeKeys" "[J" : Cond) ∈ tb := inA_6 _ (List.mem_of_getElem? (i := 14) rfl)
theorem kw_159 : (.fieldLink RX6 22 "WiredBeans$Paper" "valueStarts" "[I" : Cond) ∈ tb := inA_6 _ (List.mem_of_getElem? (i := 15) rfl)
theorem kw_160 : (.fieldLink RX6 26 "WiredBeans$Paper" "valueLengths" "[I" : Cond) ∈ tb := inA_6 _ (List.mem_of_getElem? (i := 16) rfl)
theorem kw_161 : (.fieldLink RX6 29 "WiredBeans$Paper" "values" "[C" : Cond) ∈ tb := inA_6 _ (List.mem_of_getElem? (i := 17) rfl)
theorem kw_162 : (.fieldLink RX6 33 "WiredBeans$Paper" "count" "I" : Cond) ∈ tb := inA_6 _ (List.mem_of_getElem? (i := 18) rfl)
theorem kw_163 : (.fieldLink RX6 37 "WiredBeans$Paper" "attributes" "I" : Cond) ∈ tb := inA_6 _ (List.mem_of_getElem? (i := 19) rfl)
theorem kw_164 : (.fieldLink RX6 40 "WiredBeans$Paper" "valuesEnd" "I" : Cond) ∈ tb := inA_6 _ (List.mem_of_getElem? (i := 20) rfl)
theorem kw_165 : (.methodLink RX7 3 objectInit : Cond) ∈ tb := inA_6 _ (List.mem_of_getElem? (i := 21) rfl)
theorem kw_166 : (.fieldLink RX7 9 "WiredBeans$Reader" "paper" "LWiredBeans$Paper;" : Cond) ∈ tb := inA_6 _ (List.mem_of_getElem? (i := 22) rfl)
theorem kw_167 : (.fieldLink RX7 15 "WiredBeans$Reader" "text" "[C" : Cond) ∈ tb := inA_6 _ (List.mem_of_getElem? (i := 23) rfl)
theorem kw_168 : (.fieldLink RX7 19 "WiredBeans$Reader" "length" "I" : Cond) ∈ tb := inA_7 _ (List.mem_of_getElem? (i := 0) rfl)
theorem kw_169 : (.fieldLink RX7 23 "WiredBeans$Reader" "at" "I" : Cond) ∈ tb := inA_7 _ (List.mem_of_getElem? (i := 1) rfl)
theorem kw_170 : (.fieldLink RX7 26 "WiredBeans$Reader" "depth" "I" : Cond) ∈ tb := inA_7 _ (List.mem_of_getElem? (i := 2) rfl)
theorem kw_171 : (.fieldLink RX7 29 "WiredBeans$Reader" "open" "LWiredBeans$Element;" : Cond) ∈ tb := inA_7 _ (List.mem_of_getElem? (i := 3) rfl)
theorem kw_172 : (.methodLink RX7 33 yX6_clear : Cond) ∈ tb := inA_7 _ (List.mem_of_getElem? (i := 4) rfl)
theorem kw_173 : (.instanceMethod yX6_clear : Cond) ∈ tb := inA_7 _ (List.mem_of_getElem? (i := 5) rfl)
theorem kw_174 : (.selects RX6 yX6_clear yX6_clear : Cond) ∈ tb := inA_7 _ (List.mem_of_getElem? (i := 6) rfl)
theorem kw_175 : (.methodLink RX7 38 yX7_skipAround : Cond) ∈ tb := inA_7 _ (List.mem_of_getElem? (i := 7) rfl)
theorem kw_176 : (.instanceMethod yX7_skipAround : Cond) ∈ tb := inA_7 _ (List.mem_of_getElem? (i := 8) rfl)
theorem kw_177 : (.selects RX7 yX7_skipAround yX7_skipAround : Cond) ∈ tb := inA_7 _ (List.mem_of_getElem? (i := 9) rfl)
theorem kw_178 : (.methodLink RX7 41 yX7_openElement : Cond) ∈ tb := inA_7 _ (List.mem_of_getElem? (i := 10) rfl)
theorem kw_179 : (.instanceMethod yX7_openElement : Cond) ∈ tb := inA_7 _ (List.mem_of_getElem? (i := 11) rfl)
theorem kw_180 : (.selects RX7 yX7_openElement yX7_openElement : Cond) ∈ tb := inA_7 _ (List.mem_of_getElem? (i := 12) rfl)
theorem kw_181 : (.classLink RX7 50 "java/lang/IllegalArgumentException" : Cond) ∈ tb := inA_7 _ (List.mem_of_getElem? (i := 13) rfl)
theorem kw_182 : (.methodLink RX7 53 yX7_skipsWhite : Cond) ∈ tb := inA_7 _ (List.mem_of_getElem? (i := 14) rfl)
theorem kw_183 : (.instanceMethod yX7_skipsWhite : Cond) ∈ tb := inA_7 _ (List.mem_of_getElem? (i := 15) rfl)
theorem kw_184 : (.selects RX7 yX7_skipsWhite yX7_skipsWhite : Cond) ∈ tb := inA_7 _ (List.mem_of_getElem? (i := 16) rfl)
theorem kw_185 : (.methodLink RX7 64 yX7_expect : Cond) ∈ tb := inA_7 _ (List.mem_of_getElem? (i := 17) rfl)
theorem kw_186 : (.instanceMethod yX7_expect : Cond) ∈ tb := inA_7 _ (List.mem_of_getElem? (i := 18) rfl)
theorem kw_187 : (.selects RX7 yX7_expect yX7_expect : Cond) ∈ tb := inA_7 _ (List.mem_of_getElem? (i := 19) rfl)
theorem kw_188 : (.fieldLink RX7 101 "WiredBeans$Element" "word" "LWiredBeans$Word;" : Cond) ∈ tb := inA_7 _ (List.mem_of_getElem? (i := 20) rfl)
theorem kw_189 : (.methodLink RX9 3 objectInit : Cond) ∈ tb := inA_7 _ (List.mem_of_getElem? (i := 21) rfl)
theorem kw_190 : (.fieldLink RX9 9 "WiredBeans$Structure" "paper" "LWiredBeans$Paper;" : Cond) ∈ tb := inA_7 _ (List.mem_of_getElem? (i := 22) rfl)
theorem kw_191 : (.methodLink RX1 3 objectInit : Cond) ∈ tb := inA_7 _ (List.mem_of_getElem? (i := 23) rfl)
theorem kw_192 : (.fieldLink RX1 9 "WiredBeans$Bean" "number" "I" : Cond) ∈ tb := inA_8 _ (List.mem_of_getElem? (i := 0) rfl)
theorem kw_193 : (.classLink RX1 15 RJx4a65c : Cond) ∈ tb := inA_8 _ (List.mem_of_getElem? (i := 1) rfl)
theorem kw_194 : (.initialized RJx4a65c : Cond) ∈ tb := inA_8 _ (List.mem_of_getElem? (i := 2) rfl)
theorem kw_195 : (.instantiable RJx4a65c 3 : Cond) ∈ tb := inA_8 _ (List.mem_of_getElem? (i := 3) rfl)
theorem kw_196 : (.methodLink RX1 17 yJx4a65c_init_da8c8 : Cond) ∈ tb := inA_8 _ (List.mem_of_getElem? (i := 4) rfl)
theorem kw_197 : (.instanceMethod yJx4a65c_init_da8c8 : Cond) ∈ tb := inA_8 _ (List.mem_of_getElem? (i := 5) rfl)
theorem kw_198 : (.fieldLink RX1 18 "WiredBeans$Bean" "args" "Ljava/util/ArrayList;" : Cond) ∈ tb := inA_8 _ (List.mem_of_getElem? (i := 6) rfl)
theorem kw_199 : (.fieldLink RX1 22 "WiredBeans$Bean" "sets" "Ljava/util/ArrayList;" : Cond) ∈ tb := inA_8 _ (List.mem_of_getElem? (i := 7) rfl)
theorem kw_200 : (.fieldLink RX1 25 "WiredBeans$Bean" "lookups" "Ljava/util/ArrayList;" : Cond) ∈ tb := inA_8 _ (List.mem_of_getElem? (i := 8) rfl)
theorem kw_201 : (.methodLink RX10 3 objectInit : Cond) ∈ tb := inA_8 _ (List.mem_of_getElem? (i := 9) rfl)
theorem kw_202 : (.fieldLink RX10 9 "WiredBeans$Wiring" "paper" "LWiredBeans$Paper;" : Cond) ∈ tb := inA_8 _ (List.mem_of_getElem? (i := 10) rfl)
theorem kw_203 : (.classLink RX10 17 RX1 : Cond) ∈ tb := inA_8 _ (List.mem_of_getElem? (i := 11) rfl)
theorem kw_204 : (.fieldLink RX10 19 "WiredBeans$Wiring" "beans" "[LWiredBeans$Bean;" : Cond) ∈ tb := inA_8 _ (List.mem_of_getElem? (i := 12) rfl)
theorem kw_205 : (.initialized RX1 : Cond) ∈ tb := inA_8 _ (List.mem_of_getElem? (i := 13) rfl)
theorem kw_206 : (.instantiable RX1 19 : Cond) ∈ tb := inA_8 _ (List.mem_of_getElem? (i := 14) rfl)
theorem kw_207 : (.methodLink RX10 23 yX1_init : Cond) ∈ tb := inA_8 _ (List.mem_of_getElem? (i := 15) rfl)
theorem kw_208 : (.instanceMethod yX1_init : Cond) ∈ tb := inA_8 _ (List.mem_of_getElem? (i := 16) rfl)
theorem kw_209 : (.fieldLink RX10 26 "WiredBeans$Wiring" "chain" "[LWiredBeans$Bean;" : Cond) ∈ tb := inA_8 _ (List.mem_of_getElem? (i := 17) rfl)
theorem kw_210 : (.fieldLink RX10 29 "WiredBeans$Wiring" "count" "I" : Cond) ∈ tb := inA_8 _ (List.mem_of_getElem? (i := 18) rfl)
theorem kw_211 : (.methodLink RX4 3 objectInit : Cond) ∈ tb := inA_8 _ (List.mem_of_getElem? (i := 19) rfl)
theorem kw_212 : (.fieldLink RX4 11 "WiredBeans$EventRow" "numbers" "[I" : Cond) ∈ tb := inA_8 _ (List.mem_of_getElem? (i := 20) rfl)
theorem kw_213 : (.fieldLink RX4 15 "WiredBeans$EventRow" "count" "I" : Cond) ∈ tb := inA_8 _ (List.mem_of_getElem? (i := 21) rfl)
theorem kw_214 : (.methodLink RX5 7 objectInit : Cond) ∈ tb := inA_8 _ (List.mem_of_getElem? (i := 22) rfl)
theorem kw_215 : (.fieldLink RX5 13 "WiredBeans$Maker" "wiring" "LWiredBeans$Wiring;" : Cond) ∈ tb := inA_8 _ (List.mem_of_getElem? (i := 23) rfl)
theorem kw_216 : (.fieldLink RX5 17 "WiredBeans$Maker" "classes" "[LWiredBeans$DeclaredClass;" : Cond) ∈ tb := inA_9 _ (List.mem_of_getElem? (i := 0) rfl)
theorem kw_217 : (.fieldLink RX5 21 "WiredBeans$Maker" "row" "LWiredBeans$EventRow;" : Cond) ∈ tb := inA_9 _ (List.mem_of_getElem? (i := 1) rfl)
theorem kw_218 : (.fieldLink RX5 25 "WiredBeans$Maker" "objectClasses" "[I" : Cond) ∈ tb := inA_9 _ (List.mem_of_getElem? (i := 2) rfl)
theorem kw_219 : (.fieldLink RX5 29 "WiredBeans$Maker" "objectBeans" "[I" : Cond) ∈ tb := inA_9 _ (List.mem_of_getElem? (i := 3) rfl)
theorem kw_220 : (.classLink RX5 34 RX1 : Cond) ∈ tb := inA_9 _ (List.mem_of_getElem? (i := 4) rfl)
theorem kw_221 : (.fieldLink RX5 36 "WiredBeans$Maker" "finished" "[LWiredBeans$Bean;" : Cond) ∈ tb := inA_9 _ (List.mem_of_getElem? (i := 5) rfl)
theorem kw_222 : (.fieldLink RX5 40 "WiredBeans$Maker" "worked" "[I" : Cond) ∈ tb := inA_9 _ (List.mem_of_getElem? (i := 6) rfl)
theorem kw_223 : (.fieldLink RX5 43 "WiredBeans$Maker" "argAtPlace" "[I" : Cond) ∈ tb := inA_9 _ (List.mem_of_getElem? (i := 7) rfl)
theorem kw_224 : (.fieldLink RX5 46 "WiredBeans$Maker" "failureBean" "I" : Cond) ∈ tb := inA_9 _ (List.mem_of_getElem? (i := 8) rfl)
theorem kw_225 : (.fieldLink RX5 50 "WiredBeans$Maker" "objectCount" "I" : Cond) ∈ tb := inA_9 _ (List.mem_of_getElem? (i := 9) rfl)
theorem kw_226 : (.methodLink RX5 53 yX5_forgetMade : Cond) ∈ tb := inA_9 _ (List.mem_of_getElem? (i := 10) rfl)
theorem kw_227 : (.instanceMethod yX5_forgetMade : Cond) ∈ tb := inA_9 _ (List.mem_of_getElem? (i := 11) rfl)
theorem kw_228 : (.selects RX5 yX5_forgetMade yX5_forgetMade : Cond) ∈ tb := inA_9 _ (List.mem_of_getElem? (i := 12) rfl)
theorem kw_229 : (.methodLink RX5 56 yX4_clear : Cond) ∈ tb := inA_9 _ (List.mem_of_getElem? (i := 13) rfl)
theorem kw_230 : (.instanceMethod yX4_clear : Cond) ∈ tb := inA_9 _ (List.mem_of_getElem? (i := 14) rfl)
theorem kw_231 : (.selects RX4 yX4_clear yX4_clear : Cond) ∈ tb := inA_9 _ (List.mem_of_getElem? (i := 15) rfl)
theorem kw_232 : (.methodLink RX5 78 yX10_count : Cond) ∈ tb := inA_9 _ (List.mem_of_getElem? (i := 16) rfl)
theorem kw_233 : (.fieldLink RX5 82 "WiredBeans$Bean" "isMade" "Z" : Cond) ∈ tb := inA_9 _ (List.mem_of_getElem? (i := 17) rfl)
theorem kw_234 : (.fieldLink RX5 86 "WiredBeans$Maker" "finishedCount" "I" : Cond) ∈ tb := inA_9 _ (List.mem_of_getElem? (i := 18) rfl)
theorem kw_235 : (.fieldLink RX5 61 "WiredBeans$Maker" "failure" "I" : Cond) ∈ tb := inA_9 _ (List.mem_of_getElem? (i := 19) rfl)
theorem kw_236 : (.fieldLink RX5 89 "WiredBeans$Bean" "destroy" "I" : Cond) ∈ tb := inA_9 _ (List.mem_of_getElem? (i := 20) rfl)
theorem kw_237 : (.fieldLink RX5 92 "WiredBeans$Bean" "madeObject" "I" : Cond) ∈ tb := inA_9 _ (List.mem_of_getElem? (i := 21) rfl)
theorem kw_238 : (.methodLink RX5 64 yX5_isObject : Cond) ∈ tb := inA_9 _ (List.mem_of_getElem? (i := 22) rfl)
theorem kw_239 : (.instanceMethod yX5_isObject : Cond) ∈ tb := inA_9 _ (List.mem_of_getElem? (i := 23) rfl)
theorem kw_240 : (.selects RX5 yX5_isObject yX5_isObject : Cond) ∈ tb := inA_10 _ (List.mem_of_getElem? (i := 0) rfl)
theorem kw_241 : (.methodLink RJx4a65c 1 yJxc12de_init_da8c8 : Cond) ∈ tb := inA_10 _ (List.mem_of_getElem? (i := 1) rfl)
theorem kw_242 : (.instanceMethod yJxc12de_init_da8c8 : Cond) ∈ tb := inA_10 _ (List.mem_of_getElem? (i := 2) rfl)
theorem kw_243 : (.initialized RJxc12de : Cond) ∈ tb := inA_10 _ (List.mem_of_getElem? (i := 3) rfl)
theorem kw_244 : (.fieldLink RJx4a65c 39 "java/util/ArrayList" "DEFAULTCAPACITY_EMPTY_ELEMENTDATA" "[Ljava/lang/Object;" : Cond) ∈ tb := inA_10 _ (List.mem_of_getElem? (i := 4) rfl)
theorem kw_245 : (.fieldLink RJx4a65c 9 "java/util/ArrayList" "elementData" "[Ljava/lang/Object;" : Cond) ∈ tb := inA_10 _ (List.mem_of_getElem? (i := 5) rfl)
theorem kw_246 : (.methodLink RJxc12de 1 yJxa1e45_init_da8c8 : Cond) ∈ tb := inA_10 _ (List.mem_of_getElem? (i := 6) rfl)
theorem kw_247 : (.instanceMethod yJxa1e45_init_da8c8 : Cond) ∈ tb := inA_10 _ (List.mem_of_getElem? (i := 7) rfl)
theorem kw_248 : (.initialized RJxa1e45 : Cond) ∈ tb := inA_10 _ (List.mem_of_getElem? (i := 8) rfl)
theorem kw_249 : (.fieldLink RJxc12de 7 "java/util/AbstractList" "modCount" "I" : Cond) ∈ tb := inA_10 _ (List.mem_of_getElem? (i := 9) rfl)
theorem kw_250 : (.methodLink RJxa1e45 1 objectInit : Cond) ∈ tb := inA_10 _ (List.mem_of_getElem? (i := 10) rfl)
theorem kw_251 : (.methodLink RX13 1 objectInit : Cond) ∈ tb := inA_10 _ (List.mem_of_getElem? (i := 11) rfl)
theorem kw_252 : (.constantLong RX13 7 (422607679091) : Cond) ∈ tb := inA_10 _ (List.mem_of_getElem? (i := 12) rfl)
theorem kw_253 : (.constantLong RX13 9 (418430673267) : Cond) ∈ tb := inA_10 _ (List.mem_of_getElem? (i := 13) rfl)
theorem kw_254 : (.constantLong RX13 11 (1650811246) : Cond) ∈ tb := inA_10 _ (List.mem_of_getElem? (i := 14) rfl)
theorem kw_255 : (.constantLong RX13 13 (6386279) : Cond) ∈ tb := inA_10 _ (List.mem_of_getElem? (i := 15) rfl)
theorem kw_256 : (.constantLong RX13 15 (7562612) : Cond) ∈ tb := inA_10 _ (List.mem_of_getElem? (i := 16) rfl)
theorem kw_257 : (.constantLong RX13 17 (1818850164) : Cond) ∈ tb := inA_10 _ (List.mem_of_getElem? (i := 17) rfl)
theorem kw_258 : (.constantLong RX13 19 (508440638821) : Cond) ∈ tb := inA_10 _ (List.mem_of_getElem? (i := 18) rfl)
theorem kw_259 : (.constantLong RX13 21 (7497062) : Cond) ∈ tb := inA_10 _ (List.mem_of_getElem? (i := 19) rfl)
theorem kw_260 : (.constantLong RX13 23 (1853189228) : Cond) ∈ tb := inA_10 _ (List.mem_of_getElem? (i := 20) rfl)
theorem kw_261 : (.constantLong RX13 25 (119225866483056) : Cond) ∈ tb := inA_10 _ (List.mem_of_getElem? (i := 21) rfl)
theorem kw_262 : (.fieldLink RX13 27 "WiredBeansModel" "elementNames" "[J" : Cond) ∈ tb := inA_10 _ (List.mem_of_getElem? (i := 22) rfl)
theorem kw_263 : (.constantLong RX13 33 (7955827) : Cond) ∈ tb := inA_10 _ (List.mem_of_getElem? (i := 23) rfl)
theorem kw_264 : (.constantLong RX13 35 (28271) : Cond) ∈ tb := inA_11 _ (List.mem_of_getElem? (i := 0) rfl)
theorem kw_265 : (.constantLong RX13 37 (7302757) : Cond) ∈ tb := inA_11 _ (List.mem_of_getElem? (i := 1) rfl)
theorem kw_266 : (.constantLong RX13 39 (1835101817) : Cond) ∈ tb := inA_11 _ (List.mem_of_getElem? (i := 2) rfl)
theorem kw_267 : (.constantLong RX13 41 (6909556) : Cond) ∈ tb := inA_11 _ (List.mem_of_getElem? (i := 3) rfl)
theorem kw_268 : (.constantLong RX13 43 (500136506472) : Cond) ∈ tb := inA_11 _ (List.mem_of_getElem? (i := 4) rfl)
theorem kw_269 : (.constantLong RX13 45 (1667785074) : Cond) ∈ tb := inA_11 _ (List.mem_of_getElem? (i := 5) rfl)
theorem kw_270 : (.constantLong RX13 47 (1952807028) : Cond) ∈ tb := inA_11 _ (List.mem_of_getElem? (i := 6) rfl)
theorem kw_271 : (.constantLong RX13 49 (7499639) : Cond) ∈ tb := inA_11 _ (List.mem_of_getElem? (i := 7) rfl)
theorem kw_272 : (.constantLong RX13 51 (1953658213) : Cond) ∈ tb := inA_11 _ (List.mem_of_getElem? (i := 8) rfl)
theorem kw_273 : (.constantLong RX13 53 (439721161573) : Cond) ∈ tb := inA_11 _ (List.mem_of_getElem? (i := 9) rfl)
theorem kw_274 : (.fieldLink RX13 55 "WiredBeansModel" "words" "[J" : Cond) ∈ tb := inA_11 _ (List.mem_of_getElem? (i := 10) rfl)
theorem kw_275 : (.constantLong RX13 58 (7107643) : Cond) ∈ tb := inA_11 _ (List.mem_of_getElem? (i := 11) rfl)
theorem kw_276 : (.constantLong RX13 60 (6779963) : Cond) ∈ tb := inA_11 _ (List.mem_of_getElem? (i := 12) rfl)
theorem kw_277 : (.constantLong RX13 62 (1634562107) : Cond) ∈ tb := inA_11 _ (List.mem_of_getElem? (i := 13) rfl)
theorem kw_278 : (.constantLong RX13 64 (487301542971) : Cond) ∈ tb := inA_11 _ (List.mem_of_getElem? (i := 14) rfl)
theorem kw_279 : (.constantLong RX13 66 (418498179899) : Cond) ∈ tb := inA_11 _ (List.mem_of_getElem? (i := 15) rfl)
theorem kw_280 : (.fieldLink RX13 68 "WiredBeansModel" "entities" "[J" : Cond) ∈ tb := inA_11 _ (List.mem_of_getElem? (i := 16) rfl)
theorem kw_281 : (.fieldLink RX13 71 "WiredBeansModel" "entityLengths" "[I" : Cond) ∈ tb := inA_11 _ (List.mem_of_getElem? (i := 17) rfl)
theorem kw_282 : (.fieldLink RX13 75 "WiredBeansModel" "entitySigns" "[I" : Cond) ∈ tb := inA_11 _ (List.mem_of_getElem? (i := 18) rfl)
theorem kw_283 : (.fieldLink RX13 78 "WiredBeansModel" "parents" "[I" : Cond) ∈ tb := inA_11 _ (List.mem_of_getElem? (i := 19) rfl)
theorem kw_284 : (.fieldLink RX13 81 "WiredBeansModel" "makers" "[I" : Cond) ∈ tb := inA_11 _ (List.mem_of_getElem? (i := 20) rfl)
theorem kw_285 : (.fieldLink RX13 84 "WiredBeansModel" "makerSize" "[I" : Cond) ∈ tb := inA_11 _ (List.mem_of_getElem? (i := 21) rfl)
theorem kw_286 : (.fieldLink RX13 87 "WiredBeansModel" "makerType" "[I" : Cond) ∈ tb := inA_11 _ (List.mem_of_getElem? (i := 22) rfl)
theorem kw_287 : (.fieldLink RX13 90 "WiredBeansModel" "setters" "[I" : Cond) ∈ tb := inA_11 _ (List.mem_of_getElem? (i := 23) rfl)
theorem kw_288 : (.fieldLink RX13 93 "WiredBeansModel" "setterName" "[I" : Cond) ∈ tb := inA_12 _ (List.mem_of_getElem? (i := 0) rfl)
theorem kw_289 : (.fieldLink RX13 96 "WiredBeansModel" "setterType" "[I" : Cond) ∈ tb := inA_12 _ (List.mem_of_getElem? (i := 1) rfl)
theorem kw_290 : (.fieldLink RX13 99 "WiredBeansModel" "factories" "[I" : Cond) ∈ tb := inA_12 _ (List.mem_of_getElem? (i := 2) rfl)
theorem kw_291 : (.fieldLink RX13 102 "WiredBeansModel" "factoryName" "[I" : Cond) ∈ tb := inA_12 _ (List.mem_of_getElem? (i := 3) rfl)
theorem kw_292 : (.fieldLink RX13 105 "WiredBeansModel" "factoryResult" "[I" : Cond) ∈ tb := inA_12 _ (List.mem_of_getElem? (i := 4) rfl)
theorem kw_293 : (.fieldLink RX13 108 "WiredBeansModel" "factorySize" "[I" : Cond) ∈ tb := inA_12 _ (List.mem_of_getElem? (i := 5) rfl)
theorem kw_294 : (.fieldLink RX13 111 "WiredBeansModel" "factoryType" "[I" : Cond) ∈ tb := inA_12 _ (List.mem_of_getElem? (i := 6) rfl)
theorem kw_295 : (.arrayClass .boolean : Cond) ∈ tb := inA_12 _ (List.mem_of_getElem? (i := 7) rfl)
theorem kw_296 : (.fieldLink RX13 114 "WiredBeansModel" "factoryStatic" "[Z" : Cond) ∈ tb := inA_12 _ (List.mem_of_getElem? (i := 8) rfl)
theorem kw_297 : (.arrayClass .byte : Cond) ∈ tb := inA_12 _ (List.mem_of_getElem? (i := 9) rfl)
theorem kw_298 : (.fieldLink RX13 118 "WiredBeansModel" "text" "[B" : Cond) ∈ tb := inA_12 _ (List.mem_of_getElem? (i := 10) rfl)
theorem kw_299 : (.fieldLink RX13 122 "WiredBeansModel" "faultPlace" "I" : Cond) ∈ tb := inA_12 _ (List.mem_of_getElem? (i := 11) rfl)
theorem kw_300 : (.fieldLink RX13 126 "WiredBeansModel" "kinds" "[I" : Cond) ∈ tb := inA_12 _ (List.mem_of_getElem? (i := 12) rfl)
theorem kw_301 : (.fieldLink RX13 129 "WiredBeansModel" "places" "[I" : Cond) ∈ tb := inA_12 _ (List.mem_of_getElem? (i := 13) rfl)
theorem kw_302 : (.fieldLink RX13 132 "WiredBeansModel" "above" "[I" : Cond) ∈ tb := inA_12 _ (List.mem_of_getElem? (i := 14) rfl)
theorem kw_303 : (.fieldLink RX13 135 "WiredBeansModel" "within" "[I" : Cond) ∈ tb := inA_12 _ (List.mem_of_getElem? (i := 15) rfl)
theorem kw_304 : (.fieldLink RX13 138 "WiredBeansModel" "attributes" "[I" : Cond) ∈ tb := inA_12 _ (List.mem_of_getElem? (i := 16) rfl)
theorem kw_305 : (.fieldLink RX13 141 "WiredBeansModel" "textSize" "[I" : Cond) ∈ tb := inA_12 _ (List.mem_of_getElem? (i := 17) rfl)
theorem kw_306 : (.fieldLink RX13 144 "WiredBeansModel" "pending" "[I" : Cond) ∈ tb := inA_12 _ (List.mem_of_getElem? (i := 18) rfl)
theorem kw_307 : (.fieldLink RX13 147 "WiredBeansModel" "textAt" "[I" : Cond) ∈ tb := inA_12 _ (List.mem_of_getElem? (i := 19) rfl)
theorem kw_308 : (.fieldLink RX13 150 "WiredBeansModel" "names" "[J" : Cond) ∈ tb := inA_12 _ (List.mem_of_getElem? (i := 20) rfl)
theorem kw_309 : (.fieldLink RX13 153 "WiredBeansModel" "attributeName" "[J" : Cond) ∈ tb := inA_12 _ (List.mem_of_getElem? (i := 21) rfl)
theorem kw_310 : (.fieldLink RX13 156 "WiredBeansModel" "attributeAt" "[I" : Cond) ∈ tb := inA_12 _ (List.mem_of_getElem? (i := 22) rfl)
theorem kw_311 : (.fieldLink RX13 159 "WiredBeansModel" "attributeSize" "[I" : Cond) ∈ tb := inA_12 _ (List.mem_of_getElem? (i := 23) rfl)
theorem kw_312 : (.fieldLink RX13 162 "WiredBeansModel" "characters" "[B" : Cond) ∈ tb := inA_13 _ (List.mem_of_getElem? (i := 0) rfl)
theorem kw_313 : (.fieldLink RX13 165 "WiredBeansModel" "texts" "[B" : Cond) ∈ tb := inA_13 _ (List.mem_of_getElem? (i := 1) rfl)
theorem kw_314 : (.fieldLink RX13 168 "WiredBeansModel" "beanElement" "[I" : Cond) ∈ tb := inA_13 _ (List.mem_of_getElem? (i := 2) rfl)
theorem kw_315 : (.fieldLink RX13 171 "WiredBeansModel" "beanOf" "[I" : Cond) ∈ tb := inA_13 _ (List.mem_of_getElem? (i := 3) rfl)
theorem kw_316 : (.fieldLink RX13 174 "WiredBeansModel" "setMany" "[I" : Cond) ∈ tb := inA_13 _ (List.mem_of_getElem? (i := 4) rfl)
theorem kw_317 : (.fieldLink RX13 177 "WiredBeansModel" "setElement" "[I" : Cond) ∈ tb := inA_13 _ (List.mem_of_getElem? (i := 5) rfl)
theorem kw_318 : (.fieldLink RX13 180 "WiredBeansModel" "lookupMany" "[I" : Cond) ∈ tb := inA_13 _ (List.mem_of_getElem? (i := 6) rfl)
theorem kw_319 : (.fieldLink RX13 183 "WiredBeansModel" "lookupElement" "[I" : Cond) ∈ tb := inA_13 _ (List.mem_of_getElem? (i := 7) rfl)
theorem kw_320 : (.fieldLink RX13 186 "WiredBeansModel" "failureBean" "I" : Cond) ∈ tb := inA_13 _ (List.mem_of_getElem? (i := 8) rfl)
theorem kw_321 : (.fieldLink RX13 189 "WiredBeansModel" "objectClass" "[I" : Cond) ∈ tb := inA_13 _ (List.mem_of_getElem? (i := 9) rfl)
theorem kw_322 : (.fieldLink RX13 192 "WiredBeansModel" "objectBean" "[I" : Cond) ∈ tb := inA_13 _ (List.mem_of_getElem? (i := 10) rfl)
theorem kw_323 : (.fieldLink RX13 195 "WiredBeansModel" "eventKind" "[I" : Cond) ∈ tb := inA_13 _ (List.mem_of_getElem? (i := 11) rfl)
theorem kw_324 : (.fieldLink RX13 198 "WiredBeansModel" "eventObject" "[I" : Cond) ∈ tb := inA_13 _ (List.mem_of_getElem? (i := 12) rfl)
theorem kw_325 : (.fieldLink RX13 201 "WiredBeansModel" "eventSecond" "[I" : Cond) ∈ tb := inA_13 _ (List.mem_of_getElem? (i := 13) rfl)
theorem kw_326 : (.fieldLink RX13 204 "WiredBeansModel" "eventThird" "[I" : Cond) ∈ tb := inA_13 _ (List.mem_of_getElem? (i := 14) rfl)
theorem kw_327 : (.fieldLink RX13 207 "WiredBeansModel" "madeOrder" "[I" : Cond) ∈ tb := inA_13 _ (List.mem_of_getElem? (i := 15) rfl)
theorem kw_328 : (.fieldLink RX13 210 "WiredBeansModel" "own" "[I" : Cond) ∈ tb := inA_13 _ (List.mem_of_getElem? (i := 16) rfl)
theorem kw_329 : (.fieldLink RX13 213 "WiredBeansModel" "isMade" "[Z" : Cond) ∈ tb := inA_13 _ (List.mem_of_getElem? (i := 17) rfl)
theorem kw_330 : (.fieldLink RX13 216 "WiredBeansModel" "making" "[Z" : Cond) ∈ tb := inA_13 _ (List.mem_of_getElem? (i := 18) rfl)
theorem kw_331 : (.fieldLink RX13 219 "WiredBeansModel" "pileBean" "[I" : Cond) ∈ tb := inA_13 _ (List.mem_of_getElem? (i := 19) rfl)
theorem kw_332 : (.fieldLink RX13 222 "WiredBeansModel" "pilePhase" "[I" : Cond) ∈ tb := inA_13 _ (List.mem_of_getElem? (i := 20) rfl)
theorem kw_333 : (.fieldLink RX13 225 "WiredBeansModel" "pileIndex" "[I" : Cond) ∈ tb := inA_13 _ (List.mem_of_getElem? (i := 21) rfl)
theorem kw_334 : (.fieldLink RX13 228 "WiredBeansModel" "pileItem" "[I" : Cond) ∈ tb := inA_13 _ (List.mem_of_getElem? (i := 22) rfl)
theorem kw_335 : (.fieldLink RX13 231 "WiredBeansModel" "pileFactory" "[I" : Cond) ∈ tb := inA_13 _ (List.mem_of_getElem? (i := 23) rfl)
theorem kw_336 : (.fieldLink RX13 234 "WiredBeansModel" "pileObject" "[I" : Cond) ∈ tb := inA_14 _ (List.mem_of_getElem? (i := 0) rfl)
theorem kw_337 : (.fieldLink RX13 237 "WiredBeansModel" "valueKind" "[I" : Cond) ∈ tb := inA_14 _ (List.mem_of_getElem? (i := 1) rfl)
theorem kw_338 : (.fieldLink RX13 240 "WiredBeansModel" "value" "[I" : Cond) ∈ tb := inA_14 _ (List.mem_of_getElem? (i := 2) rfl)
theorem kw_339 : (.fieldLink RX13 243 "WiredBeansModel" "itemKind" "[I" : Cond) ∈ tb := inA_14 _ (List.mem_of_getElem? (i := 3) rfl)
theorem kw_340 : (.fieldLink RX13 246 "WiredBeansModel" "item" "[I" : Cond) ∈ tb := inA_14 _ (List.mem_of_getElem? (i := 4) rfl)
theorem kw_341 : (.fieldLink RX13 249 "WiredBeansModel" "spot" "[I" : Cond) ∈ tb := inA_14 _ (List.mem_of_getElem? (i := 5) rfl)
theorem kw_342 : (.fieldLink RX13 252 "WiredBeansModel" "thrown" "I" : Cond) ∈ tb := inA_14 _ (List.mem_of_getElem? (i := 6) rfl)
theorem kw_343 : (.methodLink RX13 255 yX13_isType : Cond) ∈ tb := inA_14 _ (List.mem_of_getElem? (i := 7) rfl)
theorem kw_344 : (.static yX13_isType : Cond) ∈ tb := inA_14 _ (List.mem_of_getElem? (i := 8) rfl)
theorem kw_345 : (.initialized RX13 : Cond) ∈ tb := inA_14 _ (List.mem_of_getElem? (i := 9) rfl)
theorem kw_346 : (.methodLink RX13 259 yX13_isClass : Cond) ∈ tb := inA_14 _ (List.mem_of_getElem? (i := 10) rfl)
theorem kw_347 : (.static yX13_isClass : Cond) ∈ tb := inA_14 _ (List.mem_of_getElem? (i := 11) rfl)
theorem kw_348 : (.methodLink RX13 262 yX13_areTypes : Cond) ∈ tb := inA_14 _ (List.mem_of_getElem? (i := 12) rfl)
theorem kw_349 : (.static yX13_areTypes : Cond) ∈ tb := inA_14 _ (List.mem_of_getElem? (i := 13) rfl)
theorem kw_350 : (.methodLink RX13 266 yX13_isLetter : Cond) ∈ tb := inA_14 _ (List.mem_of_getElem? (i := 14) rfl)
theorem kw_351 : (.static yX13_isLetter : Cond) ∈ tb := inA_14 _ (List.mem_of_getElem? (i := 15) rfl)
theorem kw_352 : (.fieldLink RX13 273 "WiredBeansModel" "size" "I" : Cond) ∈ tb := inA_14 _ (List.mem_of_getElem? (i := 16) rfl)
theorem kw_353 : (.fieldLink RX13 276 "WiredBeansModel" "fault" "I" : Cond) ∈ tb := inA_14 _ (List.mem_of_getElem? (i := 17) rfl)
theorem kw_354 : (.fieldLink RX13 279 "WiredBeansModel" "at" "I" : Cond) ∈ tb := inA_14 _ (List.mem_of_getElem? (i := 18) rfl)
theorem kw_355 : (.methodLink RX13 282 yX13_here : Cond) ∈ tb := inA_14 _ (List.mem_of_getElem? (i := 19) rfl)
theorem kw_356 : (.instanceMethod yX13_here : Cond) ∈ tb := inA_14 _ (List.mem_of_getElem? (i := 20) rfl)
theorem kw_357 : (.selects RX13 yX13_here yX13_here : Cond) ∈ tb := inA_14 _ (List.mem_of_getElem? (i := 21) rfl)
theorem kw_358 : (.methodLink RX13 286 yX13_isWhite : Cond) ∈ tb := inA_14 _ (List.mem_of_getElem? (i := 22) rfl)
theorem kw_359 : (.instanceMethod yX13_isWhite : Cond) ∈ tb := inA_14 _ (List.mem_of_getElem? (i := 23) rfl)
theorem kw_360 : (.selects RX13 yX13_isWhite yX13_isWhite : Cond) ∈ tb := inA_15 _ (List.mem_of_getElem? (i := 0) rfl)
theorem kw_361 : (.methodLink RX13 296 yX13_white : Cond) ∈ tb := inA_15 _ (List.mem_of_getElem? (i := 1) rfl)
theorem kw_362 : (.instanceMethod yX13_white : Cond) ∈ tb := inA_15 _ (List.mem_of_getElem? (i := 2) rfl)
theorem kw_363 : (.selects RX13 yX13_white yX13_white : Cond) ∈ tb := inA_15 _ (List.mem_of_getElem? (i := 3) rfl)
theorem kw_364 : (.fieldLink RX13 329 "WiredBeansModel" "elements" "I" : Cond) ∈ tb := inA_15 _ (List.mem_of_getElem? (i := 4) rfl)
theorem kw_365 : (.methodLink RX13 289 yX13_bad : Cond) ∈ tb := inA_15 _ (List.mem_of_getElem? (i := 5) rfl)
theorem kw_366 : (.instanceMethod yX13_bad : Cond) ∈ tb := inA_15 _ (List.mem_of_getElem? (i := 6) rfl)
theorem kw_367 : (.selects RX13 yX13_bad yX13_bad : Cond) ∈ tb := inA_15 _ (List.mem_of_getElem? (i := 7) rfl)
theorem kw_368 : (.fieldLink RX13 335 "WiredBeansModel" "closed" "Z" : Cond) ∈ tb := inA_15 _ (List.mem_of_getElem? (i := 8) rfl)
theorem kw_369 : (.methodLink RX13 339 yX13_between : Cond) ∈ tb := inA_15 _ (List.mem_of_getElem? (i := 9) rfl)
theorem kw_370 : (.instanceMethod yX13_between : Cond) ∈ tb := inA_15 _ (List.mem_of_getElem? (i := 10) rfl)
theorem kw_371 : (.selects RX13 yX13_between yX13_between : Cond) ∈ tb := inA_15 _ (List.mem_of_getElem? (i := 11) rfl)
theorem kw_372 : (.methodLink RX13 342 yX13_begin : Cond) ∈ tb := inA_15 _ (List.mem_of_getElem? (i := 12) rfl)
theorem kw_373 : (.instanceMethod yX13_begin : Cond) ∈ tb := inA_15 _ (List.mem_of_getElem? (i := 13) rfl)
theorem kw_374 : (.selects RX13 yX13_begin yX13_begin : Cond) ∈ tb := inA_15 _ (List.mem_of_getElem? (i := 14) rfl)
theorem kw_375 : (.fieldLink RX13 471 "WiredBeansModel" "events" "I" : Cond) ∈ tb := inA_15 _ (List.mem_of_getElem? (i := 15) rfl)
theorem kw_376 : (.fieldLink RX13 474 "WiredBeansModel" "made" "I" : Cond) ∈ tb := inA_15 _ (List.mem_of_getElem? (i := 16) rfl)
theorem kw_377 : (.fieldLink RX13 323 "WiredBeansModel" "pool" "I" : Cond) ∈ tb := inA_15 _ (List.mem_of_getElem? (i := 17) rfl)
theorem kw_378 : (.fieldLink RX13 439 "WiredBeansModel" "beans" "I" : Cond) ∈ tb := inA_15 _ (List.mem_of_getElem? (i := 18) rfl)
theorem kw_379 : (.fieldLink RX13 477 "WiredBeansModel" "document" "Z" : Cond) ∈ tb := inA_15 _ (List.mem_of_getElem? (i := 19) rfl)
theorem kw_380 : (.fieldLink RX13 480 "WiredBeansModel" "objects" "I" : Cond) ∈ tb := inA_15 _ (List.mem_of_getElem? (i := 20) rfl)
theorem kw_381 : (.methodLink RX13 483 yX13_clear : Cond) ∈ tb := inA_15 _ (List.mem_of_getElem? (i := 21) rfl)
theorem kw_382 : (.instanceMethod yX13_clear : Cond) ∈ tb := inA_15 _ (List.mem_of_getElem? (i := 22) rfl)
theorem kw_383 : (.selects RX13 yX13_clear yX13_clear : Cond) ∈ tb := inA_15 _ (List.mem_of_getElem? (i := 23) rfl)
theorem kw_384 : (.methodLink RX13 486 yX13_readDocument : Cond) ∈ tb := inA_16 _ (List.mem_of_getElem? (i := 0) rfl)
theorem kw_385 : (.instanceMethod yX13_readDocument : Cond) ∈ tb := inA_16 _ (List.mem_of_getElem? (i := 1) rfl)
theorem kw_386 : (.selects RX13 yX13_readDocument yX13_readDocument : Cond) ∈ tb := inA_16 _ (List.mem_of_getElem? (i := 2) rfl)
theorem kw_387 : (.fieldLink RX13 498 "WiredBeansModel" "failure" "I" : Cond) ∈ tb := inA_16 _ (List.mem_of_getElem? (i := 3) rfl)
theorem kw_388 : (.constantLong RX13 394 (1818327673) : Cond) ∈ tb := inA_16 _ (List.mem_of_getElem? (i := 4) rfl)
theorem kw_389 : (.fieldLink RX13 513 "WiredBeansModel" "got" "I" : Cond) ∈ tb := inA_16 _ (List.mem_of_getElem? (i := 5) rfl)
theorem kw_390 : (.constantLong RX13 380 (1851878757) : Cond) ∈ tb := inA_16 _ (List.mem_of_getElem? (i := 6) rfl)
theorem kw_391 : (.constantLong RX13 398 (120282512125796) : Cond) ∈ tb := inA_16 _ (List.mem_of_getElem? (i := 7) rfl)
theorem kw_392 : (.constantLong RX13 400 (1768843636) : Cond) ∈ tb := inA_16 _ (List.mem_of_getElem? (i := 8) rfl)
theorem kw_393 : (.constantLong RX13 402 (28259044220366713) : Cond) ∈ tb := inA_16 _ (List.mem_of_getElem? (i := 9) rfl)
theorem kw_394 : (.constantLong RX13 392 (495589486693) : Cond) ∈ tb := inA_16 _ (List.mem_of_getElem? (i := 10) rfl)
theorem kw_395 : (.classLink RL 8 RX12 : Cond) ∈ tb := inA_16 _ (List.mem_of_getElem? (i := 11) rfl)
theorem kw_396 : (.instantiable RX12 12 : Cond) ∈ tb := inA_16 _ (List.mem_of_getElem? (i := 12) rfl)
theorem kw_397 : (.methodLink RL 32 yX12_init : Cond) ∈ tb := inA_16 _ (List.mem_of_getElem? (i := 13) rfl)
theorem kw_398 : (.instanceMethod yX12_init : Cond) ∈ tb := inA_16 _ (List.mem_of_getElem? (i := 14) rfl)
theorem kw_399 : (.classLink RL 33 RX13 : Cond) ∈ tb := inA_16 _ (List.mem_of_getElem? (i := 15) rfl)
theorem kw_400 : (.instantiable RX13 77 : Cond) ∈ tb := inA_16 _ (List.mem_of_getElem? (i := 16) rfl)
theorem kw_401 : (.methodLink RL 35 yX13_init : Cond) ∈ tb := inA_16 _ (List.mem_of_getElem? (i := 17) rfl)
theorem kw_402 : (.instanceMethod yX13_init : Cond) ∈ tb := inA_16 _ (List.mem_of_getElem? (i := 18) rfl)
theorem kw_403 : (.methodLink RL 36 yX12_declare : Cond) ∈ tb := inA_16 _ (List.mem_of_getElem? (i := 19) rfl)
theorem kw_404 : (.instanceMethod yX12_declare : Cond) ∈ tb := inA_16 _ (List.mem_of_getElem? (i := 20) rfl)
theorem kw_405 : (.selects RX12 yX12_declare yX12_declare : Cond) ∈ tb := inA_16 _ (List.mem_of_getElem? (i := 21) rfl)
theorem kw_406 : (.methodLink RL 40 yX13_declare : Cond) ∈ tb := inA_16 _ (List.mem_of_getElem? (i := 22) rfl)
theorem kw_407 : (.instanceMethod yX13_declare : Cond) ∈ tb := inA_16 _ (List.mem_of_getElem? (i := 23) rfl)
theorem kw_408 : (.selects RX13 yX13_declare yX13_declare : Cond) ∈ tb := inA_17 _ (List.mem_of_getElem? (i := 0) rfl)
theorem kw_409 : (.methodLink RL 41 yX12_constructor : Cond) ∈ tb := inA_17 _ (List.mem_of_getElem? (i := 1) rfl)
theorem kw_410 : (.instanceMethod yX12_constructor : Cond) ∈ tb := inA_17 _ (List.mem_of_getElem? (i := 2) rfl)
theorem kw_411 : (.selects RX12 yX12_constructor yX12_constructor : Cond) ∈ tb := inA_17 _ (List.mem_of_getElem? (i := 3) rfl)
theorem kw_412 : (.methodLink RL 45 yX13_constructor : Cond) ∈ tb := inA_17 _ (List.mem_of_getElem? (i := 4) rfl)
theorem kw_413 : (.instanceMethod yX13_constructor : Cond) ∈ tb := inA_17 _ (List.mem_of_getElem? (i := 5) rfl)
theorem kw_414 : (.selects RX13 yX13_constructor yX13_constructor : Cond) ∈ tb := inA_17 _ (List.mem_of_getElem? (i := 6) rfl)
theorem kw_415 : (.methodLink RL 46 yX12_setter : Cond) ∈ tb := inA_17 _ (List.mem_of_getElem? (i := 7) rfl)
theorem kw_416 : (.instanceMethod yX12_setter : Cond) ∈ tb := inA_17 _ (List.mem_of_getElem? (i := 8) rfl)
theorem kw_417 : (.selects RX12 yX12_setter yX12_setter : Cond) ∈ tb := inA_17 _ (List.mem_of_getElem? (i := 9) rfl)
theorem kw_418 : (.methodLink RL 50 yX13_setter : Cond) ∈ tb := inA_17 _ (List.mem_of_getElem? (i := 10) rfl)
theorem kw_419 : (.instanceMethod yX13_setter : Cond) ∈ tb := inA_17 _ (List.mem_of_getElem? (i := 11) rfl)
theorem kw_420 : (.selects RX13 yX13_setter yX13_setter : Cond) ∈ tb := inA_17 _ (List.mem_of_getElem? (i := 12) rfl)
theorem kw_421 : (.methodLink RL 51 yX12_factory : Cond) ∈ tb := inA_17 _ (List.mem_of_getElem? (i := 13) rfl)
theorem kw_422 : (.instanceMethod yX12_factory : Cond) ∈ tb := inA_17 _ (List.mem_of_getElem? (i := 14) rfl)
theorem kw_423 : (.selects RX12 yX12_factory yX12_factory : Cond) ∈ tb := inA_17 _ (List.mem_of_getElem? (i := 15) rfl)
theorem kw_424 : (.methodLink RL 55 yX13_factory : Cond) ∈ tb := inA_17 _ (List.mem_of_getElem? (i := 16) rfl)
theorem kw_425 : (.instanceMethod yX13_factory : Cond) ∈ tb := inA_17 _ (List.mem_of_getElem? (i := 17) rfl)
theorem kw_426 : (.selects RX13 yX13_factory yX13_factory : Cond) ∈ tb := inA_17 _ (List.mem_of_getElem? (i := 18) rfl)
theorem kw_427 : (.methodLink RL 56 yX12_type : Cond) ∈ tb := inA_17 _ (List.mem_of_getElem? (i := 19) rfl)
theorem kw_428 : (.instanceMethod yX12_type : Cond) ∈ tb := inA_17 _ (List.mem_of_getElem? (i := 20) rfl)
theorem kw_429 : (.selects RX12 yX12_type yX12_type : Cond) ∈ tb := inA_17 _ (List.mem_of_getElem? (i := 21) rfl)
theorem kw_430 : (.methodLink RL 60 yX13_type : Cond) ∈ tb := inA_17 _ (List.mem_of_getElem? (i := 22) rfl)
theorem kw_431 : (.instanceMethod yX13_type : Cond) ∈ tb := inA_17 _ (List.mem_of_getElem? (i := 23) rfl)
theorem kw_432 : (.selects RX13 yX13_type yX13_type : Cond) ∈ tb := inA_18 _ (List.mem_of_getElem? (i := 0) rfl)
theorem kw_433 : (.methodLink RL 61 yL_read : Cond) ∈ tb := inA_18 _ (List.mem_of_getElem? (i := 1) rfl)
theorem kw_434 : (.static yL_read : Cond) ∈ tb := inA_18 _ (List.mem_of_getElem? (i := 2) rfl)
theorem kw_435 : (.initialized RL : Cond) ∈ tb := inA_18 _ (List.mem_of_getElem? (i := 3) rfl)
theorem kw_436 : (.methodLink RL 66 yX13_read : Cond) ∈ tb := inA_18 _ (List.mem_of_getElem? (i := 4) rfl)
theorem kw_437 : (.instanceMethod yX13_read : Cond) ∈ tb := inA_18 _ (List.mem_of_getElem? (i := 5) rfl)
theorem kw_438 : (.selects RX13 yX13_read yX13_read : Cond) ∈ tb := inA_18 _ (List.mem_of_getElem? (i := 6) rfl)
theorem kw_439 : (.methodLink RL 67 yX13_thrown : Cond) ∈ tb := inA_18 _ (List.mem_of_getElem? (i := 7) rfl)
theorem kw_440 : (.instanceMethod yX13_thrown : Cond) ∈ tb := inA_18 _ (List.mem_of_getElem? (i := 8) rfl)
theorem kw_441 : (.selects RX13 yX13_thrown yX13_thrown : Cond) ∈ tb := inA_18 _ (List.mem_of_getElem? (i := 9) rfl)
theorem kw_442 : (.methodLink RL 70 yX12_fault : Cond) ∈ tb := inA_18 _ (List.mem_of_getElem? (i := 10) rfl)
theorem kw_443 : (.instanceMethod yX12_fault : Cond) ∈ tb := inA_18 _ (List.mem_of_getElem? (i := 11) rfl)
theorem kw_444 : (.selects RX12 yX12_fault yX12_fault : Cond) ∈ tb := inA_18 _ (List.mem_of_getElem? (i := 12) rfl)
theorem kw_445 : (.methodLink RL 74 yX13_fault : Cond) ∈ tb := inA_18 _ (List.mem_of_getElem? (i := 13) rfl)
theorem kw_446 : (.instanceMethod yX13_fault : Cond) ∈ tb := inA_18 _ (List.mem_of_getElem? (i := 14) rfl)
theorem kw_447 : (.selects RX13 yX13_fault yX13_fault : Cond) ∈ tb := inA_18 _ (List.mem_of_getElem? (i := 15) rfl)
theorem kw_448 : (.methodLink RL 75 yL_refresh : Cond) ∈ tb := inA_18 _ (List.mem_of_getElem? (i := 16) rfl)
theorem kw_449 : (.static yL_refresh : Cond) ∈ tb := inA_18 _ (List.mem_of_getElem? (i := 17) rfl)
theorem kw_450 : (.methodLink RL 77 yX13_refresh : Cond) ∈ tb := inA_18 _ (List.mem_of_getElem? (i := 18) rfl)
theorem kw_451 : (.instanceMethod yX13_refresh : Cond) ∈ tb := inA_18 _ (List.mem_of_getElem? (i := 19) rfl)
theorem kw_452 : (.selects RX13 yX13_refresh yX13_refresh : Cond) ∈ tb := inA_18 _ (List.mem_of_getElem? (i := 20) rfl)
theorem kw_453 : (.constantLong RL 78 (4294967295) : Cond) ∈ tb := inA_18 _ (List.mem_of_getElem? (i := 21) rfl)
theorem kw_454 : (.methodLink RL 80 yL_get : Cond) ∈ tb := inA_18 _ (List.mem_of_getElem? (i := 22) rfl)
theorem kw_455 : (.static yL_get : Cond) ∈ tb := inA_18 _ (List.mem_of_getElem? (i := 23) rfl)
theorem kw_456 : (.methodLink RL 83 yX13_get : Cond) ∈ tb := inA_19 _ (List.mem_of_getElem? (i := 0) rfl)
theorem kw_457 : (.instanceMethod yX13_get : Cond) ∈ tb := inA_19 _ (List.mem_of_getElem? (i := 1) rfl)
theorem kw_458 : (.selects RX13 yX13_get yX13_get : Cond) ∈ tb := inA_19 _ (List.mem_of_getElem? (i := 2) rfl)
theorem kw_459 : (.methodLink RL 84 yL_call : Cond) ∈ tb := inA_19 _ (List.mem_of_getElem? (i := 3) rfl)
theorem kw_460 : (.static yL_call : Cond) ∈ tb := inA_19 _ (List.mem_of_getElem? (i := 4) rfl)
theorem kw_461 : (.methodLink RL 87 yX13_call : Cond) ∈ tb := inA_19 _ (List.mem_of_getElem? (i := 5) rfl)
theorem kw_462 : (.instanceMethod yX13_call : Cond) ∈ tb := inA_19 _ (List.mem_of_getElem? (i := 6) rfl)
theorem kw_463 : (.selects RX13 yX13_call yX13_call : Cond) ∈ tb := inA_19 _ (List.mem_of_getElem? (i := 7) rfl)
theorem kw_464 : (.methodLink RL 88 yX12_close : Cond) ∈ tb := inA_19 _ (List.mem_of_getElem? (i := 8) rfl)
theorem kw_465 : (.instanceMethod yX12_close : Cond) ∈ tb := inA_19 _ (List.mem_of_getElem? (i := 9) rfl)
theorem kw_466 : (.selects RX12 yX12_close yX12_close : Cond) ∈ tb := inA_19 _ (List.mem_of_getElem? (i := 10) rfl)
theorem kw_467 : (.methodLink RL 91 yX13_close : Cond) ∈ tb := inA_19 _ (List.mem_of_getElem? (i := 11) rfl)
theorem kw_468 : (.instanceMethod yX13_close : Cond) ∈ tb := inA_19 _ (List.mem_of_getElem? (i := 12) rfl)
theorem kw_469 : (.selects RX13 yX13_close yX13_close : Cond) ∈ tb := inA_19 _ (List.mem_of_getElem? (i := 13) rfl)
theorem kw_470 : (.methodLink RL 92 yX12_events : Cond) ∈ tb := inA_19 _ (List.mem_of_getElem? (i := 14) rfl)
theorem kw_471 : (.instanceMethod yX12_events : Cond) ∈ tb := inA_19 _ (List.mem_of_getElem? (i := 15) rfl)
theorem kw_472 : (.selects RX12 yX12_events yX12_events : Cond) ∈ tb := inA_19 _ (List.mem_of_getElem? (i := 16) rfl)
theorem kw_473 : (.methodLink RL 95 yX13_events : Cond) ∈ tb := inA_19 _ (List.mem_of_getElem? (i := 17) rfl)
theorem kw_474 : (.instanceMethod yX13_events : Cond) ∈ tb := inA_19 _ (List.mem_of_getElem? (i := 18) rfl)
theorem kw_475 : (.selects RX13 yX13_events yX13_events : Cond) ∈ tb := inA_19 _ (List.mem_of_getElem? (i := 19) rfl)
theorem kw_476 : (.methodLink RL 96 yX12_event : Cond) ∈ tb := inA_19 _ (List.mem_of_getElem? (i := 20) rfl)
theorem kw_477 : (.instanceMethod yX12_event : Cond) ∈ tb := inA_19 _ (List.mem_of_getElem? (i := 21) rfl)
theorem kw_478 : (.selects RX12 yX12_event yX12_event : Cond) ∈ tb := inA_19 _ (List.mem_of_getElem? (i := 22) rfl)
theorem kw_479 : (.methodLink RL 99 yX13_event : Cond) ∈ tb := inA_19 _ (List.mem_of_getElem? (i := 23) rfl)
theorem kw_480 : (.instanceMethod yX13_event : Cond) ∈ tb := inA_20 _ (List.mem_of_getElem? (i := 0) rfl)
theorem kw_481 : (.selects RX13 yX13_event yX13_event : Cond) ∈ tb := inA_20 _ (List.mem_of_getElem? (i := 1) rfl)
theorem kw_482 : (.methodLink RL 100 yX12_object : Cond) ∈ tb := inA_20 _ (List.mem_of_getElem? (i := 2) rfl)
theorem kw_483 : (.instanceMethod yX12_object : Cond) ∈ tb := inA_20 _ (List.mem_of_getElem? (i := 3) rfl)
theorem kw_484 : (.selects RX12 yX12_object yX12_object : Cond) ∈ tb := inA_20 _ (List.mem_of_getElem? (i := 4) rfl)
theorem kw_485 : (.methodLink RL 103 yX13_object : Cond) ∈ tb := inA_20 _ (List.mem_of_getElem? (i := 5) rfl)
theorem kw_486 : (.instanceMethod yX13_object : Cond) ∈ tb := inA_20 _ (List.mem_of_getElem? (i := 6) rfl)
theorem kw_487 : (.selects RX13 yX13_object yX13_object : Cond) ∈ tb := inA_20 _ (List.mem_of_getElem? (i := 7) rfl)
theorem kw_488 : (.methodLink RL 104 yX12_bean : Cond) ∈ tb := inA_20 _ (List.mem_of_getElem? (i := 8) rfl)
theorem kw_489 : (.instanceMethod yX12_bean : Cond) ∈ tb := inA_20 _ (List.mem_of_getElem? (i := 9) rfl)
theorem kw_490 : (.selects RX12 yX12_bean yX12_bean : Cond) ∈ tb := inA_20 _ (List.mem_of_getElem? (i := 10) rfl)
theorem kw_491 : (.methodLink RL 107 yX13_bean : Cond) ∈ tb := inA_20 _ (List.mem_of_getElem? (i := 11) rfl)
theorem kw_492 : (.instanceMethod yX13_bean : Cond) ∈ tb := inA_20 _ (List.mem_of_getElem? (i := 12) rfl)
theorem kw_493 : (.selects RX13 yX13_bean yX13_bean : Cond) ∈ tb := inA_20 _ (List.mem_of_getElem? (i := 13) rfl)
theorem kw_494 : (.methodLink RL 7 yX12_read : Cond) ∈ tb := inA_20 _ (List.mem_of_getElem? (i := 14) rfl)
theorem kw_495 : (.instanceMethod yX12_read : Cond) ∈ tb := inA_20 _ (List.mem_of_getElem? (i := 15) rfl)
theorem kw_496 : (.selects RX12 yX12_read yX12_read : Cond) ∈ tb := inA_20 _ (List.mem_of_getElem? (i := 16) rfl)
theorem kw_497 : (.classLink RL 13 "java/lang/IllegalArgumentException" : Cond) ∈ tb := inA_20 _ (List.mem_of_getElem? (i := 17) rfl)
theorem kw_498 : (.methodLink RL 15 yX12_refresh : Cond) ∈ tb := inA_20 _ (List.mem_of_getElem? (i := 18) rfl)
theorem kw_499 : (.instanceMethod yX12_refresh : Cond) ∈ tb := inA_20 _ (List.mem_of_getElem? (i := 19) rfl)
theorem kw_500 : (.selects RX12 yX12_refresh yX12_refresh : Cond) ∈ tb := inA_20 _ (List.mem_of_getElem? (i := 20) rfl)
theorem kw_501 : (.classLink RL 18 "java/lang/IllegalStateException" : Cond) ∈ tb := inA_20 _ (List.mem_of_getElem? (i := 21) rfl)
theorem kw_502 : (.classLink RL 20 "java/lang/UnsupportedOperationException" : Cond) ∈ tb := inA_20 _ (List.mem_of_getElem? (i := 22) rfl)
theorem kw_503 : (.methodLink RL 22 yX12_get : Cond) ∈ tb := inA_20 _ (List.mem_of_getElem? (i := 23) rfl)
theorem kw_504 : (.instanceMethod yX12_get : Cond) ∈ tb := inA_21 _ (List.mem_of_getElem? (i := 0) rfl)
theorem kw_505 : (.selects RX12 yX12_get yX12_get : Cond) ∈ tb := inA_21 _ (List.mem_of_getElem? (i := 1) rfl)
theorem kw_506 : (.methodLink RL 26 yX12_call : Cond) ∈ tb := inA_21 _ (List.mem_of_getElem? (i := 2) rfl)
theorem kw_507 : (.instanceMethod yX12_call : Cond) ∈ tb := inA_21 _ (List.mem_of_getElem? (i := 3) rfl)
theorem kw_508 : (.selects RX12 yX12_call yX12_call : Cond) ∈ tb := inA_21 _ (List.mem_of_getElem? (i := 4) rfl)
theorem kw_509 : (.classLink RL 30 "java/lang/IndexOutOfBoundsException" : Cond) ∈ tb := inA_21 _ (List.mem_of_getElem? (i := 5) rfl)
theorem kw_510 : (.methodLink RX12 1 objectInit : Cond) ∈ tb := inA_21 _ (List.mem_of_getElem? (i := 6) rfl)
theorem kw_511 : (.methodLink RX12 1 objectInit : Cond) ∈ tb := inA_21 _ (List.mem_of_getElem? (i := 7) rfl)
theorem kw_512 : (.methodLink RX12 1 objectInit : Cond) ∈ tb := inA_21 _ (List.mem_of_getElem? (i := 8) rfl)
theorem kw_513 : (.methodLink RX12 1 objectInit : Cond) ∈ tb := inA_21 _ (List.mem_of_getElem? (i := 9) rfl)
theorem kw_514 : (.methodLink RX12 1 objectInit : Cond) ∈ tb := inA_21 _ (List.mem_of_getElem? (i := 10) rfl)
theorem kw_515 : (.methodLink RX12 1 objectInit : Cond) ∈ tb := inA_21 _ (List.mem_of_getElem? (i := 11) rfl)
theorem kw_516 : (.methodLink RX12 1 objectInit : Cond) ∈ tb := inA_21 _ (List.mem_of_getElem? (i := 12) rfl)
theorem kw_517 : (.methodLink RX12 1 objectInit : Cond) ∈ tb := inA_21 _ (List.mem_of_getElem? (i := 13) rfl)
theorem kw_518 : (.methodLink RX12 1 objectInit : Cond) ∈ tb := inA_21 _ (List.mem_of_getElem? (i := 14) rfl)
theorem kw_519 : (.methodLink RX12 1 objectInit : Cond) ∈ tb := inA_21 _ (List.mem_of_getElem? (i := 15) rfl)
theorem kw_520 : (.methodLink RX12 1 objectInit : Cond) ∈ tb := inA_21 _ (List.mem_of_getElem? (i := 16) rfl)
theorem kw_521 : (.methodLink RX12 1 objectInit : Cond) ∈ tb := inA_21 _ (List.mem_of_getElem? (i := 17) rfl)
theorem kw_522 : (.methodLink RX12 1 objectInit : Cond) ∈ tb := inA_21 _ (List.mem_of_getElem? (i := 18) rfl)
theorem kw_523 : (.methodLink RX12 1 objectInit : Cond) ∈ tb := inA_21 _ (List.mem_of_getElem? (i := 19) rfl)
theorem kw_524 : (.methodLink RX12 1 objectInit : Cond) ∈ tb := inA_21 _ (List.mem_of_getElem? (i := 20) rfl)
theorem kw_525 : (.methodLink RX12 1 objectInit : Cond) ∈ tb := inA_21 _ (List.mem_of_getElem? (i := 21) rfl)
theorem kw_526 : (.methodLink RX12 1 objectInit : Cond) ∈ tb := inA_21 _ (List.mem_of_getElem? (i := 22) rfl)
theorem kw_527 : (.methodLink RX12 1 objectInit : Cond) ∈ tb := inA_21 _ (List.mem_of_getElem? (i := 23) rfl)
theorem kw_528 : (.code objectInit ⟨#[0xb1]⟩ 1 none : Cond) ∈ tb := inA_22 _ (List.mem_of_getElem? (i := 0) rfl)
theorem kw_529 : (.code yX2_init cX2_init 3 none : Cond) ∈ tb := inA_22 _ (List.mem_of_getElem? (i := 1) rfl)
theorem kw_530 : (.code yX6_init cX6_init 3 none : Cond) ∈ tb := inA_22 _ (List.mem_of_getElem? (i := 2) rfl)
theorem kw_531 : (.code yX7_init cX7_init 2 none : Cond) ∈ tb := inA_22 _ (List.mem_of_getElem? (i := 3) rfl)
theorem kw_532 : (.code yX9_init cX9_init 2 none : Cond) ∈ tb := inA_22 _ (List.mem_of_getElem? (i := 4) rfl)
theorem kw_533 : (.code yX10_init cX10_init 3 none : Cond) ∈ tb := inA_22 _ (List.mem_of_getElem? (i := 5) rfl)
theorem kw_534 : (.code yX4_init cX4_init 1 none : Cond) ∈ tb := inA_22 _ (List.mem_of_getElem? (i := 6) rfl)
theorem kw_535 : (.code yX5_init cX5_init 4 none : Cond) ∈ tb := inA_22 _ (List.mem_of_getElem? (i := 7) rfl)
theorem kw_536 : (.code yX12_isClass cX12_isClass 1 (some .boolean) : Cond) ∈ tb := inA_22 _ (List.mem_of_getElem? (i := 8) rfl)
theorem kw_537 : (.code yX2_begin cX2_begin 3 none : Cond) ∈ tb := inA_22 _ (List.mem_of_getElem? (i := 9) rfl)
theorem kw_538 : (.code yX12_areTypes cX12_areTypes 4 (some .boolean) : Cond) ∈ tb := inA_22 _ (List.mem_of_getElem? (i := 10) rfl)
theorem kw_539 : (.code yX2_addConstructor cX2_addConstructor 5 (some .boolean) : Cond) ∈ tb := inA_22 _ (List.mem_of_getElem? (i := 11) rfl)
theorem kw_540 : (.code yX12_isLetter cX12_isLetter 1 (some .boolean) : Cond) ∈ tb := inA_22 _ (List.mem_of_getElem? (i := 12) rfl)
theorem kw_541 : (.code yX12_isType cX12_isType 1 (some .boolean) : Cond) ∈ tb := inA_22 _ (List.mem_of_getElem? (i := 13) rfl)
theorem kw_542 : (.code yX2_addSetter cX2_addSetter 3 (some .boolean) : Cond) ∈ tb := inA_22 _ (List.mem_of_getElem? (i := 14) rfl)
theorem kw_543 : (.code yX2_addFactory cX2_addFactory 8 (some .boolean) : Cond) ∈ tb := inA_22 _ (List.mem_of_getElem? (i := 15) rfl)
theorem kw_544 : (.code yX12_typedBehind cX12_typedBehind 6 (some .int) : Cond) ∈ tb := inA_22 _ (List.mem_of_getElem? (i := 16) rfl)
theorem kw_545 : (.code yX5_startAfresh cX5_startAfresh 1 none : Cond) ∈ tb := inA_22 _ (List.mem_of_getElem? (i := 17) rfl)
theorem kw_546 : (.codeWith yX7_firstWrongPlace cX7_firstWrongPlace 4 (some .int) [(32, 75, 78, 50)] : Cond) ∈ tb := inA_22 _ (List.mem_of_getElem? (i := 18) rfl)
theorem kw_547 : (.code yX10_forgetBeans cX10_forgetBeans 1 none : Cond) ∈ tb := inA_22 _ (List.mem_of_getElem? (i := 19) rfl)
theorem kw_548 : (.code yX10_count cX10_count 1 (some .int) : Cond) ∈ tb := inA_22 _ (List.mem_of_getElem? (i := 20) rfl)
theorem kw_549 : (.code yX5_failure cX5_failure 1 (some .int) : Cond) ∈ tb := inA_22 _ (List.mem_of_getElem? (i := 21) rfl)
theorem kw_550 : (.code yX5_failureBean cX5_failureBean 1 (some .int) : Cond) ∈ tb := inA_22 _ (List.mem_of_getElem? (i := 22) rfl)
theorem kw_551 : (.code yX5_forgetFailure cX5_forgetFailure 1 none : Cond) ∈ tb := inA_22 _ (List.mem_of_getElem? (i := 23) rfl)
theorem kw_552 : (.code yX5_destroyAll cX5_destroyAll 2 none : Cond) ∈ tb := inA_23 _ (List.mem_of_getElem? (i := 0) rfl)
theorem kw_553 : (.code yX4_count cX4_count 1 (some .int) : Cond) ∈ tb := inA_23 _ (List.mem_of_getElem? (i := 1) rfl)
theorem kw_554 : (.code yX4_number cX4_number 3 (some .int) : Cond) ∈ tb := inA_23 _ (List.mem_of_getElem? (i := 2) rfl)
theorem kw_555 : (.code yX5_classOfObject cX5_classOfObject 2 (some .int) : Cond) ∈ tb := inA_23 _ (List.mem_of_getElem? (i := 3) rfl)
theorem kw_556 : (.code yX5_beanOfObject cX5_beanOfObject 2 (some .int) : Cond) ∈ tb := inA_23 _ (List.mem_of_getElem? (i := 4) rfl)
theorem kw_557 : (.code yX8_init cX8_init 3 none : Cond) ∈ tb := inA_23 _ (List.mem_of_getElem? (i := 5) rfl)
theorem kw_558 : (.code yX8_describe cX8_describe 4 none : Cond) ∈ tb := inA_23 _ (List.mem_of_getElem? (i := 6) rfl)
theorem kw_559 : (.code yX8_setTypes cX8_setTypes 5 none : Cond) ∈ tb := inA_23 _ (List.mem_of_getElem? (i := 7) rfl)
theorem kw_560 : (.code yX3_init cX3_init 1 none : Cond) ∈ tb := inA_23 _ (List.mem_of_getElem? (i := 8) rfl)
theorem kw_561 : (.code yX6_clear cX6_clear 1 none : Cond) ∈ tb := inA_23 _ (List.mem_of_getElem? (i := 9) rfl)
theorem kw_562 : (.code yX7_skipAround cX7_skipAround 2 none : Cond) ∈ tb := inA_23 _ (List.mem_of_getElem? (i := 10) rfl)
theorem kw_563 : (.code yX7_openElement cX7_openElement 5 none : Cond) ∈ tb := inA_23 _ (List.mem_of_getElem? (i := 11) rfl)
theorem kw_564 : (.code yX7_skipsWhite cX7_skipsWhite 2 (some .boolean) : Cond) ∈ tb := inA_23 _ (List.mem_of_getElem? (i := 12) rfl)
theorem kw_565 : (.code yX7_expect cX7_expect 2 none : Cond) ∈ tb := inA_23 _ (List.mem_of_getElem? (i := 13) rfl)
theorem kw_566 : (.code yJx4a65c_init_da8c8 cJx4a65c_init_da8c8 1 none : Cond) ∈ tb := inA_23 _ (List.mem_of_getElem? (i := 14) rfl)
theorem kw_567 : (.code yX1_init cX1_init 2 none : Cond) ∈ tb := inA_23 _ (List.mem_of_getElem? (i := 15) rfl)
theorem kw_568 : (.code yX5_forgetMade cX5_forgetMade 2 none : Cond) ∈ tb := inA_23 _ (List.mem_of_getElem? (i := 16) rfl)
theorem kw_569 : (.code yX4_clear cX4_clear 1 none : Cond) ∈ tb := inA_23 _ (List.mem_of_getElem? (i := 17) rfl)
theorem kw_570 : (.code yX5_isObject cX5_isObject 2 (some .boolean) : Cond) ∈ tb := inA_23 _ (List.mem_of_getElem? (i := 18) rfl)
theorem kw_571 : (.code yJxc12de_init_da8c8 cJxc12de_init_da8c8 1 none : Cond) ∈ tb := inA_23 _ (List.mem_of_getElem? (i := 19) rfl)
theorem kw_572 : (.code yJxa1e45_init_da8c8 cJxa1e45_init_da8c8 1 none : Cond) ∈ tb := inA_23 _ (List.mem_of_getElem? (i := 20) rfl)
theorem kw_573 : (.code yX13_isType cX13_isType 1 (some .boolean) : Cond) ∈ tb := inA_23 _ (List.mem_of_getElem? (i := 21) rfl)
theorem kw_574 : (.code yX13_isClass cX13_isClass 1 (some .boolean) : Cond) ∈ tb := inA_23 _ (List.mem_of_getElem? (i := 22) rfl)
theorem kw_575 : (.code yX13_areTypes cX13_areTypes 4 (some .boolean) : Cond) ∈ tb := inA_23 _ (List.mem_of_getElem? (i := 23) rfl)
theorem kw_576 : (.code yX13_isLetter cX13_isLetter 1 (some .boolean) : Cond) ∈ tb := inA_24 _ (List.mem_of_getElem? (i := 0) rfl)
theorem kw_577 : (.code yX13_here cX13_here 2 (some .int) : Cond) ∈ tb := inA_24 _ (List.mem_of_getElem? (i := 1) rfl)
theorem kw_578 : (.code yX13_isWhite cX13_isWhite 2 (some .boolean) : Cond) ∈ tb := inA_24 _ (List.mem_of_getElem? (i := 2) rfl)
theorem kw_579 : (.code yX13_white cX13_white 2 (some .int) : Cond) ∈ tb := inA_24 _ (List.mem_of_getElem? (i := 3) rfl)
theorem kw_580 : (.code yX13_bad cX13_bad 2 none : Cond) ∈ tb := inA_24 _ (List.mem_of_getElem? (i := 4) rfl)
theorem kw_581 : (.code yX13_between cX13_between 2 none : Cond) ∈ tb := inA_24 _ (List.mem_of_getElem? (i := 5) rfl)
theorem kw_582 : (.code yX13_begin cX13_begin 6 (some .int) : Cond) ∈ tb := inA_24 _ (List.mem_of_getElem? (i := 6) rfl)
theorem kw_583 : (.code yX13_clear cX13_clear 2 none : Cond) ∈ tb := inA_24 _ (List.mem_of_getElem? (i := 7) rfl)
theorem kw_584 : (.code yX13_readDocument cX13_readDocument 5 none : Cond) ∈ tb := inA_24 _ (List.mem_of_getElem? (i := 8) rfl)
theorem kw_585 : (.code yX12_init cX12_init 2 none : Cond) ∈ tb := inA_24 _ (List.mem_of_getElem? (i := 9) rfl)
theorem kw_586 : (.code yX13_init cX13_init 2 none : Cond) ∈ tb := inA_24 _ (List.mem_of_getElem? (i := 10) rfl)
theorem kw_587 : (.code yX12_declare cX12_declare 3 (some .boolean) : Cond) ∈ tb := inA_24 _ (List.mem_of_getElem? (i := 11) rfl)
theorem kw_588 : (.code yX13_declare cX13_declare 3 (some .boolean) : Cond) ∈ tb := inA_24 _ (List.mem_of_getElem? (i := 12) rfl)
theorem kw_589 : (.code yX12_constructor cX12_constructor 6 (some .boolean) : Cond) ∈ tb := inA_24 _ (List.mem_of_getElem? (i := 13) rfl)
theorem kw_590 : (.code yX13_constructor cX13_constructor 7 (some .boolean) : Cond) ∈ tb := inA_24 _ (List.mem_of_getElem? (i := 14) rfl)
theorem kw_591 : (.code yX12_setter cX12_setter 4 (some .boolean) : Cond) ∈ tb := inA_24 _ (List.mem_of_getElem? (i := 15) rfl)
theorem kw_592 : (.code yX13_setter cX13_setter 5 (some .boolean) : Cond) ∈ tb := inA_24 _ (List.mem_of_getElem? (i := 16) rfl)
theorem kw_593 : (.code yX12_factory cX12_factory 9 (some .boolean) : Cond) ∈ tb := inA_24 _ (List.mem_of_getElem? (i := 17) rfl)
theorem kw_594 : (.code yX13_factory cX13_factory 10 (some .boolean) : Cond) ∈ tb := inA_24 _ (List.mem_of_getElem? (i := 18) rfl)
theorem kw_595 : (.code yX12_type cX12_type 7 (some .int) : Cond) ∈ tb := inA_24 _ (List.mem_of_getElem? (i := 19) rfl)
theorem kw_596 : (.code yX13_type cX13_type 10 (some .int) : Cond) ∈ tb := inA_24 _ (List.mem_of_getElem? (i := 20) rfl)
theorem kw_597 : (.codeWith yL_read cL_read 3 (some .int) [(0, 8, 11, 13)] : Cond) ∈ tb := inA_24 _ (List.mem_of_getElem? (i := 21) rfl)
theorem kw_598 : (.code yX13_read cX13_read 4 (some .int) : Cond) ∈ tb := inA_24 _ (List.mem_of_getElem? (i := 22) rfl)
theorem kw_599 : (.code yX13_thrown cX13_thrown 1 (some .int) : Cond) ∈ tb := inA_24 _ (List.mem_of_getElem? (i := 23) rfl)
theorem kw_600 : (.code yX12_fault cX12_fault 2 (some .int) : Cond) ∈ tb := inA_25 _ (List.mem_of_getElem? (i := 0) rfl)
theorem kw_601 : (.code yX13_fault cX13_fault 2 (some .int) : Cond) ∈ tb := inA_25 _ (List.mem_of_getElem? (i := 1) rfl)
theorem kw_602 : (.codeWith yL_refresh cL_refresh 3 (some .int) [(0, 8, 11, 18), (0, 8, 14, 20)] : Cond) ∈ tb := inA_25 _ (List.mem_of_getElem? (i := 2) rfl)
theorem kw_603 : (.code yX13_refresh cX13_refresh 4 (some .int) : Cond) ∈ tb := inA_25 _ (List.mem_of_getElem? (i := 3) rfl)
theorem kw_604 : (.codeWith yL_get cL_get 5 (some .int) [(0, 9, 12, 18), (0, 9, 16, 20)] : Cond) ∈ tb := inA_25 _ (List.mem_of_getElem? (i := 4) rfl)
theorem kw_605 : (.code yX13_get cX13_get 3 (some .int) : Cond) ∈ tb := inA_25 _ (List.mem_of_getElem? (i := 5) rfl)
theorem kw_606 : (.codeWith yL_call cL_call 5 (some .int) [(0, 10, 13, 18), (0, 10, 17, 30), (0, 10, 21, 20)] : Cond) ∈ tb := inA_25 _ (List.mem_of_getElem? (i := 6) rfl)
theorem kw_607 : (.code yX13_call cX13_call 7 (some .int) : Cond) ∈ tb := inA_25 _ (List.mem_of_getElem? (i := 7) rfl)
theorem kw_608 : (.code yX12_close cX12_close 1 (some .int) : Cond) ∈ tb := inA_25 _ (List.mem_of_getElem? (i := 8) rfl)
theorem kw_609 : (.code yX13_close cX13_close 1 (some .int) : Cond) ∈ tb := inA_25 _ (List.mem_of_getElem? (i := 9) rfl)
theorem kw_610 : (.code yX12_events cX12_events 1 (some .int) : Cond) ∈ tb := inA_25 _ (List.mem_of_getElem? (i := 10) rfl)
theorem kw_611 : (.code yX13_events cX13_events 1 (some .int) : Cond) ∈ tb := inA_25 _ (List.mem_of_getElem? (i := 11) rfl)
theorem kw_612 : (.code yX12_event cX12_event 3 (some .int) : Cond) ∈ tb := inA_25 _ (List.mem_of_getElem? (i := 12) rfl)
theorem kw_613 : (.code yX13_event cX13_event 3 (some .int) : Cond) ∈ tb := inA_25 _ (List.mem_of_getElem? (i := 13) rfl)
theorem kw_614 : (.code yX12_object cX12_object 3 (some .int) : Cond) ∈ tb := inA_25 _ (List.mem_of_getElem? (i := 14) rfl)
theorem kw_615 : (.code yX13_object cX13_object 3 (some .int) : Cond) ∈ tb := inA_25 _ (List.mem_of_getElem? (i := 15) rfl)
theorem kw_616 : (.code yX12_bean cX12_bean 3 (some .int) : Cond) ∈ tb := inA_25 _ (List.mem_of_getElem? (i := 16) rfl)
theorem kw_617 : (.code yX13_bean cX13_bean 4 (some .int) : Cond) ∈ tb := inA_25 _ (List.mem_of_getElem? (i := 17) rfl)
theorem kw_618 : (.code yX12_read cX12_read 1 (some .int) : Cond) ∈ tb := inA_25 _ (List.mem_of_getElem? (i := 18) rfl)
theorem kw_619 : (.code yX12_refresh cX12_refresh 1 (some .int) : Cond) ∈ tb := inA_25 _ (List.mem_of_getElem? (i := 19) rfl)
theorem kw_620 : (.code yX12_get cX12_get 4 (some .int) : Cond) ∈ tb := inA_25 _ (List.mem_of_getElem? (i := 20) rfl)
theorem kw_621 : (.code yX12_call cX12_call 5 (some .int) : Cond) ∈ tb := inA_25 _ (List.mem_of_getElem? (i := 21) rfl)
theorem inJx4a65c : ∀ w ∈ wsJx4a65c0, w ∈ tb := fun _ h => List.mem_append_right _ (List.mem_append_left _ (List.mem_append_left _ h))
theorem inX1 : ∀ w ∈ wsX10, w ∈ tb := fun _ h => List.mem_append_right _ (List.mem_append_left _ (List.mem_append_right _ (List.mem_append_left _ h)))
theorem inX2 : ∀ w ∈ wsX20, w ∈ tb := fun _ h => List.mem_append_right _ (List.mem_append_left _ (List.mem_append_right _ (List.mem_append_right _ (List.mem_append_left _ h))))
theorem inX3 : ∀ w ∈ wsX30, w ∈ tb := fun _ h => List.mem_append_right _ (List.mem_append_left _ (List.mem_append_right _ (List.mem_append_right _ (List.mem_append_right _ (List.mem_append_left _ h)))))
theorem inX4 : ∀ w ∈ wsX40, w ∈ tb := fun _ h => List.mem_append_right _ (List.mem_append_left _ (List.mem_append_right _ (List.mem_append_right _ (List.mem_append_right _ (List.mem_append_right _ (List.mem_append_left _ h))))))
theorem inX5 : ∀ w ∈ wsX50, w ∈ tb := fun _ h => List.mem_append_right _ (List.mem_append_left _ (List.mem_append_right _ (List.mem_append_right _ (List.mem_append_right _ (List.mem_append_right _ (List.mem_append_right _ (List.mem_append_left _ h)))))))
theorem inX6 : ∀ w ∈ wsX60, w ∈ tb := fun _ h => List.mem_append_right _ (List.mem_append_left _ (List.mem_append_right _ (List.mem_append_right _ (List.mem_append_right _ (List.mem_append_right _ (List.mem_append_right _ (List.mem_append_right _ (List.mem_append_left _ h))))))))
theorem inX7 : ∀ w ∈ wsX70, w ∈ tb := fun _ h => List.mem_append_right _ (List.mem_append_left _ (List.mem_append_right _ (List.mem_append_right _ (List.mem_append_right _ (List.mem_append_right _ (List.mem_append_right _ (List.mem_append_right _ (List.mem_append_right _ (List.mem_append_left _ h)))))))))
theorem inX8 : ∀ w ∈ wsX80, w ∈ tb := fun _ h => List.mem_append_right _ (List.mem_append_left _ (List.mem_append_right _ (List.mem_append_right _ (List.mem_append_right _ (List.mem_append_right _ (List.mem_append_right _ (List.mem_append_right _ (List.mem_append_right _ (List.mem_append_right _ (List.mem_append_left _ h))))))))))
theorem inX9 : ∀ w ∈ wsX90, w ∈ tb := fun _ h => List.mem_append_right _ (List.mem_append_left _ (List.mem_append_right _ (List.mem_append_right _ (List.mem_append_right _ (List.mem_append_right _ (List.mem_append_right _ (List.mem_append_right _ (List.mem_append_right _ (List.mem_append_right _ (List.mem_append_right _ (List.mem_append_left _ h)))))))))))
theorem inX10 : ∀ w ∈ wsX100, w ∈ tb := fun _ h => List.mem_append_right _ (List.mem_append_left _ (List.mem_append_right _ (List.mem_append_right _ (List.mem_append_right _ (List.mem_append_right _ (List.mem_append_right _ (List.mem_append_right _ (List.mem_append_right _ (List.mem_append_right _ (List.mem_append_right _ (List.mem_append_right _ (List.mem_append_left _ h))))))))))))
theorem inX12 : ∀ w ∈ wsX120, w ∈ tb := fun _ h => List.mem_append_right _ (List.mem_append_left _ (List.mem_append_right _ (List.mem_append_right _ (List.mem_append_right _ (List.mem_append_right _ (List.mem_append_right _ (List.mem_append_right _ (List.mem_append_right _ (List.mem_append_right _ (List.mem_append_right _ (List.mem_append_right _ (List.mem_append_right _ (List.mem_append_left _ h)))))))))))))
theorem inX13 : ∀ w ∈ wsX130, w ∈ tb := fun _ h => List.mem_append_right _ (List.mem_append_left _ (List.mem_append_right _ (List.mem_append_right _ (List.mem_append_right _ (List.mem_append_right _ (List.mem_append_right _ (List.mem_append_right _ (List.mem_append_right _ (List.mem_append_right _ (List.mem_append_right _ (List.mem_append_right _ (List.mem_append_right _ (List.mem_append_right _ (h))))))))))))))
theorem inT_0 : ∀ w ∈ (vx_at0 RX12 131 "java/lang/IllegalArgumentException" ["java/lang/RuntimeException", "java/lang/Exception"]).filter goodWord, w ∈ tb := fun _ h => List.mem_append_right _ (List.mem_append_right _ (List.mem_append_left _ h))
theorem inU_0 : ∀ w ∈ (vx_at0 RX12 131 "java/lang/IllegalArgumentException" ["java/lang/RuntimeException", "java/lang/Exception"]).filter (fun w => !goodWord w), w ∈ [Cond.castable "java/lang/IllegalArgumentException" "java/lang/IllegalArgumentException", Cond.declares ⟨"java/lang/RuntimeException", "<init>", "()V"⟩, Cond.declares ⟨"java/lang/Exception", "<init>", "()V"⟩, Cond.declares ⟨"java/lang/Throwable", "<init>", "()V"⟩] := by decide +kernel
theorem inV_0 : ∀ w ∈ vx_at0 RX12 131 "java/lang/IllegalArgumentException" ["java/lang/RuntimeException", "java/lang/Exception"], vx_ot w = true := by decide +kernel
theorem inW_0 : ∀ w ∈ (vx_at0 RX12 131 "java/lang/IllegalArgumentException" ["java/lang/RuntimeException", "java/lang/Exception"]).filter goodWord, w ∈ lw_tbl := by decide +kernel
theorem inT_1 : ∀ w ∈ (vx_at0 RX12 146 "java/lang/IllegalStateException" ["java/lang/RuntimeException", "java/lang/Exception"]).filter goodWord, w ∈ tb := fun _ h => List.mem_append_right _ (List.mem_append_right _ (List.mem_append_right _ (List.mem_append_left _ h)))
theorem inU_1 : ∀ w ∈ (vx_at0 RX12 146 "java/lang/IllegalStateException" ["java/lang/RuntimeException", "java/lang/Exception"]).filter (fun w => !goodWord w), w ∈ [Cond.castable "java/lang/IllegalStateException" "java/lang/IllegalStateException", Cond.declares ⟨"java/lang/RuntimeException", "<init>", "()V"⟩, Cond.declares ⟨"java/lang/Exception", "<init>", "()V"⟩, Cond.declares ⟨"java/lang/Throwable", "<init>", "()V"⟩] := by decide +kernel
theorem inV_1 : ∀ w ∈ vx_at0 RX12 146 "java/lang/IllegalStateException" ["java/lang/RuntimeException", "java/lang/Exception"], vx_ot w = true := by decide +kernel
theorem inW_1 : ∀ w ∈ (vx_at0 RX12 146 "java/lang/IllegalStateException" ["java/lang/RuntimeException", "java/lang/Exception"]).filter goodWord, w ∈ lw_tbl := by decide +kernel
theorem inT_2 : ∀ w ∈ (vx_at0 RX7 52 "java/lang/IllegalArgumentException" ["java/lang/RuntimeException", "java/lang/Exception"]).filter goodWord, w ∈ tb := fun _ h => List.mem_append_right _ (List.mem_append_right _ (List.mem_append_right _ (List.mem_append_right _ (h))))
theorem inU_2 : ∀ w ∈ (vx_at0 RX7 52 "java/lang/IllegalArgumentException" ["java/lang/RuntimeException", "java/lang/Exception"]).filter (fun w => !goodWord w), w ∈ [Cond.castable "java/lang/IllegalArgumentException" "java/lang/IllegalArgumentException", Cond.declares ⟨"java/lang/RuntimeException", "<init>", "()V"⟩, Cond.declares ⟨"java/lang/Exception", "<init>", "()V"⟩, Cond.declares ⟨"java/lang/Throwable", "<init>", "()V"⟩] := by decide +kernel
theorem inV_2 : ∀ w ∈ vx_at0 RX7 52 "java/lang/IllegalArgumentException" ["java/lang/RuntimeException", "java/lang/Exception"], vx_ot w = true := by decide +kernel
theorem inW_2 : ∀ w ∈ (vx_at0 RX7 52 "java/lang/IllegalArgumentException" ["java/lang/RuntimeException", "java/lang/Exception"]).filter goodWord, w ∈ lw_tbl := by decide +kernel
set_option maxRecDepth 100000 in
theorem tb_good : GoodIn tb tb := goodIn_sub (fun _ h => h) (by decide +kernel)
theorem in_r {big ws : List Cond} (ps : List Nat) (hp : ws = ps.filterMap (fun i => big[i]?)) : ∀ w ∈ ws, w ∈ big := by
  intro w hw
  rw [hp] at hw
  obtain ⟨i, -, hi⟩ := List.mem_filterMap.mp hw
  exact List.mem_of_getElem? hi
set_option maxRecDepth 100000 in
theorem inC_0 : ∀ w ∈ tbA_0, w ∈ lw_tbl := in_r [186, 187, 189, 637, 148, 191, 192, 193, 386, 638, 261, 150, 262, 263, 264, 639, 413, 152, 414, 415, 416, 640, 438, 153] (by decide +kernel)
set_option maxRecDepth 100000 in
theorem inC_1 : ∀ w ∈ tbA_1, w ∈ lw_tbl := in_r [439, 440, 441, 641, 448, 154, 449, 450, 451, 642, 577, 159, 578, 579, 580, 643, 590, 160, 591, 592, 593, 644, 648, 678] (by decide +kernel)
set_option maxRecDepth 100000 in
theorem inC_2 : ∀ w ∈ tbA_2, w ∈ lw_tbl := in_r [679, 147, 681, 682, 683, 689, 690, 695, 696, 697, 711, 712, 692, 693, 714, 715, 716, 722, 723, 724, 645, 730, 732, 0] (by decide +kernel)
set_option maxRecDepth 100000 in
theorem inC_3 : ∀ w ∈ tbA_3, w ∈ lw_tbl := in_r [824, 825, 826, 647, 832, 833, 834, 646, 1428, 1429, 1430, 1432, 165, 806, 763, 764, 738, 739, 740, 742, 743, 744, 1444, 1445] (by decide +kernel)
set_option maxRecDepth 100000 in
theorem inC_4 : ∀ w ∈ tbA_4, w ∈ lw_tbl := in_r [1446, 1448, 178, 1610, 179, 1647, 180, 318, 750, 751, 752, 770, 771, 772, 782, 783, 784, 790, 791, 792, 798, 799, 800, 202] (by decide +kernel)
set_option maxRecDepth 100000 in
theorem inC_5 : ∀ w ∈ tbA_5, w ∈ lw_tbl := in_r [203, 205, 231, 207, 211, 213, 214, 209, 195, 240, 196, 232, 234, 149, 198, 199, 200, 241, 243, 236, 238, 242, 699, 700] (by decide +kernel)
set_option maxRecDepth 100000 in
theorem inC_6 : ∀ w ∈ tbA_6, w ∈ lw_tbl := in_r [701, 703, 704, 705, 273, 274, 266, 267, 387, 151, 269, 270, 271, 412, 388, 389, 390, 391, 392, 393, 394, 418, 419, 420] (by decide +kernel)
set_option maxRecDepth 100000 in
theorem inC_7 : ∀ w ∈ tbA_7, w ∈ lw_tbl := in_r [421, 422, 423, 424, 837, 838, 839, 841, 843, 3, 924, 926, 9, 836, 845, 847, 4, 857, 859, 7, 291, 443, 444, 460] (by decide +kernel)
set_option maxRecDepth 100000 in
theorem inC_8 : ∀ w ∈ tbA_8, w ∈ lw_tbl := in_r [487, 461, 158, 462, 463, 464, 489, 491, 493, 453, 564, 454, 565, 155, 456, 457, 458, 566, 567, 582, 583, 584, 595, 597] (by decide +kernel)
set_option maxRecDepth 100000 in
theorem inC_9 : ∀ w ∈ tbA_9, w ∈ lw_tbl := in_r [598, 599, 600, 601, 596, 603, 605, 606, 609, 602, 758, 760, 1, 828, 829, 830, 762, 522, 604, 608, 512, 524, 794, 796] (by decide +kernel)
set_option maxRecDepth 100000 in
theorem inC_10 : ∀ w ∈ tbA_10, w ∈ lw_tbl := in_r [2, 466, 467, 157, 473, 475, 469, 470, 156, 477, 472, 1667, 1668, 1669, 1670, 1671, 1672, 1673, 1674, 1675, 1676, 1677, 1694, 1678] (by decide +kernel)
set_option maxRecDepth 100000 in
theorem inC_11 : ∀ w ∈ tbA_11, w ∈ lw_tbl := in_r [1679, 1680, 1681, 1682, 1683, 1684, 1685, 1686, 1687, 1688, 1695, 1689, 1690, 1691, 1692, 1693, 1696, 1697, 1698, 1700, 1701, 1702, 1703, 1704] (by decide +kernel)
set_option maxRecDepth 100000 in
theorem inC_12 : ∀ w ∈ tbA_12, w ∈ lw_tbl := in_r [1705, 1706, 1707, 1708, 1709, 1710, 1711, 1926, 1712, 1434, 1713, 1717, 1720, 1721, 1722, 1723, 1724, 1725, 1726, 1727, 1728, 1729, 1730, 1731] (by decide +kernel)
set_option maxRecDepth 100000 in
theorem inC_13 : ∀ w ∈ tbA_13, w ∈ lw_tbl := in_r [1732, 1733, 1736, 1737, 1738, 1739, 1740, 1741, 1746, 1747, 1748, 1749, 1750, 1751, 1752, 1753, 1754, 1755, 1756, 1758, 1759, 1760, 1761, 1762] (by decide +kernel)
set_option maxRecDepth 100000 in
theorem inC_14 : ∀ w ∈ tbA_14, w ∈ lw_tbl := in_r [1763, 1764, 1765, 1766, 1767, 1769, 1699, 1945, 1946, 161, 1935, 1936, 1942, 1943, 1952, 1953, 1714, 1716, 1715, 1983, 1985, 74, 1987, 1989] (by decide +kernel)
set_option maxRecDepth 100000 in
theorem inC_15 : ∀ w ∈ tbA_15, w ∈ lw_tbl := in_r [75, 1979, 1981, 73, 1718, 1999, 2001, 78, 1770, 1975, 1977, 72, 2007, 2009, 80, 1743, 1744, 1719, 1735, 1734, 1742, 1967, 1969, 70] (by decide +kernel)
set_option maxRecDepth 100000 in
theorem inC_16 : ∀ w ∈ tbA_16, w ∈ lw_tbl := in_r [1971, 1973, 71, 1745, 2067, 1768, 2060, 2069, 2070, 2071, 2066, 181, 182, 183, 184, 1662, 1663, 1664, 1665, 674, 675, 676, 1931, 1932] (by decide +kernel)
set_option maxRecDepth 100000 in
theorem inC_17 : ∀ w ∈ tbA_17, w ∈ lw_tbl := in_r [1933, 685, 686, 687, 1938, 1939, 1940, 707, 708, 709, 1948, 1949, 1950, 718, 719, 720, 1955, 1956, 1957, 726, 727, 728, 1959, 1960] (by decide +kernel)
set_option maxRecDepth 100000 in
theorem inC_18 : ∀ w ∈ tbA_18, w ∈ lw_tbl := in_r [1961, 816, 817, 146, 1963, 1964, 1965, 1927, 1928, 1929, 734, 735, 736, 2152, 2153, 2154, 1435, 1436, 2156, 2157, 2158, 2340, 1616, 1617] (by decide +kernel)
set_option maxRecDepth 100000 in
theorem inC_19 : ∀ w ∈ tbA_19, w ∈ lw_tbl := in_r [2309, 2310, 2311, 1631, 1632, 2316, 2317, 2318, 746, 747, 748, 2320, 2321, 2322, 774, 775, 776, 2324, 2325, 2326, 778, 779, 780, 2328] (by decide +kernel)
set_option maxRecDepth 100000 in
theorem inC_20 : ∀ w ∈ tbA_20, w ∈ lw_tbl := in_r [2329, 2330, 786, 787, 788, 2332, 2333, 2334, 802, 803, 804, 2336, 2337, 2338, 820, 821, 822, 819, 1440, 1441, 1442, 1438, 1439, 1619] (by decide +kernel)
set_option maxRecDepth 100000 in
theorem inC_21 : ∀ w ∈ tbA_21, w ∈ lw_tbl := in_r [1620, 1621, 1635, 1636, 1637, 1634, 186, 186, 186, 186, 186, 186, 186, 186, 186, 186, 186, 186, 186, 186, 186, 186, 186, 186] (by decide +kernel)
set_option maxRecDepth 100000 in
theorem inC_22 : ∀ w ∈ tbA_22, w ∈ lw_tbl := in_r [188, 194, 265, 417, 442, 452, 581, 594, 680, 684, 691, 698, 713, 694, 717, 725, 733, 827, 835, 1431, 765, 741, 745, 1447] (rfl)
set_option maxRecDepth 100000 in
theorem inC_23 : ∀ w ∈ tbA_23, w ∈ lw_tbl := in_r [753, 773, 785, 793, 801, 201, 702, 706, 272, 840, 844, 927, 848, 860, 465, 459, 761, 831, 797, 468, 471, 1947, 1937, 1944] (rfl)
set_option maxRecDepth 100000 in
theorem inC_24 : ∀ w ∈ tbA_24, w ∈ lw_tbl := in_r [1954, 1986, 1990, 1982, 2002, 1978, 2010, 1970, 1974, 185, 1666, 677, 1934, 688, 1941, 710, 1951, 721, 1958, 729, 1962, 818, 1966, 1930] (rfl)
set_option maxRecDepth 100000 in
theorem inC_25 : ∀ w ∈ tbA_25, w ∈ lw_tbl := in_r [737, 2155, 1437, 2159, 1618, 2312, 1633, 2319, 749, 2323, 777, 2327, 781, 2331, 789, 2335, 805, 2339, 823, 1443, 1622, 1638] (rfl)
theorem tbA_in : ∀ w ∈ tbA, w ∈ lw_tbl := fun w h => (List.mem_append.mp h).elim (fun h => inC_0 w h) (fun h => (List.mem_append.mp h).elim (fun h => inC_1 w h) (fun h => (List.mem_append.mp h).elim (fun h => inC_2 w h) (fun h => (List.mem_append.mp h).elim (fun h => inC_3 w h) (fun h => (List.mem_append.mp h).elim (fun h => inC_4 w h) (fun h => (List.mem_append.mp h).elim (fun h => inC_5 w h) (fun h => (List.mem_append.mp h).elim (fun h => inC_6 w h) (fun h => (List.mem_append.mp h).elim (fun h => inC_7 w h) (fun h => (List.mem_append.mp h).elim (fun h => inC_8 w h) (fun h => (List.mem_append.mp h).elim (fun h => inC_9 w h) (fun h => (List.mem_append.mp h).elim (fun h => inC_10 w h) (fun h => (List.mem_append.mp h).elim (fun h => inC_11 w h) (fun h => (List.mem_append.mp h).elim (fun h => inC_12 w h) (fun h => (List.mem_append.mp h).elim (fun h => inC_13 w h) (fun h => (List.mem_append.mp h).elim (fun h => inC_14 w h) (fun h => (List.mem_append.mp h).elim (fun h => inC_15 w h) (fun h => (List.mem_append.mp h).elim (fun h => inC_16 w h) (fun h => (List.mem_append.mp h).elim (fun h => inC_17 w h) (fun h => (List.mem_append.mp h).elim (fun h => inC_18 w h) (fun h => (List.mem_append.mp h).elim (fun h => inC_19 w h) (fun h => (List.mem_append.mp h).elim (fun h => inC_20 w h) (fun h => (List.mem_append.mp h).elim (fun h => inC_21 w h) (fun h => (List.mem_append.mp h).elim (fun h => inC_22 w h) (fun h => (List.mem_append.mp h).elim (fun h => inC_23 w h) (fun h => (List.mem_append.mp h).elim (fun h => inC_24 w h) (fun h => inC_25 w h)))))))))))))))))))))))))
theorem inL_Jx4a65c : ∀ w ∈ wsJx4a65c0, w ∈ lw_tbl := by decide +kernel
theorem inL_X1 : ∀ w ∈ wsX10, w ∈ lw_tbl := by decide +kernel
theorem inL_X2 : ∀ w ∈ wsX20, w ∈ lw_tbl := by decide +kernel
theorem inL_X3 : ∀ w ∈ wsX30, w ∈ lw_tbl := by decide +kernel
theorem inL_X4 : ∀ w ∈ wsX40, w ∈ lw_tbl := by decide +kernel
theorem inL_X5 : ∀ w ∈ wsX50, w ∈ lw_tbl := by decide +kernel
theorem inL_X6 : ∀ w ∈ wsX60, w ∈ lw_tbl := by decide +kernel
theorem inL_X7 : ∀ w ∈ wsX70, w ∈ lw_tbl := by decide +kernel
theorem inL_X8 : ∀ w ∈ wsX80, w ∈ lw_tbl := by decide +kernel
theorem inL_X9 : ∀ w ∈ wsX90, w ∈ lw_tbl := by decide +kernel
theorem inL_X10 : ∀ w ∈ wsX100, w ∈ lw_tbl := by decide +kernel
theorem inL_X12 : ∀ w ∈ wsX120, w ∈ lw_tbl := by decide +kernel
theorem inL_X13 : ∀ w ∈ wsX130, w ∈ lw_tbl := by decide +kernel
theorem tbF_in : ∀ w ∈ tbF, w ∈ lw_tbl := fun w h => (List.mem_append.mp h).elim (fun h => inL_Jx4a65c w h) (fun h => (List.mem_append.mp h).elim (fun h => inL_X1 w h) (fun h => (List.mem_append.mp h).elim (fun h => inL_X2 w h) (fun h => (List.mem_append.mp h).elim (fun h => inL_X3 w h) (fun h => (List.mem_append.mp h).elim (fun h => inL_X4 w h) (fun h => (List.mem_append.mp h).elim (fun h => inL_X5 w h) (fun h => (List.mem_append.mp h).elim (fun h => inL_X6 w h) (fun h => (List.mem_append.mp h).elim (fun h => inL_X7 w h) (fun h => (List.mem_append.mp h).elim (fun h => inL_X8 w h) (fun h => (List.mem_append.mp h).elim (fun h => inL_X9 w h) (fun h => (List.mem_append.mp h).elim (fun h => inL_X10 w h) (fun h => (List.mem_append.mp h).elim (fun h => inL_X12 w h) (fun h => inL_X13 w h))))))))))))
theorem tbX_in : ∀ w ∈ tbX, w ∈ lw_tbl := fun w h => (List.mem_append.mp h).elim (fun h => inW_0 w h) (fun h => (List.mem_append.mp h).elim (fun h => inW_1 w h) (fun h => inW_2 w h))
theorem tb_in : ∀ w ∈ tb, w ∈ lw_tbl := fun w h => (List.mem_append.mp h).elim (tbA_in w) (fun h => (List.mem_append.mp h).elim (tbF_in w) (tbX_in w))
theorem gd_c {w : Cond} (h : w ∈ tb) : GoodIn tb (w :: tb) := fun v hv => (List.mem_cons.mp hv).elim (fun e => by rw [e]; exact tb_good _ h) (tb_good v)
theorem gd_V {own C : String} {idx : Nat} {y : MethodName} {w : Cond} (h1 : Cond.methodLink own idx y ∈ tb) (h2 : Cond.instanceMethod y ∈ tb) (h3 : Cond.selects C y y ∈ tb) (h4 : Cond.initialized C ∈ tb) (h5 : w ∈ tb) : GoodIn tb (wsV own idx C y (w :: tb)) := by
  intro v hv
  unfold wsV at hv
  rcases List.mem_append.mp hv with h | h
  · simp only [List.mem_cons, List.not_mem_nil, or_false] at h
    rcases h with rfl | rfl | rfl | rfl
    · exact tb_good _ h1
    · exact tb_good _ h2
    · exact tb_good _ h3
    · exact tb_good _ h4
  · exact gd_c h5 v h
theorem gd_S {own : String} {idx : Nat} {y : MethodName} {w : Cond} (h1 : Cond.methodLink own idx y ∈ tb) (h2 : Cond.static y ∈ tb) (h3 : Cond.initialized y.cls ∈ tb) (h5 : w ∈ tb) : GoodIn tb (va_wsS own idx y (w :: tb)) := by
  intro v hv
  unfold va_wsS at hv
  rcases List.mem_append.mp hv with h | h
  · simp only [List.mem_cons, List.not_mem_nil, or_false] at h
    rcases h with rfl | rfl | rfl
    · exact tb_good _ h1
    · exact tb_good _ h2
    · exact tb_good _ h3
  · exact gd_c h5 v h
def wm_X12_init : List Cond := .code yX12_init cX12_init 2 none :: tb
def wm_X12_declare : List Cond := .code yX12_declare cX12_declare 3 (some .boolean) :: tb
def wm_X12_constructor : List Cond := .code yX12_constructor cX12_constructor 6 (some .boolean) :: tb
def wm_X12_setter : List Cond := .code yX12_setter cX12_setter 4 (some .boolean) :: tb
def wm_X12_factory : List Cond := .code yX12_factory cX12_factory 9 (some .boolean) :: tb
def wm_X12_type : List Cond := .code yX12_type cX12_type 7 (some .int) :: tb
def wm_X12_read : List Cond := .code yX12_read cX12_read 1 (some .int) :: tb
def wm_X12_fault : List Cond := .code yX12_fault cX12_fault 2 (some .int) :: tb
def wm_X12_refresh : List Cond := .code yX12_refresh cX12_refresh 1 (some .int) :: tb
def wm_X12_get : List Cond := .code yX12_get cX12_get 4 (some .int) :: tb
def wm_X12_call : List Cond := .code yX12_call cX12_call 5 (some .int) :: tb
def wm_X12_close : List Cond := .code yX12_close cX12_close 1 (some .int) :: tb
def wm_X12_events : List Cond := .code yX12_events cX12_events 1 (some .int) :: tb
def wm_X12_event : List Cond := .code yX12_event cX12_event 3 (some .int) :: tb
def wm_X12_object : List Cond := .code yX12_object cX12_object 3 (some .int) :: tb
def wm_X12_bean : List Cond := .code yX12_bean cX12_bean 3 (some .int) :: tb
def wm_X12_isClass : List Cond := .code yX12_isClass cX12_isClass 1 (some .boolean) :: tb
def wm_X12_isLetter : List Cond := .code yX12_isLetter cX12_isLetter 1 (some .boolean) :: tb
def wm_X12_isType : List Cond := .code yX12_isType cX12_isType 1 (some .boolean) :: tb
def wm_X12_areTypes : List Cond := .code yX12_areTypes cX12_areTypes 4 (some .boolean) :: tb
def wm_X12_typedBehind : List Cond := .code yX12_typedBehind cX12_typedBehind 6 (some .int) :: tb
def wm_X8_init : List Cond := .code yX8_init cX8_init 3 none :: tb
def wm_X8_describe : List Cond := .code yX8_describe cX8_describe 4 none :: tb
def wm_X8_setTypes : List Cond := .code yX8_setTypes cX8_setTypes 5 none :: tb
def wm_X2_init : List Cond := .code yX2_init cX2_init 3 none :: tb
def wm_X2_begin : List Cond := .code yX2_begin cX2_begin 3 none :: tb
def wm_X2_addConstructor : List Cond := .code yX2_addConstructor cX2_addConstructor 5 (some .boolean) :: tb
def wm_X2_addFactory : List Cond := .code yX2_addFactory cX2_addFactory 8 (some .boolean) :: tb
def wm_X2_addSetter : List Cond := .code yX2_addSetter cX2_addSetter 3 (some .boolean) :: tb
def wm_X3_init : List Cond := .code yX3_init cX3_init 1 none :: tb
def wm_X6_init : List Cond := .code yX6_init cX6_init 3 none :: tb
def wm_X6_clear : List Cond := .code yX6_clear cX6_clear 1 none :: tb
def wm_X7_init : List Cond := .code yX7_init cX7_init 2 none :: tb
def wm_X7_firstWrongPlace : List Cond := .codeWith yX7_firstWrongPlace cX7_firstWrongPlace 4 (some .int) [(32, 75, 78, 50)] :: tb
def wm_X7_skipAround : List Cond := .code yX7_skipAround cX7_skipAround 2 none :: tb
def wm_X7_skipsWhite : List Cond := .code yX7_skipsWhite cX7_skipsWhite 2 (some .boolean) :: tb
def wm_X7_openElement : List Cond := .code yX7_openElement cX7_openElement 5 none :: tb
def wm_X7_expect : List Cond := .code yX7_expect cX7_expect 2 none :: tb
def wm_X9_init : List Cond := .code yX9_init cX9_init 2 none :: tb
def wm_X1_init : List Cond := .code yX1_init cX1_init 2 none :: tb
def wm_X10_init : List Cond := .code yX10_init cX10_init 3 none :: tb
def wm_X10_count : List Cond := .code yX10_count cX10_count 1 (some .int) :: tb
def wm_X10_forgetBeans : List Cond := .code yX10_forgetBeans cX10_forgetBeans 1 none :: tb
def wm_X4_init : List Cond := .code yX4_init cX4_init 1 none :: tb
def wm_X4_clear : List Cond := .code yX4_clear cX4_clear 1 none :: tb
def wm_X4_count : List Cond := .code yX4_count cX4_count 1 (some .int) :: tb
def wm_X4_number : List Cond := .code yX4_number cX4_number 3 (some .int) :: tb
def wm_X5_init : List Cond := .code yX5_init cX5_init 4 none :: tb
def wm_X5_startAfresh : List Cond := .code yX5_startAfresh cX5_startAfresh 1 none :: tb
def wm_X5_forgetMade : List Cond := .code yX5_forgetMade cX5_forgetMade 2 none :: tb
def wm_X5_forgetFailure : List Cond := .code yX5_forgetFailure cX5_forgetFailure 1 none :: tb
def wm_X5_failure : List Cond := .code yX5_failure cX5_failure 1 (some .int) :: tb
def wm_X5_failureBean : List Cond := .code yX5_failureBean cX5_failureBean 1 (some .int) :: tb
def wm_X5_destroyAll : List Cond := .code yX5_destroyAll cX5_destroyAll 2 none :: tb
def wm_X5_classOfObject : List Cond := .code yX5_classOfObject cX5_classOfObject 2 (some .int) :: tb
def wm_X5_beanOfObject : List Cond := .code yX5_beanOfObject cX5_beanOfObject 2 (some .int) :: tb
def wm_X5_isObject : List Cond := .code yX5_isObject cX5_isObject 2 (some .boolean) :: tb
def wm_Jx4a65c_init_da8c8 : List Cond := .code yJx4a65c_init_da8c8 cJx4a65c_init_da8c8 1 none :: tb
def wm_Jxc12de_init_da8c8 : List Cond := .code yJxc12de_init_da8c8 cJxc12de_init_da8c8 1 none :: tb
def wm_Jxa1e45_init_da8c8 : List Cond := .code yJxa1e45_init_da8c8 cJxa1e45_init_da8c8 1 none :: tb
def wm_X13_init : List Cond := .code yX13_init cX13_init 2 none :: tb
def wm_X13_thrown : List Cond := .code yX13_thrown cX13_thrown 1 (some .int) :: tb
def wm_X13_isClass : List Cond := .code yX13_isClass cX13_isClass 1 (some .boolean) :: tb
def wm_X13_isType : List Cond := .code yX13_isType cX13_isType 1 (some .boolean) :: tb
def wm_X13_areTypes : List Cond := .code yX13_areTypes cX13_areTypes 4 (some .boolean) :: tb
def wm_X13_isLetter : List Cond := .code yX13_isLetter cX13_isLetter 1 (some .boolean) :: tb
def wm_X13_declare : List Cond := .code yX13_declare cX13_declare 3 (some .boolean) :: tb
def wm_X13_constructor : List Cond := .code yX13_constructor cX13_constructor 7 (some .boolean) :: tb
def wm_X13_setter : List Cond := .code yX13_setter cX13_setter 5 (some .boolean) :: tb
def wm_X13_factory : List Cond := .code yX13_factory cX13_factory 10 (some .boolean) :: tb
def wm_X13_type : List Cond := .code yX13_type cX13_type 10 (some .int) :: tb
def wm_X13_bad : List Cond := .code yX13_bad cX13_bad 2 none :: tb
def wm_X13_here : List Cond := .code yX13_here cX13_here 2 (some .int) :: tb
def wm_X13_isWhite : List Cond := .code yX13_isWhite cX13_isWhite 2 (some .boolean) :: tb
def wm_X13_white : List Cond := .code yX13_white cX13_white 2 (some .int) :: tb
def wm_X13_between : List Cond := .code yX13_between cX13_between 2 none :: tb
def wm_X13_begin : List Cond := .code yX13_begin cX13_begin 6 (some .int) :: tb
def wm_X13_readDocument : List Cond := .code yX13_readDocument cX13_readDocument 5 none :: tb
def wm_X13_clear : List Cond := .code yX13_clear cX13_clear 2 none :: tb
def wm_X13_read : List Cond := .code yX13_read cX13_read 4 (some .int) :: tb
def wm_X13_fault : List Cond := .code yX13_fault cX13_fault 2 (some .int) :: tb
def wm_X13_refresh : List Cond := .code yX13_refresh cX13_refresh 4 (some .int) :: tb
def wm_X13_get : List Cond := .code yX13_get cX13_get 3 (some .int) :: tb
def wm_X13_call : List Cond := .code yX13_call cX13_call 7 (some .int) :: tb
def wm_X13_close : List Cond := .code yX13_close cX13_close 1 (some .int) :: tb
def wm_X13_events : List Cond := .code yX13_events cX13_events 1 (some .int) :: tb
def wm_X13_event : List Cond := .code yX13_event cX13_event 3 (some .int) :: tb
def wm_X13_object : List Cond := .code yX13_object cX13_object 3 (some .int) :: tb
def wm_X13_bean : List Cond := .code yX13_bean cX13_bean 4 (some .int) :: tb
def wm_L_read : List Cond := .codeWith yL_read cL_read 3 (some .int) [(0, 8, 11, 13)] :: tb
def wm_L_refresh : List Cond := .codeWith yL_refresh cL_refresh 3 (some .int) [(0, 8, 11, 18), (0, 8, 14, 20)] :: tb
def wm_L_get : List Cond := .codeWith yL_get cL_get 5 (some .int) [(0, 9, 12, 18), (0, 9, 16, 20)] :: tb
def wm_L_call : List Cond := .codeWith yL_call cL_call 5 (some .int) [(0, 10, 13, 18), (0, 10, 17, 30), (0, 10, 21, 20)] :: tb
def GE (A : Nat → Prop) (U : State) : Prop := (va_AO "WiredBeans$DeclaredClass" U ∧ va_AO "WiredBeans$Signature" U ∧ va_AO "WiredBeans$Element" U ∧ va_AO "WiredBeans$Bean" U) ∧ (va_Nw (.castable "java/lang/IllegalArgumentException" "java/lang/IllegalArgumentException") U ∧ va_Nw (.castable "java/lang/IllegalStateException" "java/lang/IllegalStateException") U ∧ va_Nw (.declares ⟨"java/lang/RuntimeException", "<init>", "()V"⟩) U ∧ va_Nw (.declares ⟨"java/lang/Exception", "<init>", "()V"⟩) U ∧ va_Nw (.declares ⟨"java/lang/Throwable", "<init>", "()V"⟩) U) ∧ va_Zq "java/util/ArrayList" "DEFAULTCAPACITY_EMPTY_ELEMENTDATA" "[Ljava/lang/Object;" A U U.heap ∧ vx_Zq Bundle.tN "UNASSIGNED_STACK" Bundle.steD A U U.heap ∧ vx_Zq Bundle.tN "SUPPRESSED_SENTINEL" Bundle.listD A U U.heap
theorem GE.go {A B : Nat → Prop} {s U : State} {H : Heap} {locs : List Loc} (h : GE A s) (hS : va_S A s.heap H locs) (hB : ∀ q, B q → A q) (hU : U.heap = H) (hW : s.WarmedH U.vm) : GE B U := by
  obtain ⟨⟨a1, a2, a3, a4⟩, ⟨b1, b2, b3, b4, b5⟩, z1, z2, z3⟩ := h
  refine ⟨⟨va_AO.moved hW.alike a1, va_AO.moved hW.alike a2, va_AO.moved hW.alike a3, va_AO.moved hW.alike a4⟩, ⟨va_Nw.warmC hW b1, va_Nw.warmC hW b2, va_Nw.warmD hW b3, va_Nw.warmD hW b4, va_Nw.warmD hW b5⟩, ?_, ?_, ?_⟩
  · rw [hU]; exact (va_Zq.moved hW.alike (va_Zq.kept z1 hS.2.1)).narrow hB
  · rw [hU]; exact (vx_Zq.moved hW.alike (vx_Zq.kept z2 hS.2.1)).narrow hB
  · rw [hU]; exact (vx_Zq.moved hW.alike (vx_Zq.kept z3 hS.2.1)).narrow hB
theorem GE.call {A : Nat → Prop} {U : State} (g : JFrame) (mk : MethodId) (a : Array Value) (h : GE A U) : GE A (U.calling g mk a) := GE.go (U := U.calling g mk a) h (va_S.rf (H0 := U.heap)) (fun _ h => h) rfl (State.WarmedH.refl U)
