def n0 : String := "CliffCars$ClauseReader"
def T0 : u_T := fun k => match k with
  | 0 => ("CliffCars$ClauseReader", "bytes", "[I", true)
  | 1 => ("CliffCars$ClauseReader", "length", "I", true)
  | 2 => ("CliffCars$ClauseReader", "at", "I", false)
  | _ => ("CliffCars$ClauseReader", "fault", "I", false)
def ty0 : Nat → FieldType := fun k => match k with
  | 0 => .array .int
  | 1 => .int
  | 2 => .int
  | _ => .int
theorem nm0 : ∀ a, a < 4 → ∀ b, b < 4 → a ≠ b → (T0 a).2.1 ≠ (T0 b).2.1 := by decide +kernel
theorem tyok0 : ∀ k, k < 4 → parseFieldDescriptor (T0 k).2.2.1 = some (ty0 k) := by decide +kernel
def n1 : String := "CliffCars$Cliff"
def T1 : u_T := fun k => match k with
  | 0 => ("CliffCars$Cliff", "parts", "[I", true)
  | 1 => ("CliffCars$Cliff", "partCount", "I", false)
  | 2 => ("CliffCars$Cliff", "rope", "I", false)
  | 3 => ("CliffCars$Cliff", "head", "I", false)
  | 4 => ("CliffCars$Cliff", "brake", "I", false)
  | 5 => ("CliffCars$Cliff", "tank", "I", false)
  | 6 => ("CliffCars$Cliff", "seats", "I", false)
  | 7 => ("CliffCars$Cliff", "pondMost", "I", false)
  | 8 => ("CliffCars$Cliff", "drags", "[I", true)
  | _ => ("CliffCars$Cliff", "springs", "[I", true)
def ty1 : Nat → FieldType := fun k => match k with
  | 0 => .array .int
  | 1 => .int
  | 2 => .int
  | 3 => .int
  | 4 => .int
  | 5 => .int
  | 6 => .int
  | 7 => .int
  | 8 => .array .int
  | _ => .array .int
theorem nm1 : ∀ a, a < 10 → ∀ b, b < 10 → a ≠ b → (T1 a).2.1 ≠ (T1 b).2.1 := by decide +kernel
theorem tyok1 : ∀ k, k < 10 → parseFieldDescriptor (T1 k).2.2.1 = some (ty1 k) := by decide +kernel
def n2 : String := "CliffCars$Day"
def T2 : u_T := fun k => match k with
  | 0 => ("CliffCars$Day", "terms", "LCliffCars$Terms;", true)
  | 1 => ("CliffCars$Day", "plan", "LCliffCars$Plan;", true)
  | 2 => ("CliffCars$Day", "step", "I", false)
  | 3 => ("CliffCars$Day", "pond", "I", false)
  | 4 => ("CliffCars$Day", "above", "I", false)
  | 5 => ("CliffCars$Day", "below", "I", false)
  | 6 => ("CliffCars$Day", "down", "I", false)
  | 7 => ("CliffCars$Day", "up", "I", false)
  | 8 => ("CliffCars$Day", "least", "I", false)
  | 9 => ("CliffCars$Day", "ups", "I", false)
  | 10 => ("CliffCars$Day", "downs", "I", false)
  | 11 => ("CliffCars$Day", "waited", "I", false)
  | 12 => ("CliffCars$Day", "lost", "I", false)
  | 13 => ("CliffCars$Day", "trips", "I", false)
  | _ => ("CliffCars$Day", "pintsOf", "[I", true)
def ty2 : Nat → FieldType := fun k => match k with
  | 0 => .object "CliffCars$Terms"
  | 1 => .object "CliffCars$Plan"
  | 2 => .int
  | 3 => .int
  | 4 => .int
  | 5 => .int
  | 6 => .int
  | 7 => .int
  | 8 => .int
  | 9 => .int
  | 10 => .int
  | 11 => .int
  | 12 => .int
  | 13 => .int
  | _ => .array .int
theorem nm2 : ∀ a, a < 15 → ∀ b, b < 15 → a ≠ b → (T2 a).2.1 ≠ (T2 b).2.1 := by decide +kernel
theorem tyok2 : ∀ k, k < 15 → parseFieldDescriptor (T2 k).2.2.1 = some (ty2 k) := by decide +kernel
def n3 : String := "CliffCars$Plan"
def T3 : u_T := fun k => match k with
  | 0 => ("CliffCars$Plan", "terms", "LCliffCars$Terms;", true)
  | 1 => ("CliffCars$Plan", "spare", "I", false)
  | 2 => ("CliffCars$Plan", "edition", "J", false)
  | _ => ("CliffCars$Plan", "known", "[J", true)
def ty3 : Nat → FieldType := fun k => match k with
  | 0 => .object "CliffCars$Terms"
  | 1 => .int
  | 2 => .long
  | _ => .array .long
theorem nm3 : ∀ a, a < 4 → ∀ b, b < 4 → a ≠ b → (T3 a).2.1 ≠ (T3 b).2.1 := by decide +kernel
theorem tyok3 : ∀ k, k < 4 → parseFieldDescriptor (T3 k).2.2.1 = some (ty3 k) := by decide +kernel
def n4 : String := "CliffCars$Rule"
def T4 : u_T := fun k => match k with
  | 0 => ("CliffCars$Rule", "kind", "I", true)
  | 1 => ("CliffCars$Rule", "v", "I", true)
  | 2 => ("CliffCars$Rule", "number", "I", true)
  | 3 => ("CliffCars$Rule", "row", "[I", true)
  | _ => ("CliffCars$Rule", "heard", "I", false)
def ty4 : Nat → FieldType := fun k => match k with
  | 0 => .int
  | 1 => .int
  | 2 => .int
  | 3 => .array .int
  | _ => .int
theorem nm4 : ∀ a, a < 5 → ∀ b, b < 5 → a ≠ b → (T4 a).2.1 ≠ (T4 b).2.1 := by decide +kernel
theorem tyok4 : ∀ k, k < 5 → parseFieldDescriptor (T4 k).2.2.1 = some (ty4 k) := by decide +kernel
def n5 : String := "CliffCars$Setting"
def T5 : u_T := fun k => match k with
  | 0 => ("CliffCars$Setting", "comings", "[I", true)
  | 1 => ("CliffCars$Setting", "isWet", "Z", false)
  | 2 => ("CliffCars$Setting", "pints", "I", false)
  | 3 => ("CliffCars$Setting", "cliffNumber", "I", false)
  | 4 => ("CliffCars$Setting", "sorts", "[I", true)
  | 5 => ("CliffCars$Setting", "sizes", "[I", true)
  | 6 => ("CliffCars$Setting", "prices", "[I", true)
  | _ => ("CliffCars$Setting", "offers", "I", false)
def ty5 : Nat → FieldType := fun k => match k with
  | 0 => .array .int
  | 1 => .boolean
  | 2 => .int
  | 3 => .int
  | 4 => .array .int
  | 5 => .array .int
  | 6 => .array .int
  | _ => .int
theorem nm5 : ∀ a, a < 8 → ∀ b, b < 8 → a ≠ b → (T5 a).2.1 ≠ (T5 b).2.1 := by decide +kernel
theorem tyok5 : ∀ k, k < 8 → parseFieldDescriptor (T5 k).2.2.1 = some (ty5 k) := by decide +kernel
def n6 : String := "CliffCars$Tape"
def T6 : u_T := fun k => match k with
  | 0 => ("CliffCars$Tape", "sort", "I", false)
  | 1 => ("CliffCars$Tape", "size", "I", false)
  | _ => ("CliffCars$Tape", "items", "[J", true)
def ty6 : Nat → FieldType := fun k => match k with
  | 0 => .int
  | 1 => .int
  | _ => .array .long
theorem nm6 : ∀ a, a < 3 → ∀ b, b < 3 → a ≠ b → (T6 a).2.1 ≠ (T6 b).2.1 := by decide +kernel
theorem tyok6 : ∀ k, k < 3 → parseFieldDescriptor (T6 k).2.2.1 = some (ty6 k) := by decide +kernel
def n7 : String := "CliffCars$Terms"
def T7 : u_T := fun k => match k with
  | 0 => ("CliffCars$Terms", "cliff", "LCliffCars$Cliff;", false)
  | 1 => ("CliffCars$Terms", "firstMoment", "I", false)
  | 2 => ("CliffCars$Terms", "comings", "[I", true)
  | 3 => ("CliffCars$Terms", "tank", "I", false)
  | 4 => ("CliffCars$Terms", "seats", "I", false)
  | 5 => ("CliffCars$Terms", "pondMost", "I", false)
  | _ => ("CliffCars$Terms", "moreSpring", "I", false)
def ty7 : Nat → FieldType := fun k => match k with
  | 0 => .object "CliffCars$Cliff"
  | 1 => .int
  | 2 => .array .int
  | 3 => .int
  | 4 => .int
  | 5 => .int
  | _ => .int
theorem nm7 : ∀ a, a < 7 → ∀ b, b < 7 → a ≠ b → (T7 a).2.1 ≠ (T7 b).2.1 := by decide +kernel
theorem tyok7 : ∀ k, k < 7 → parseFieldDescriptor (T7 k).2.2.1 = some (ty7 k) := by decide +kernel
def n8 : String := "CliffCars$Trace"
def T8 : u_T := fun k => match k with
  | 0 => ("CliffCars$Trace", "bodies", "[I", true)
  | _ => ("CliffCars$Trace", "ran", "I", false)
def ty8 : Nat → FieldType := fun k => match k with
  | 0 => .array .int
  | _ => .int
theorem nm8 : ∀ a, a < 2 → ∀ b, b < 2 → a ≠ b → (T8 a).2.1 ≠ (T8 b).2.1 := by decide +kernel
theorem tyok8 : ∀ k, k < 2 → parseFieldDescriptor (T8 k).2.2.1 = some (ty8 k) := by decide +kernel
def n9 : String := "CliffCars"
def T9 : u_T := fun k => match k with
  | 0 => ("CliffCars", "text", "[I", true)
  | 1 => ("CliffCars", "textLength", "I", false)
  | 2 => ("CliffCars", "cliffs", "[LCliffCars$Cliff;", true)
  | 3 => ("CliffCars", "cliffCount", "I", false)
  | 4 => ("CliffCars", "rules", "[LCliffCars$Rule;", true)
  | 5 => ("CliffCars", "ruleCount", "I", false)
  | 6 => ("CliffCars", "now", "LCliffCars$Setting;", true)
  | 7 => ("CliffCars", "kept", "LCliffCars$Setting;", true)
  | 8 => ("CliffCars", "hasImage", "Z", false)
  | 9 => ("CliffCars", "tapes", "[LCliffCars$Tape;", true)
  | 10 => ("CliffCars", "latest", "LCliffCars$Trace;", true)
  | 11 => ("CliffCars", "best", "LCliffCars$Rule;", true)
  | 12 => ("CliffCars", "terms", "LCliffCars$Terms;", true)
  | 13 => ("CliffCars", "plan", "LCliffCars$Plan;", true)
  | _ => ("CliffCars", "run", "LCliffCars$Day;", true)
def ty9 : Nat → FieldType := fun k => match k with
  | 0 => .array .int
  | 1 => .int
  | 2 => .array (.object "CliffCars$Cliff")
  | 3 => .int
  | 4 => .array (.object "CliffCars$Rule")
  | 5 => .int
  | 6 => .object "CliffCars$Setting"
  | 7 => .object "CliffCars$Setting"
  | 8 => .boolean
  | 9 => .array (.object "CliffCars$Tape")
  | 10 => .object "CliffCars$Trace"
  | 11 => .object "CliffCars$Rule"
  | 12 => .object "CliffCars$Terms"
  | 13 => .object "CliffCars$Plan"
  | _ => .object "CliffCars$Day"
theorem nm9 : ∀ a, a < 15 → ∀ b, b < 15 → a ≠ b → (T9 a).2.1 ≠ (T9 b).2.1 := by decide +kernel
theorem tyok9 : ∀ k, k < 15 → parseFieldDescriptor (T9 k).2.2.1 = some (ty9 k) := by decide +kernel
def n10 : String := "CliffCarsModel"
def T10 : u_T := fun k => match k with
  | 0 => ("CliffCarsModel", "cliffs", "I", false)
  | 1 => ("CliffCarsModel", "the", "I", false)
  | 2 => ("CliffCarsModel", "fed", "I", false)
  | 3 => ("CliffCarsModel", "at", "I", false)
  | 4 => ("CliffCarsModel", "digits", "I", false)
  | 5 => ("CliffCarsModel", "text", "[I", true)
  | 6 => ("CliffCarsModel", "clauses", "[I", true)
  | 7 => ("CliffCarsModel", "word", "[I", true)
  | 8 => ("CliffCarsModel", "number", "[I", true)
  | 9 => ("CliffCarsModel", "from", "[I", true)
  | 10 => ("CliffCarsModel", "to", "[I", true)
  | 11 => ("CliffCarsModel", "last", "[I", true)
  | 12 => ("CliffCarsModel", "partsOf", "[I", true)
  | 13 => ("CliffCarsModel", "part", "[I", true)
  | 14 => ("CliffCarsModel", "sign", "[I", true)
  | 15 => ("CliffCarsModel", "waits0", "[I", true)
  | 16 => ("CliffCarsModel", "signs", "I", false)
  | 17 => ("CliffCarsModel", "waiting", "I", false)
  | 18 => ("CliffCarsModel", "open", "I", false)
  | 19 => ("CliffCarsModel", "pile", "[Z", true)
  | 20 => ("CliffCarsModel", "isWet", "Z", false)
  | 21 => ("CliffCarsModel", "first", "I", false)
  | 22 => ("CliffCarsModel", "comes", "[I", true)
  | 23 => ("CliffCarsModel", "rules", "I", false)
  | 24 => ("CliffCarsModel", "kind", "[I", true)
  | 25 => ("CliffCarsModel", "v", "[I", true)
  | 26 => ("CliffCarsModel", "rowMany", "[I", true)
  | 27 => ("CliffCarsModel", "row", "[I", true)
  | 28 => ("CliffCarsModel", "tank", "I", false)
  | 29 => ("CliffCarsModel", "seats", "I", false)
  | 30 => ("CliffCarsModel", "most", "I", false)
  | 31 => ("CliffCarsModel", "times", "I", false)
  | 32 => ("CliffCarsModel", "springs", "[I", true)
  | 33 => ("CliffCarsModel", "least", "[I", true)
  | 34 => ("CliffCarsModel", "now", "I", false)
  | 35 => ("CliffCarsModel", "lost", "I", false)
  | 36 => ("CliffCarsModel", "down", "I", false)
  | 37 => ("CliffCarsModel", "up", "I", false)
  | 38 => ("CliffCarsModel", "water", "I", false)
  | 39 => ("CliffCarsModel", "marked", "[Z", true)
  | 40 => ("CliffCarsModel", "worth", "[I", true)
  | 41 => ("CliffCarsModel", "sumUp", "I", false)
  | 42 => ("CliffCarsModel", "sumDown", "I", false)
  | 43 => ("CliffCarsModel", "waited", "I", false)
  | 44 => ("CliffCarsModel", "sumLost", "I", false)
  | 45 => ("CliffCarsModel", "endState", "I", false)
  | 46 => ("CliffCarsModel", "trips", "I", false)
  | 47 => ("CliffCarsModel", "pints", "[I", true)
  | 48 => ("CliffCarsModel", "offers", "I", false)
  | 49 => ("CliffCarsModel", "sortOf", "[I", true)
  | 50 => ("CliffCarsModel", "sizeOf", "[I", true)
  | 51 => ("CliffCarsModel", "priceOf", "[I", true)
  | 52 => ("CliffCarsModel", "more", "[I", true)
  | 53 => ("CliffCarsModel", "hasImage", "Z", false)
  | 54 => ("CliffCarsModel", "imageWet", "Z", false)
  | 55 => ("CliffCarsModel", "imageThe", "I", false)
  | 56 => ("CliffCarsModel", "imageFirst", "I", false)
  | 57 => ("CliffCarsModel", "imageOffers", "I", false)
  | 58 => ("CliffCarsModel", "imageComes", "[I", true)
  | 59 => ("CliffCarsModel", "imageSort", "[I", true)
  | 60 => ("CliffCarsModel", "imageSize", "[I", true)
  | 61 => ("CliffCarsModel", "imagePrice", "[I", true)
  | 62 => ("CliffCarsModel", "ran", "I", false)
  | 63 => ("CliffCarsModel", "bodies", "[I", true)
  | 64 => ("CliffCarsModel", "sort", "[I", true)
  | 65 => ("CliffCarsModel", "length", "[I", true)
  | 66 => ("CliffCarsModel", "item", "[J", true)
  | _ => ("CliffCarsModel", "aside", "[J", true)
def ty10 : Nat → FieldType := fun k => match k with
  | 0 => .int
  | 1 => .int
  | 2 => .int
  | 3 => .int
  | 4 => .int
  | 5 => .array .int
  | 6 => .array .int
  | 7 => .array .int
  | 8 => .array .int
  | 9 => .array .int
  | 10 => .array .int
  | 11 => .array .int
  | 12 => .array .int
  | 13 => .array .int
  | 14 => .array .int
  | 15 => .array .int
  | 16 => .int
  | 17 => .int
  | 18 => .int
  | 19 => .array .boolean
  | 20 => .boolean
  | 21 => .int
  | 22 => .array .int
  | 23 => .int
  | 24 => .array .int
  | 25 => .array .int
  | 26 => .array .int
  | 27 => .array .int
  | 28 => .int
  | 29 => .int
  | 30 => .int
  | 31 => .int
  | 32 => .array .int
  | 33 => .array .int
  | 34 => .int
  | 35 => .int
  | 36 => .int
  | 37 => .int
  | 38 => .int
  | 39 => .array .boolean
  | 40 => .array .int
  | 41 => .int
  | 42 => .int
  | 43 => .int
  | 44 => .int
  | 45 => .int
  | 46 => .int
  | 47 => .array .int
  | 48 => .int
  | 49 => .array .int
  | 50 => .array .int
  | 51 => .array .int
  | 52 => .array .int
  | 53 => .boolean
  | 54 => .boolean
  | 55 => .int
  | 56 => .int
  | 57 => .int
  | 58 => .array .int
  | 59 => .array .int
  | 60 => .array .int
  | 61 => .array .int
  | 62 => .int
  | 63 => .array .int
  | 64 => .array .int
  | 65 => .array .int
  | 66 => .array .long
  | _ => .array .long
theorem nm10 : ∀ a, a < 68 → ∀ b, b < 68 → a ≠ b → (T10 a).2.1 ≠ (T10 b).2.1 := by decide +kernel
theorem tyok10 : ∀ k, k < 68 → parseFieldDescriptor (T10 k).2.2.1 = some (ty10 k) := by decide +kernel
abbrev vwCl : List vw_C := [(n0, T0, 4), (n1, T1, 10), (n2, T2, 15), (n3, T3, 4), (n4, T4, 5), (n5, T5, 8), (n6, T6, 3), (n7, T7, 7), (n8, T8, 2), (n9, T9, 15), (n10, T10, 68)]
def TT : List Cond := lw_tbl.filter goodWord
theorem tt {w : Cond} (h : w ∈ lw_tbl) (g : goodWord w = true) : w ∈ TT := List.mem_filter.mpr ⟨h, g⟩
theorem tt1 {w : Cond} (h : w ∈ tables_1) (g : goodWord w = true) : w ∈ TT := tt (List.mem_append_right _ h) g
theorem t1 {w : Cond} (i : Nat) (h : tables_1_1[i]? = some w) (g : goodWord w = true) : w ∈ TT := tt1 (List.mem_append_left _ (List.mem_of_getElem? h)) g
theorem q1 {w : Cond} (i : Nat) (h : tables_1_1[i]? = some w) : w ∈ tables_1 := List.mem_append_left _ (List.mem_of_getElem? h)
theorem t2 {w : Cond} (i : Nat) (h : tables_1_2[i]? = some w) (g : goodWord w = true) : w ∈ TT := tt1 (List.mem_append_right _ (List.mem_append_left _ (List.mem_of_getElem? h))) g
theorem q2 {w : Cond} (i : Nat) (h : tables_1_2[i]? = some w) : w ∈ tables_1 := List.mem_append_right _ (List.mem_append_left _ (List.mem_of_getElem? h))
theorem t3 {w : Cond} (i : Nat) (h : tables_1_3[i]? = some w) (g : goodWord w = true) : w ∈ TT := tt1 (List.mem_append_right _ (List.mem_append_right _ (List.mem_append_left _ (List.mem_of_getElem? h)))) g
theorem q3 {w : Cond} (i : Nat) (h : tables_1_3[i]? = some w) : w ∈ tables_1 := List.mem_append_right _ (List.mem_append_right _ (List.mem_append_left _ (List.mem_of_getElem? h)))
theorem t4 {w : Cond} (i : Nat) (h : tables_1_4[i]? = some w) (g : goodWord w = true) : w ∈ TT := tt1 (List.mem_append_right _ (List.mem_append_right _ (List.mem_append_right _ (List.mem_append_left _ (List.mem_of_getElem? h))))) g
theorem q4 {w : Cond} (i : Nat) (h : tables_1_4[i]? = some w) : w ∈ tables_1 := List.mem_append_right _ (List.mem_append_right _ (List.mem_append_right _ (List.mem_append_left _ (List.mem_of_getElem? h))))
theorem t5 {w : Cond} (i : Nat) (h : tables_1_5[i]? = some w) (g : goodWord w = true) : w ∈ TT := tt1 (List.mem_append_right _ (List.mem_append_right _ (List.mem_append_right _ (List.mem_append_right _ (List.mem_append_left _ (List.mem_of_getElem? h)))))) g
theorem q5 {w : Cond} (i : Nat) (h : tables_1_5[i]? = some w) : w ∈ tables_1 := List.mem_append_right _ (List.mem_append_right _ (List.mem_append_right _ (List.mem_append_right _ (List.mem_append_left _ (List.mem_of_getElem? h)))))
theorem t6 {w : Cond} (i : Nat) (h : tables_1_6[i]? = some w) (g : goodWord w = true) : w ∈ TT := tt1 (List.mem_append_right _ (List.mem_append_right _ (List.mem_append_right _ (List.mem_append_right _ (List.mem_append_right _ (List.mem_of_getElem? h)))))) g
theorem q6 {w : Cond} (i : Nat) (h : tables_1_6[i]? = some w) : w ∈ tables_1 := List.mem_append_right _ (List.mem_append_right _ (List.mem_append_right _ (List.mem_append_right _ (List.mem_append_right _ (List.mem_of_getElem? h)))))
theorem tp {y : MethodName} {n : Nat} (i : Nat) (h : lw_privs[i]? = some (y, n)) : Cond.selects y.cls y y ∈ TT := tt (List.mem_append_left _ (List.mem_map.mpr ⟨(y, n), List.mem_of_getElem? h, rfl⟩)) rfl
def isNestW : Cond → Bool
  | .fieldLinkNest .. => true
  | .methodLinkNest .. => true
  | _ => false
def NN : List Cond := tables_1.filter isNestW
theorem nn {w : Cond} (h : w ∈ tables_1) (g : isNestW w = true) : w ∈ NN := List.mem_filter.mpr ⟨h, g⟩
theorem tgood : GoodIn TT TT := fun w hw => ⟨hw, good_of_word (List.mem_filter.mp hw).2⟩
abbrev c9_init : ByteArray := prog_1_method_1_code
def y9_init : MethodName := ⟨"CliffCars", "<init>", "()V"⟩
abbrev c5_init : ByteArray := prog_7_method_1_code
def y5_init : MethodName := ⟨"CliffCars$Setting", "<init>", "()V"⟩
abbrev c8_init : ByteArray := prog_10_method_1_code
def y8_init : MethodName := ⟨"CliffCars$Trace", "<init>", "()V"⟩
abbrev c4_init : ByteArray := prog_6_method_1_code
def y4_init : MethodName := ⟨"CliffCars$Rule", "<init>", "(III)V"⟩
abbrev c7_init : ByteArray := prog_9_method_1_code
def y7_init : MethodName := ⟨"CliffCars$Terms", "<init>", "()V"⟩
abbrev c1_init : ByteArray := prog_3_method_1_code
def y1_init : MethodName := ⟨"CliffCars$Cliff", "<init>", "()V"⟩
abbrev c3_init : ByteArray := prog_5_method_1_code
def y3_init : MethodName := ⟨"CliffCars$Plan", "<init>", "(LCliffCars$Terms;)V"⟩
abbrev c2_init : ByteArray := prog_4_method_1_code
def y2_init : MethodName := ⟨"CliffCars$Day", "<init>", "(LCliffCars$Terms;LCliffCars$Plan;)V"⟩
abbrev c6_init : ByteArray := prog_8_method_1_code
def y6_init : MethodName := ⟨"CliffCars$Tape", "<init>", "()V"⟩
abbrev c9_feed : ByteArray := prog_1_method_2_code
def y9_feed : MethodName := ⟨"CliffCars", "feed", "(II)I"⟩
abbrev c9_cliff : ByteArray := prog_1_method_3_code
def y9_cliff : MethodName := ⟨"CliffCars", "cliff", "()I"⟩
abbrev c0_init : ByteArray := prog_2_method_1_code
def y0_init : MethodName := ⟨"CliffCars$ClauseReader", "<init>", "([II)V"⟩
abbrev cM_min : ByteArray := prog_13_method_69_code
def yM_min : MethodName := ⟨"java/lang/Math", "min", "(II)I"⟩
abbrev c0_clausesOf : ByteArray := prog_2_method_2_code
def y0_clausesOf : MethodName := ⟨"CliffCars$ClauseReader", "clausesOf", "(LCliffCars$Cliff;)I"⟩
abbrev c0_clause : ByteArray := prog_2_method_3_code
def y0_clause : MethodName := ⟨"CliffCars$ClauseReader", "clause", "(LCliffCars$Cliff;)V"⟩
abbrev c0_word : ByteArray := prog_2_method_4_code
def y0_word : MethodName := ⟨"CliffCars$ClauseReader", "word", "()I"⟩
abbrev c0_wordOf : ByteArray := prog_2_method_5_code
def y0_wordOf : MethodName := ⟨"CliffCars$ClauseReader", "wordOf", "(I)Ljava/lang/String;"⟩
abbrev cS_length : ByteArray := prog_14_method_54_code
def yS_length : MethodName := ⟨"java/lang/String", "length", "()I"⟩
abbrev cS_coder : ByteArray := prog_14_method_152_code
def yS_coder : MethodName := ⟨"java/lang/String", "coder", "()B"⟩
abbrev cS_charAt : ByteArray := prog_14_method_56_code
def yS_charAt : MethodName := ⟨"java/lang/String", "charAt", "(I)C"⟩
abbrev cS_isLatin1 : ByteArray := prog_14_method_154_code
def yS_isLatin1 : MethodName := ⟨"java/lang/String", "isLatin1", "()Z"⟩
abbrev cS1_charAt : ByteArray := prog_15_method_2_code
def yS1_charAt : MethodName := ⟨"java/lang/StringLatin1", "charAt", "([BI)C"⟩
abbrev cS_checkIndex : ByteArray := prog_14_method_155_code
def yS_checkIndex : MethodName := ⟨"java/lang/String", "checkIndex", "(II)V"⟩
abbrev cP_checkIndex : ByteArray := prog_18_method_11_code
def yP_checkIndex : MethodName := ⟨"jdk/internal/util/Preconditions", "checkIndex", "(IILjava/util/function/BiFunction;)I"⟩
abbrev cS2_charAt : ByteArray := prog_16_method_83_code
def yS2_charAt : MethodName := ⟨"java/lang/StringUTF16", "charAt", "([BI)C"⟩
abbrev cS2_checkIndex : ByteArray := prog_16_method_91_code
def yS2_checkIndex : MethodName := ⟨"java/lang/StringUTF16", "checkIndex", "(I[B)V"⟩
abbrev cS2_length : ByteArray := prog_16_method_6_code
def yS2_length : MethodName := ⟨"java/lang/StringUTF16", "length", "([B)I"⟩
abbrev cS2_getChar : ByteArray := prog_16_method_5_code
def yS2_getChar : MethodName := ⟨"java/lang/StringUTF16", "getChar", "([BI)C"⟩
abbrev cM_max : ByteArray := prog_13_method_65_code
def yM_max : MethodName := ⟨"java/lang/Math", "max", "(II)I"⟩
abbrev c0_fail : ByteArray := prog_2_method_13_code
def y0_fail : MethodName := ⟨"CliffCars$ClauseReader", "fail", "()V"⟩
abbrev c0_takeOneOf : ByteArray := prog_2_method_11_code
def y0_takeOneOf : MethodName := ⟨"CliffCars$ClauseReader", "takeOneOf", "(III)I"⟩
abbrev c0_peek : ByteArray := prog_2_method_12_code
def y0_peek : MethodName := ⟨"CliffCars$ClauseReader", "peek", "()I"⟩
abbrev c0_number : ByteArray := prog_2_method_10_code
def y0_number : MethodName := ⟨"CliffCars$ClauseReader", "number", "(I)I"⟩
abbrev c0_either : ByteArray := prog_2_method_6_code
def y0_either : MethodName := ⟨"CliffCars$ClauseReader", "either", "(I)I"⟩
abbrev c0_both : ByteArray := prog_2_method_7_code
def y0_both : MethodName := ⟨"CliffCars$ClauseReader", "both", "(I)I"⟩
abbrev c0_single : ByteArray := prog_2_method_8_code
def y0_single : MethodName := ⟨"CliffCars$ClauseReader", "single", "(I)I"⟩
abbrev c0_momentsWith : ByteArray := prog_2_method_9_code
def y0_momentsWith : MethodName := ⟨"CliffCars$ClauseReader", "momentsWith", "(III)I"⟩
abbrev c1_addIn : ByteArray := prog_3_method_4_code
def y1_addIn : MethodName := ⟨"CliffCars$Cliff", "addIn", "([III)V"⟩
abbrev c1_take : ByteArray := prog_3_method_3_code
def y1_take : MethodName := ⟨"CliffCars$Cliff", "take", "(II)V"⟩
abbrev c1_addPart : ByteArray := prog_3_method_2_code
def y1_addPart : MethodName := ⟨"CliffCars$Cliff", "addPart", "(I)V"⟩
abbrev c9_moveTo : ByteArray := prog_1_method_34_code
def y9_moveTo : MethodName := ⟨"CliffCars", "moveTo", "(ILCliffCars$Cliff;)V"⟩
abbrev c9_choose : ByteArray := prog_1_method_4_code
def y9_choose : MethodName := ⟨"CliffCars", "choose", "(I)I"⟩
abbrev c9_of : ByteArray := prog_1_method_5_code
def y9_of : MethodName := ⟨"CliffCars", "of", "(I)I"⟩
abbrev c9_theCliff : ByteArray := prog_1_method_33_code
def y9_theCliff : MethodName := ⟨"CliffCars", "theCliff", "()LCliffCars$Cliff;"⟩
abbrev c9_told : ByteArray := prog_1_method_6_code
def y9_told : MethodName := ⟨"CliffCars", "told", "(II)I"⟩
abbrev c9_isNoStep : ByteArray := prog_1_method_37_code
def y9_isNoStep : MethodName := ⟨"CliffCars", "isNoStep", "(I)Z"⟩
abbrev c5_momentOf : ByteArray := prog_7_method_3_code
def y5_momentOf : MethodName := ⟨"CliffCars$Setting", "momentOf", "(I)I"⟩
abbrev c9_pull : ByteArray := prog_1_method_7_code
def y9_pull : MethodName := ⟨"CliffCars", "pull", "(IIIII)J"⟩
abbrev c9_areNoHeads : ByteArray := prog_1_method_38_code
def y9_areNoHeads : MethodName := ⟨"CliffCars", "areNoHeads", "(I)Z"⟩
abbrev c9_areNoPints : ByteArray := prog_1_method_39_code
def y9_areNoPints : MethodName := ⟨"CliffCars", "areNoPints", "(I)Z"⟩
abbrev c1_pullAt : ByteArray := prog_3_method_5_code
def y1_pullAt : MethodName := ⟨"CliffCars$Cliff", "pullAt", "(III)I"⟩
abbrev c9_stops : ByteArray := prog_1_method_8_code
def y9_stops : MethodName := ⟨"CliffCars", "stops", "(IIII)I"⟩
abbrev c1_stopOf : ByteArray := prog_3_method_6_code
def y1_stopOf : MethodName := ⟨"CliffCars$Cliff", "stopOf", "(II)I"⟩
abbrev c9_least : ByteArray := prog_1_method_9_code
def y9_least : MethodName := ⟨"CliffCars", "least", "(III)I"⟩
abbrev c1_leastWater : ByteArray := prog_3_method_7_code
def y1_leastWater : MethodName := ⟨"CliffCars$Cliff", "leastWater", "(III)I"⟩
abbrev cM_floorDiv : ByteArray := prog_13_method_47_code
def yM_floorDiv : MethodName := ⟨"java/lang/Math", "floorDiv", "(II)I"⟩
abbrev c9_jump : ByteArray := prog_1_method_10_code
def y9_jump : MethodName := ⟨"CliffCars", "jump", "(III)I"⟩
abbrev c9_come : ByteArray := prog_1_method_11_code
def y9_come : MethodName := ⟨"CliffCars", "come", "(III)I"⟩
abbrev c9_wet : ByteArray := prog_1_method_12_code
def y9_wet : MethodName := ⟨"CliffCars", "wet", "(Z)I"⟩
abbrev c9_pond : ByteArray := prog_1_method_13_code
def y9_pond : MethodName := ⟨"CliffCars", "pond", "(I)I"⟩
abbrev c9_rule : ByteArray := prog_1_method_14_code
def y9_rule : MethodName := ⟨"CliffCars", "rule", "(II)I"⟩
abbrev c9_isNoKind : ByteArray := prog_1_method_41_code
def y9_isNoKind : MethodName := ⟨"CliffCars", "isNoKind", "(I)Z"⟩
abbrev c9_row : ByteArray := prog_1_method_15_code
def y9_row : MethodName := ⟨"CliffCars", "row", "(II)I"⟩
abbrev c9_ruleAt : ByteArray := prog_1_method_35_code
def y9_ruleAt : MethodName := ⟨"CliffCars", "ruleAt", "(I)LCliffCars$Rule;"⟩
abbrev c4_hear : ByteArray := prog_6_method_2_code
def y4_hear : MethodName := ⟨"CliffCars$Rule", "hear", "(I)Z"⟩
abbrev c9_day : ByteArray := prog_1_method_16_code
def y9_day : MethodName := ⟨"CliffCars", "day", "(II)I"⟩
abbrev c7_setTo : ByteArray := prog_9_method_2_code
def y7_setTo : MethodName := ⟨"CliffCars$Terms", "setTo", "(LCliffCars$Cliff;LCliffCars$Setting;)V"⟩
abbrev c2_leadBy : ByteArray := prog_4_method_2_code
def y2_leadBy : MethodName := ⟨"CliffCars$Day", "leadBy", "(LCliffCars$Rule;I)V"⟩
abbrev c4_leastLeft : ByteArray := prog_6_method_4_code
def y4_leastLeft : MethodName := ⟨"CliffCars$Rule", "leastLeft", "()I"⟩
abbrev c3_begin : ByteArray := prog_5_method_2_code
def y3_begin : MethodName := ⟨"CliffCars$Plan", "begin", "(I)V"⟩
abbrev c2_begin : ByteArray := prog_4_method_5_code
def y2_begin : MethodName := ⟨"CliffCars$Day", "begin", "(I)V"⟩
abbrev c2_open : ByteArray := prog_4_method_6_code
def y2_open : MethodName := ⟨"CliffCars$Day", "open", "(I)V"⟩
abbrev c7_pondWithSpring : ByteArray := prog_9_method_5_code
def y7_pondWithSpring : MethodName := ⟨"CliffCars$Terms", "pondWithSpring", "(II)I"⟩
abbrev c7_comingAbove : ByteArray := prog_9_method_6_code
def y7_comingAbove : MethodName := ⟨"CliffCars$Terms", "comingAbove", "(I)I"⟩
abbrev c7_comingBelow : ByteArray := prog_9_method_7_code
def y7_comingBelow : MethodName := ⟨"CliffCars$Terms", "comingBelow", "(I)I"⟩
abbrev c7_seated : ByteArray := prog_9_method_8_code
def y7_seated : MethodName := ⟨"CliffCars$Terms", "seated", "(I)I"⟩
abbrev c2_tripCanBe : ByteArray := prog_4_method_7_code
def y2_tripCanBe : MethodName := ⟨"CliffCars$Day", "tripCanBe", "()Z"⟩
abbrev c7_leastFor : ByteArray := prog_9_method_9_code
def y7_leastFor : MethodName := ⟨"CliffCars$Terms", "leastFor", "(III)I"⟩
abbrev c4_leads : ByteArray := prog_6_method_5_code
def y4_leads : MethodName := ⟨"CliffCars$Rule", "leads", "(LCliffCars$Day;)Z"⟩
abbrev c2_isLastStep : ByteArray := prog_4_method_11_code
def y2_isLastStep : MethodName := ⟨"CliffCars$Day", "isLastStep", "()Z"⟩
abbrev c3_worthOfTrip : ByteArray := prog_5_method_4_code
def y3_worthOfTrip : MethodName := ⟨"CliffCars$Plan", "worthOfTrip", "(LCliffCars$Plan;IIII)I"⟩
abbrev c3_worthFrom : ByteArray := prog_5_method_3_code
def y3_worthFrom : MethodName := ⟨"CliffCars$Plan", "worthFrom", "(LCliffCars$Plan;IIII)I"⟩
abbrev c3_waiting : ByteArray := prog_5_method_6_code
def y3_waiting : MethodName := ⟨"CliffCars$Plan", "waiting", "(I)I"⟩
abbrev c2_makeTrip : ByteArray := prog_4_method_9_code
def y2_makeTrip : MethodName := ⟨"CliffCars$Day", "makeTrip", "(I)V"⟩
abbrev c2_close : ByteArray := prog_4_method_10_code
def y2_close : MethodName := ⟨"CliffCars$Day", "close", "()V"⟩
abbrev c9_waits : ByteArray := prog_1_method_17_code
def y9_waits : MethodName := ⟨"CliffCars", "waits", "(IIIII)J"⟩
abbrev c9_isNoCrowd : ByteArray := prog_1_method_40_code
def y9_isNoCrowd : MethodName := ⟨"CliffCars", "isNoCrowd", "(I)Z"⟩
abbrev c3_gainOfTrip : ByteArray := prog_5_method_5_code
def y3_gainOfTrip : MethodName := ⟨"CliffCars$Plan", "gainOfTrip", "(IIII)I"⟩
abbrev c9_bell : ByteArray := prog_1_method_18_code
def y9_bell : MethodName := ⟨"CliffCars", "bell", "()I"⟩
abbrev c2_worth : ByteArray := prog_4_method_4_code
def y2_worth : MethodName := ⟨"CliffCars$Day", "worth", "()I"⟩
abbrev c9_whit : ByteArray := prog_1_method_19_code
def y9_whit : MethodName := ⟨"CliffCars", "whit", "()I"⟩
abbrev c7_crowdBelow : ByteArray := prog_9_method_3_code
def y7_crowdBelow : MethodName := ⟨"CliffCars$Terms", "crowdBelow", "(I)V"⟩
abbrev c9_offer : ByteArray := prog_1_method_20_code
def y9_offer : MethodName := ⟨"CliffCars", "offer", "(III)I"⟩
abbrev c9_buy : ByteArray := prog_1_method_21_code
def y9_buy : MethodName := ⟨"CliffCars", "buy", "(I)I"⟩
abbrev c5_priceOf : ByteArray := prog_7_method_4_code
def y5_priceOf : MethodName := ⟨"CliffCars$Setting", "priceOf", "(I)I"⟩
abbrev c9_worthWith : ByteArray := prog_1_method_36_code
def y9_worthWith : MethodName := ⟨"CliffCars", "worthWith", "(LCliffCars$Cliff;I)I"⟩
abbrev c7_add : ByteArray := prog_9_method_4_code
def y7_add : MethodName := ⟨"CliffCars$Terms", "add", "(II)V"⟩
abbrev c9_judge : ByteArray := prog_1_method_22_code
def y9_judge : MethodName := ⟨"CliffCars", "judge", "(II)I"⟩
abbrev c9_isNoTape : ByteArray := prog_1_method_42_code
def y9_isNoTape : MethodName := ⟨"CliffCars", "isNoTape", "(I)Z"⟩
abbrev c6_isEmpty : ByteArray := prog_8_method_2_code
def y6_isEmpty : MethodName := ⟨"CliffCars$Tape", "isEmpty", "()Z"⟩
abbrev c2_faultOf : ByteArray := prog_4_method_3_code
def y2_faultOf : MethodName := ⟨"CliffCars$Day", "faultOf", "(LCliffCars$Tape;II)I"⟩
abbrev c6_reaches : ByteArray := prog_8_method_4_code
def y6_reaches : MethodName := ⟨"CliffCars$Tape", "reaches", "(J)Z"⟩
abbrev c2_tripCanBeWith : ByteArray := prog_4_method_8_code
def y2_tripCanBeWith : MethodName := ⟨"CliffCars$Day", "tripCanBeWith", "(I)Z"⟩
abbrev c7_goesWith : ByteArray := prog_9_method_10_code
def y7_goesWith : MethodName := ⟨"CliffCars$Terms", "goesWith", "(IIII)Z"⟩
abbrev c9_image : ByteArray := prog_1_method_23_code
def y9_image : MethodName := ⟨"CliffCars", "image", "()I"⟩
abbrev c5_becomeLike : ByteArray := prog_7_method_2_code
def y5_becomeLike : MethodName := ⟨"CliffCars$Setting", "becomeLike", "(LCliffCars$Setting;)V"⟩
abbrev c9_undo : ByteArray := prog_1_method_24_code
def y9_undo : MethodName := ⟨"CliffCars", "undo", "()I"⟩
abbrev c9_act : ByteArray := prog_1_method_25_code
def y9_act : MethodName := ⟨"CliffCars", "act", "(III)I"⟩
abbrev c4_goes : ByteArray := prog_6_method_6_code
def y4_goes : MethodName := ⟨"CliffCars$Rule", "goes", "(LCliffCars$Rule;IILCliffCars$Trace;)I"⟩
abbrev c8_add : ByteArray := prog_10_method_2_code
def y8_add : MethodName := ⟨"CliffCars$Trace", "add", "(I)V"⟩
abbrev c4_holds : ByteArray := prog_6_method_7_code
def y4_holds : MethodName := ⟨"CliffCars$Rule", "holds", "(LCliffCars$Rule;IILCliffCars$Trace;)I"⟩
abbrev c4_tells : ByteArray := prog_6_method_8_code
def y4_tells : MethodName := ⟨"CliffCars$Rule", "tells", "(LCliffCars$Rule;IILCliffCars$Trace;)I"⟩
abbrev c9_trace : ByteArray := prog_1_method_26_code
def y9_trace : MethodName := ⟨"CliffCars", "trace", "(I)I"⟩
abbrev c9_taken : ByteArray := prog_1_method_27_code
def y9_taken : MethodName := ⟨"CliffCars", "taken", "(II)I"⟩
abbrev c4_isUnder : ByteArray := prog_6_method_3_code
def y4_isUnder : MethodName := ⟨"CliffCars$Rule", "isUnder", "(I)Z"⟩
abbrev c9_count : ByteArray := prog_1_method_28_code
def y9_count : MethodName := ⟨"CliffCars", "count", "(I)I"⟩
abbrev c9_tape : ByteArray := prog_1_method_29_code
def y9_tape : MethodName := ⟨"CliffCars", "tape", "(III)I"⟩
abbrev c6_hold : ByteArray := prog_8_method_3_code
def y6_hold : MethodName := ⟨"CliffCars$Tape", "hold", "(II)V"⟩
abbrev c9_item : ByteArray := prog_1_method_30_code
def y9_item : MethodName := ⟨"CliffCars", "item", "(IIJ)I"⟩
abbrev c6_lowestOf : ByteArray := prog_8_method_6_code
def y6_lowestOf : MethodName := ⟨"CliffCars$Tape", "lowestOf", "(J)J"⟩
abbrev c9_read : ByteArray := prog_1_method_31_code
def y9_read : MethodName := ⟨"CliffCars", "read", "(II)J"⟩
abbrev c9_shift : ByteArray := prog_1_method_32_code
def y9_shift : MethodName := ⟨"CliffCars", "shift", "(IIIII)I"⟩
abbrev c6_hasStretch : ByteArray := prog_8_method_5_code
def y6_hasStretch : MethodName := ⟨"CliffCars$Tape", "hasStretch", "(II)Z"⟩
abbrev c10_init : ByteArray := prog_12_method_1_code
def y10_init : MethodName := ⟨"CliffCarsModel", "<init>", "()V"⟩
abbrev c10_feed : ByteArray := prog_12_method_4_code
def y10_feed : MethodName := ⟨"CliffCarsModel", "feed", "(II)I"⟩
abbrev c10_in : ByteArray := prog_12_method_2_code
def y10_in : MethodName := ⟨"CliffCarsModel", "in", "(III)Z"⟩
abbrev c10_cliff : ByteArray := prog_12_method_21_code
def y10_cliff : MethodName := ⟨"CliffCarsModel", "cliff", "()I"⟩
abbrev c10_goesText : ByteArray := prog_12_method_18_code
def y10_goesText : MethodName := ⟨"CliffCarsModel", "goesText", "(I)Z"⟩
abbrev c10_takesClause : ByteArray := prog_12_method_17_code
def y10_takesClause : MethodName := ⟨"CliffCarsModel", "takesClause", "(I)Z"⟩
abbrev c10_takesHead : ByteArray := prog_12_method_16_code
def y10_takesHead : MethodName := ⟨"CliffCarsModel", "takesHead", "(I)Z"⟩
abbrev c10_second : ByteArray := prog_12_method_6_code
def y10_second : MethodName := ⟨"CliffCarsModel", "second", "()I"⟩
abbrev c10_next : ByteArray := prog_12_method_5_code
def y10_next : MethodName := ⟨"CliffCarsModel", "next", "()I"⟩
abbrev c10_takesWord : ByteArray := prog_12_method_8_code
def y10_takesWord : MethodName := ⟨"CliffCarsModel", "takesWord", "(II)Z"⟩
abbrev c10_takes : ByteArray := prog_12_method_7_code
def y10_takes : MethodName := ⟨"CliffCarsModel", "takes", "(I)Z"⟩
abbrev c10_takesNumber : ByteArray := prog_12_method_10_code
def y10_takesNumber : MethodName := ⟨"CliffCarsModel", "takesNumber", "(I)Z"⟩
abbrev c10_isDigit : ByteArray := prog_12_method_9_code
def y10_isDigit : MethodName := ⟨"CliffCarsModel", "isDigit", "()Z"⟩
abbrev c10_takesE : ByteArray := prog_12_method_15_code
def y10_takesE : MethodName := ⟨"CliffCarsModel", "takesE", "(I)Z"⟩
abbrev c10_takesTest : ByteArray := prog_12_method_14_code
def y10_takesTest : MethodName := ⟨"CliffCarsModel", "takesTest", "()Z"⟩
abbrev c10_put : ByteArray := prog_12_method_11_code
def y10_put : MethodName := ⟨"CliffCarsModel", "put", "(I)V"⟩
abbrev c10_whole : ByteArray := prog_12_method_12_code
def y10_whole : MethodName := ⟨"CliffCarsModel", "whole", "()V"⟩
abbrev c10_settle : ByteArray := prog_12_method_13_code
def y10_settle : MethodName := ⟨"CliffCarsModel", "settle", "(I)V"⟩
abbrev c10_settleCliff : ByteArray := prog_12_method_19_code
def y10_settleCliff : MethodName := ⟨"CliffCarsModel", "settleCliff", "(I)V"⟩
abbrev c10_min : ByteArray := prog_12_method_3_code
def y10_min : MethodName := ⟨"CliffCarsModel", "min", "(II)I"⟩
abbrev c10_lastOf : ByteArray := prog_12_method_20_code
def y10_lastOf : MethodName := ⟨"CliffCarsModel", "lastOf", "(I)I"⟩
abbrev c10_choose : ByteArray := prog_12_method_22_code
def y10_choose : MethodName := ⟨"CliffCarsModel", "choose", "(I)I"⟩
abbrev c10_of : ByteArray := prog_12_method_23_code
def y10_of : MethodName := ⟨"CliffCarsModel", "of", "(I)I"⟩
abbrev c10_told : ByteArray := prog_12_method_27_code
def y10_told : MethodName := ⟨"CliffCarsModel", "told", "(II)I"⟩
abbrev c10_isStep : ByteArray := prog_12_method_24_code
def y10_isStep : MethodName := ⟨"CliffCarsModel", "isStep", "(I)Z"⟩
abbrev c10_sum : ByteArray := prog_12_method_26_code
def y10_sum : MethodName := ⟨"CliffCarsModel", "sum", "(II)I"⟩
abbrev c10_holds : ByteArray := prog_12_method_25_code
def y10_holds : MethodName := ⟨"CliffCarsModel", "holds", "(II)Z"⟩
abbrev c10_pull : ByteArray := prog_12_method_32_code
def y10_pull : MethodName := ⟨"CliffCarsModel", "pull", "(IIIII)J"⟩
abbrev c10_isLoad : ByteArray := prog_12_method_31_code
def y10_isLoad : MethodName := ⟨"CliffCarsModel", "isLoad", "(II)Z"⟩
abbrev c10_pullOf : ByteArray := prog_12_method_28_code
def y10_pullOf : MethodName := ⟨"CliffCarsModel", "pullOf", "(IIIII)J"⟩
abbrev c10_stops : ByteArray := prog_12_method_33_code
def y10_stops : MethodName := ⟨"CliffCarsModel", "stops", "(IIII)I"⟩
abbrev c10_stopsBy : ByteArray := prog_12_method_29_code
def y10_stopsBy : MethodName := ⟨"CliffCarsModel", "stopsBy", "(IIII)I"⟩
abbrev c10_least : ByteArray := prog_12_method_34_code
def y10_least : MethodName := ⟨"CliffCarsModel", "least", "(III)I"⟩
abbrev c10_leastBy : ByteArray := prog_12_method_30_code
def y10_leastBy : MethodName := ⟨"CliffCarsModel", "leastBy", "(IIII)I"⟩
abbrev c10_jump : ByteArray := prog_12_method_35_code
def y10_jump : MethodName := ⟨"CliffCarsModel", "jump", "(III)I"⟩
abbrev c10_come : ByteArray := prog_12_method_36_code
def y10_come : MethodName := ⟨"CliffCarsModel", "come", "(III)I"⟩
abbrev c10_wet : ByteArray := prog_12_method_37_code
def y10_wet : MethodName := ⟨"CliffCarsModel", "wet", "(Z)I"⟩
abbrev c10_pond : ByteArray := prog_12_method_38_code
def y10_pond : MethodName := ⟨"CliffCarsModel", "pond", "(I)I"⟩
abbrev c10_rule : ByteArray := prog_12_method_40_code
def y10_rule : MethodName := ⟨"CliffCarsModel", "rule", "(II)I"⟩
abbrev c10_row : ByteArray := prog_12_method_41_code
def y10_row : MethodName := ⟨"CliffCarsModel", "row", "(II)I"⟩
abbrev c10_isRule : ByteArray := prog_12_method_39_code
def y10_isRule : MethodName := ⟨"CliffCarsModel", "isRule", "(I)Z"⟩
abbrev c10_day : ByteArray := prog_12_method_49_code
def y10_day : MethodName := ⟨"CliffCarsModel", "day", "(II)I"⟩
abbrev c10_layDay : ByteArray := prog_12_method_42_code
def y10_layDay : MethodName := ⟨"CliffCarsModel", "layDay", "(IIIII)V"⟩
abbrev c10_goDay : ByteArray := prog_12_method_48_code
def y10_goDay : MethodName := ⟨"CliffCarsModel", "goDay", "(III)V"⟩
abbrev c10_valueFrom : ByteArray := prog_12_method_46_code
def y10_valueFrom : MethodName := ⟨"CliffCarsModel", "valueFrom", "(III)I"⟩
abbrev c10_comesIn : ByteArray := prog_12_method_43_code
def y10_comesIn : MethodName := ⟨"CliffCarsModel", "comesIn", "(II)V"⟩
abbrev c10_can : ByteArray := prog_12_method_44_code
def y10_can : MethodName := ⟨"CliffCarsModel", "can", "(I)Z"⟩
abbrev c10_gone : ByteArray := prog_12_method_45_code
def y10_gone : MethodName := ⟨"CliffCarsModel", "gone", "()I"⟩
abbrev c10_leads : ByteArray := prog_12_method_47_code
def y10_leads : MethodName := ⟨"CliffCarsModel", "leads", "(IIII)Z"⟩
abbrev c10_waits : ByteArray := prog_12_method_50_code
def y10_waits : MethodName := ⟨"CliffCarsModel", "waits", "(IIIII)J"⟩
abbrev c10_bell : ByteArray := prog_12_method_51_code
def y10_bell : MethodName := ⟨"CliffCarsModel", "bell", "()I"⟩
abbrev c10_whit : ByteArray := prog_12_method_52_code
def y10_whit : MethodName := ⟨"CliffCarsModel", "whit", "()I"⟩
abbrev c10_offer : ByteArray := prog_12_method_53_code
def y10_offer : MethodName := ⟨"CliffCarsModel", "offer", "(III)I"⟩
abbrev c10_buy : ByteArray := prog_12_method_54_code
def y10_buy : MethodName := ⟨"CliffCarsModel", "buy", "(I)I"⟩
abbrev c10_judge : ByteArray := prog_12_method_55_code
def y10_judge : MethodName := ⟨"CliffCarsModel", "judge", "(II)I"⟩
abbrev c10_isTape : ByteArray := prog_12_method_71_code
def y10_isTape : MethodName := ⟨"CliffCarsModel", "isTape", "(I)Z"⟩
abbrev c10_image : ByteArray := prog_12_method_57_code
def y10_image : MethodName := ⟨"CliffCarsModel", "image", "()I"⟩
abbrev c10_copy : ByteArray := prog_12_method_56_code
def y10_copy : MethodName := ⟨"CliffCarsModel", "copy", "([I[I)V"⟩
abbrev c10_undo : ByteArray := prog_12_method_58_code
def y10_undo : MethodName := ⟨"CliffCarsModel", "undo", "()I"⟩
abbrev c10_act : ByteArray := prog_12_method_67_code
def y10_act : MethodName := ⟨"CliffCarsModel", "act", "(III)I"⟩
abbrev c10_goes : ByteArray := prog_12_method_62_code
def y10_goes : MethodName := ⟨"CliffCarsModel", "goes", "(II)I"⟩
abbrev c10_body : ByteArray := prog_12_method_59_code
def y10_body : MethodName := ⟨"CliffCarsModel", "body", "(I)V"⟩
abbrev c10_plainGoes : ByteArray := prog_12_method_60_code
def y10_plainGoes : MethodName := ⟨"CliffCarsModel", "plainGoes", "(II)I"⟩
abbrev c10_bestGoes : ByteArray := prog_12_method_61_code
def y10_bestGoes : MethodName := ⟨"CliffCarsModel", "bestGoes", "(II)I"⟩
abbrev c10_holdsAct : ByteArray := prog_12_method_64_code
def y10_holdsAct : MethodName := ⟨"CliffCarsModel", "holdsAct", "(II)I"⟩
abbrev c10_plainHolds : ByteArray := prog_12_method_63_code
def y10_plainHolds : MethodName := ⟨"CliffCarsModel", "plainHolds", "(II)I"⟩
abbrev c10_tells : ByteArray := prog_12_method_66_code
def y10_tells : MethodName := ⟨"CliffCarsModel", "tells", "(II)I"⟩
abbrev c10_plainTells : ByteArray := prog_12_method_65_code
def y10_plainTells : MethodName := ⟨"CliffCarsModel", "plainTells", "(II)I"⟩
abbrev c10_trace : ByteArray := prog_12_method_68_code
def y10_trace : MethodName := ⟨"CliffCarsModel", "trace", "(I)I"⟩
abbrev c10_taken : ByteArray := prog_12_method_69_code
def y10_taken : MethodName := ⟨"CliffCarsModel", "taken", "(II)I"⟩
abbrev c10_count : ByteArray := prog_12_method_70_code
def y10_count : MethodName := ⟨"CliffCarsModel", "count", "(I)I"⟩
abbrev c10_tape : ByteArray := prog_12_method_72_code
def y10_tape : MethodName := ⟨"CliffCarsModel", "tape", "(III)I"⟩
abbrev c10_item : ByteArray := prog_12_method_74_code
def y10_item : MethodName := ⟨"CliffCarsModel", "item", "(IIJ)I"⟩
abbrev c10_narrow : ByteArray := prog_12_method_73_code
def y10_narrow : MethodName := ⟨"CliffCarsModel", "narrow", "(IJ)J"⟩
abbrev c10_read : ByteArray := prog_12_method_75_code
def y10_read : MethodName := ⟨"CliffCarsModel", "read", "(II)J"⟩
abbrev c10_shift : ByteArray := prog_12_method_76_code
def y10_shift : MethodName := ⟨"CliffCarsModel", "shift", "(IIIII)I"⟩
theorem ini0 : Cond.initialized n0 ∈ TT := t1 11 rfl rfl
theorem lay0_0 : u_lay n0 T0 0 ∈ TT := t2 131 rfl rfl
theorem lay0_1 : u_lay n0 T0 1 ∈ TT := t2 133 rfl rfl
theorem lay0_2 : u_lay n0 T0 2 ∈ TT := t2 135 rfl rfl
theorem lay0_3 : u_lay n0 T0 3 ∈ TT := t2 137 rfl rfl
theorem in0 : ∀ w ∈ u_ws n0 T0 4, w ∈ TT := by
  intro w hw
  obtain ⟨k, hk, rfl⟩ := List.mem_map.mp hw
  have hk := List.mem_range.mp hk
  exact match k, hk with
    | 0, _ => lay0_0
    | 1, _ => lay0_1
    | 2, _ => lay0_2
    | 3, _ => lay0_3
    | q + 4, h => absurd h (by omega)
theorem ini1 : Cond.initialized n1 ∈ TT := t1 6 rfl rfl
theorem lay1_0 : u_lay n1 T1 0 ∈ TT := t1 152 rfl rfl
theorem lay1_1 : u_lay n1 T1 1 ∈ TT := t1 154 rfl rfl
theorem lay1_2 : u_lay n1 T1 2 ∈ TT := t1 156 rfl rfl
theorem lay1_3 : u_lay n1 T1 3 ∈ TT := t1 158 rfl rfl
theorem lay1_4 : u_lay n1 T1 4 ∈ TT := t1 160 rfl rfl
theorem lay1_5 : u_lay n1 T1 5 ∈ TT := t1 162 rfl rfl
theorem lay1_6 : u_lay n1 T1 6 ∈ TT := t1 164 rfl rfl
theorem lay1_7 : u_lay n1 T1 7 ∈ TT := t1 166 rfl rfl
theorem lay1_8 : u_lay n1 T1 8 ∈ TT := t1 168 rfl rfl
theorem lay1_9 : u_lay n1 T1 9 ∈ TT := t1 170 rfl rfl
theorem in1 : ∀ w ∈ u_ws n1 T1 10, w ∈ TT := by
  intro w hw
  obtain ⟨k, hk, rfl⟩ := List.mem_map.mp hw
  have hk := List.mem_range.mp hk
  exact match k, hk with
    | 0, _ => lay1_0
    | 1, _ => lay1_1
    | 2, _ => lay1_2
    | 3, _ => lay1_3
    | 4, _ => lay1_4
    | 5, _ => lay1_5
    | 6, _ => lay1_6
    | 7, _ => lay1_7
    | 8, _ => lay1_8
    | 9, _ => lay1_9
    | q + 10, h => absurd h (by omega)
theorem ini2 : Cond.initialized n2 ∈ TT := t1 8 rfl rfl
theorem lay2_0 : u_lay n2 T2 0 ∈ TT := t2 14 rfl rfl
theorem lay2_1 : u_lay n2 T2 1 ∈ TT := t2 16 rfl rfl
theorem lay2_2 : u_lay n2 T2 2 ∈ TT := t2 18 rfl rfl
theorem lay2_3 : u_lay n2 T2 3 ∈ TT := t2 20 rfl rfl
theorem lay2_4 : u_lay n2 T2 4 ∈ TT := t2 22 rfl rfl
theorem lay2_5 : u_lay n2 T2 5 ∈ TT := t2 24 rfl rfl
theorem lay2_6 : u_lay n2 T2 6 ∈ TT := t2 26 rfl rfl
theorem lay2_7 : u_lay n2 T2 7 ∈ TT := t2 28 rfl rfl
theorem lay2_8 : u_lay n2 T2 8 ∈ TT := t2 30 rfl rfl
theorem lay2_9 : u_lay n2 T2 9 ∈ TT := t2 32 rfl rfl
theorem lay2_10 : u_lay n2 T2 10 ∈ TT := t2 34 rfl rfl
theorem lay2_11 : u_lay n2 T2 11 ∈ TT := t2 36 rfl rfl
theorem lay2_12 : u_lay n2 T2 12 ∈ TT := t2 38 rfl rfl
theorem lay2_13 : u_lay n2 T2 13 ∈ TT := t2 40 rfl rfl
theorem lay2_14 : u_lay n2 T2 14 ∈ TT := t2 42 rfl rfl
theorem in2 : ∀ w ∈ u_ws n2 T2 15, w ∈ TT := by
  intro w hw
  obtain ⟨k, hk, rfl⟩ := List.mem_map.mp hw
  have hk := List.mem_range.mp hk
  exact match k, hk with
    | 0, _ => lay2_0
    | 1, _ => lay2_1
    | 2, _ => lay2_2
    | 3, _ => lay2_3
    | 4, _ => lay2_4
    | 5, _ => lay2_5
    | 6, _ => lay2_6
    | 7, _ => lay2_7
    | 8, _ => lay2_8
    | 9, _ => lay2_9
    | 10, _ => lay2_10
    | 11, _ => lay2_11
    | 12, _ => lay2_12
    | 13, _ => lay2_13
    | 14, _ => lay2_14
    | q + 15, h => absurd h (by omega)
theorem ini3 : Cond.initialized n3 ∈ TT := t1 7 rfl rfl
theorem lay3_0 : u_lay n3 T3 0 ∈ TT := t1 207 rfl rfl
theorem lay3_1 : u_lay n3 T3 1 ∈ TT := t1 209 rfl rfl
theorem lay3_2 : u_lay n3 T3 2 ∈ TT := t1 211 rfl rfl
theorem lay3_3 : u_lay n3 T3 3 ∈ TT := t1 213 rfl rfl
theorem in3 : ∀ w ∈ u_ws n3 T3 4, w ∈ TT := by
  intro w hw
  obtain ⟨k, hk, rfl⟩ := List.mem_map.mp hw
  have hk := List.mem_range.mp hk
  exact match k, hk with
    | 0, _ => lay3_0
    | 1, _ => lay3_1
    | 2, _ => lay3_2
    | 3, _ => lay3_3
    | q + 4, h => absurd h (by omega)
theorem ini4 : Cond.initialized n4 ∈ TT := t1 4 rfl rfl
theorem lay4_0 : u_lay n4 T4 0 ∈ TT := t1 100 rfl rfl
theorem lay4_1 : u_lay n4 T4 1 ∈ TT := t1 102 rfl rfl
theorem lay4_2 : u_lay n4 T4 2 ∈ TT := t1 104 rfl rfl
theorem lay4_3 : u_lay n4 T4 3 ∈ TT := t1 106 rfl rfl
theorem lay4_4 : u_lay n4 T4 4 ∈ TT := t1 108 rfl rfl
theorem in4 : ∀ w ∈ u_ws n4 T4 5, w ∈ TT := by
  intro w hw
  obtain ⟨k, hk, rfl⟩ := List.mem_map.mp hw
  have hk := List.mem_range.mp hk
  exact match k, hk with
    | 0, _ => lay4_0
    | 1, _ => lay4_1
    | 2, _ => lay4_2
    | 3, _ => lay4_3
    | 4, _ => lay4_4
    | q + 5, h => absurd h (by omega)
theorem ini5 : Cond.initialized n5 ∈ TT := t1 2 rfl rfl
theorem lay5_0 : u_lay n5 T5 0 ∈ TT := t1 53 rfl rfl
theorem lay5_1 : u_lay n5 T5 1 ∈ TT := t1 55 rfl rfl
theorem lay5_2 : u_lay n5 T5 2 ∈ TT := t1 57 rfl rfl
theorem lay5_3 : u_lay n5 T5 3 ∈ TT := t1 59 rfl rfl
theorem lay5_4 : u_lay n5 T5 4 ∈ TT := t1 61 rfl rfl
theorem lay5_5 : u_lay n5 T5 5 ∈ TT := t1 63 rfl rfl
theorem lay5_6 : u_lay n5 T5 6 ∈ TT := t1 65 rfl rfl
theorem lay5_7 : u_lay n5 T5 7 ∈ TT := t1 67 rfl rfl
theorem in5 : ∀ w ∈ u_ws n5 T5 8, w ∈ TT := by
  intro w hw
  obtain ⟨k, hk, rfl⟩ := List.mem_map.mp hw
  have hk := List.mem_range.mp hk
  exact match k, hk with
    | 0, _ => lay5_0
    | 1, _ => lay5_1
    | 2, _ => lay5_2
    | 3, _ => lay5_3
    | 4, _ => lay5_4
    | 5, _ => lay5_5
    | 6, _ => lay5_6
    | 7, _ => lay5_7
    | q + 8, h => absurd h (by omega)
theorem ini6 : Cond.initialized n6 ∈ TT := t1 9 rfl rfl
theorem lay6_0 : u_lay n6 T6 0 ∈ TT := t2 56 rfl rfl
theorem lay6_1 : u_lay n6 T6 1 ∈ TT := t2 58 rfl rfl
theorem lay6_2 : u_lay n6 T6 2 ∈ TT := t2 60 rfl rfl
theorem in6 : ∀ w ∈ u_ws n6 T6 3, w ∈ TT := by
  intro w hw
  obtain ⟨k, hk, rfl⟩ := List.mem_map.mp hw
  have hk := List.mem_range.mp hk
  exact match k, hk with
    | 0, _ => lay6_0
    | 1, _ => lay6_1
    | 2, _ => lay6_2
    | q + 3, h => absurd h (by omega)
theorem ini7 : Cond.initialized n7 ∈ TT := t1 5 rfl rfl
theorem lay7_0 : u_lay n7 T7 0 ∈ TT := t1 181 rfl rfl
theorem lay7_1 : u_lay n7 T7 1 ∈ TT := t1 183 rfl rfl
theorem lay7_2 : u_lay n7 T7 2 ∈ TT := t1 185 rfl rfl
theorem lay7_3 : u_lay n7 T7 3 ∈ TT := t1 187 rfl rfl
theorem lay7_4 : u_lay n7 T7 4 ∈ TT := t1 189 rfl rfl
theorem lay7_5 : u_lay n7 T7 5 ∈ TT := t1 191 rfl rfl
theorem lay7_6 : u_lay n7 T7 6 ∈ TT := t1 193 rfl rfl
theorem in7 : ∀ w ∈ u_ws n7 T7 7, w ∈ TT := by
  intro w hw
  obtain ⟨k, hk, rfl⟩ := List.mem_map.mp hw
  have hk := List.mem_range.mp hk
  exact match k, hk with
    | 0, _ => lay7_0
    | 1, _ => lay7_1
    | 2, _ => lay7_2
    | 3, _ => lay7_3
    | 4, _ => lay7_4
    | 5, _ => lay7_5
    | 6, _ => lay7_6
    | q + 7, h => absurd h (by omega)
theorem ini8 : Cond.initialized n8 ∈ TT := t1 3 rfl rfl
theorem lay8_0 : u_lay n8 T8 0 ∈ TT := t1 83 rfl rfl
theorem lay8_1 : u_lay n8 T8 1 ∈ TT := t1 85 rfl rfl
theorem in8 : ∀ w ∈ u_ws n8 T8 2, w ∈ TT := by
  intro w hw
  obtain ⟨k, hk, rfl⟩ := List.mem_map.mp hw
  have hk := List.mem_range.mp hk
  exact match k, hk with
    | 0, _ => lay8_0
    | 1, _ => lay8_1
    | q + 2, h => absurd h (by omega)
theorem ini9 : Cond.initialized n9 ∈ TT := t1 1 rfl rfl
theorem lay9_0 : u_lay n9 T9 0 ∈ TT := t2 78 rfl rfl
theorem lay9_1 : u_lay n9 T9 1 ∈ TT := t2 80 rfl rfl
theorem lay9_2 : u_lay n9 T9 2 ∈ TT := t2 82 rfl rfl
theorem lay9_3 : u_lay n9 T9 3 ∈ TT := t2 84 rfl rfl
theorem lay9_4 : u_lay n9 T9 4 ∈ TT := t2 86 rfl rfl
theorem lay9_5 : u_lay n9 T9 5 ∈ TT := t2 88 rfl rfl
theorem lay9_6 : u_lay n9 T9 6 ∈ TT := t2 90 rfl rfl
theorem lay9_7 : u_lay n9 T9 7 ∈ TT := t2 92 rfl rfl
theorem lay9_8 : u_lay n9 T9 8 ∈ TT := t2 94 rfl rfl
theorem lay9_9 : u_lay n9 T9 9 ∈ TT := t2 96 rfl rfl
theorem lay9_10 : u_lay n9 T9 10 ∈ TT := t2 98 rfl rfl
theorem lay9_11 : u_lay n9 T9 11 ∈ TT := t2 100 rfl rfl
theorem lay9_12 : u_lay n9 T9 12 ∈ TT := t2 102 rfl rfl
theorem lay9_13 : u_lay n9 T9 13 ∈ TT := t2 104 rfl rfl
theorem lay9_14 : u_lay n9 T9 14 ∈ TT := t2 106 rfl rfl
theorem in9 : ∀ w ∈ u_ws n9 T9 15, w ∈ TT := by
  intro w hw
  obtain ⟨k, hk, rfl⟩ := List.mem_map.mp hw
  have hk := List.mem_range.mp hk
  exact match k, hk with
    | 0, _ => lay9_0
    | 1, _ => lay9_1
    | 2, _ => lay9_2
    | 3, _ => lay9_3
    | 4, _ => lay9_4
    | 5, _ => lay9_5
    | 6, _ => lay9_6
    | 7, _ => lay9_7
    | 8, _ => lay9_8
    | 9, _ => lay9_9
    | 10, _ => lay9_10
    | 11, _ => lay9_11
    | 12, _ => lay9_12
    | 13, _ => lay9_13
    | 14, _ => lay9_14
    | q + 15, h => absurd h (by omega)
theorem ini10 : Cond.initialized n10 ∈ TT := t1 10 rfl rfl
theorem lay10_0 : u_lay n10 T10 0 ∈ TT := t4 209 rfl rfl
theorem lay10_1 : u_lay n10 T10 1 ∈ TT := t4 211 rfl rfl
theorem lay10_2 : u_lay n10 T10 2 ∈ TT := t4 213 rfl rfl
theorem lay10_3 : u_lay n10 T10 3 ∈ TT := t4 215 rfl rfl
theorem lay10_4 : u_lay n10 T10 4 ∈ TT := t4 217 rfl rfl
theorem lay10_5 : u_lay n10 T10 5 ∈ TT := t4 219 rfl rfl
theorem lay10_6 : u_lay n10 T10 6 ∈ TT := t4 221 rfl rfl
theorem lay10_7 : u_lay n10 T10 7 ∈ TT := t4 223 rfl rfl
theorem lay10_8 : u_lay n10 T10 8 ∈ TT := t4 225 rfl rfl
theorem lay10_9 : u_lay n10 T10 9 ∈ TT := t4 227 rfl rfl
theorem lay10_10 : u_lay n10 T10 10 ∈ TT := t4 229 rfl rfl
theorem lay10_11 : u_lay n10 T10 11 ∈ TT := t4 231 rfl rfl
theorem lay10_12 : u_lay n10 T10 12 ∈ TT := t4 233 rfl rfl
theorem lay10_13 : u_lay n10 T10 13 ∈ TT := t4 235 rfl rfl
theorem lay10_14 : u_lay n10 T10 14 ∈ TT := t4 237 rfl rfl
theorem lay10_15 : u_lay n10 T10 15 ∈ TT := t4 239 rfl rfl
theorem lay10_16 : u_lay n10 T10 16 ∈ TT := t5 1 rfl rfl
theorem lay10_17 : u_lay n10 T10 17 ∈ TT := t5 3 rfl rfl
theorem lay10_18 : u_lay n10 T10 18 ∈ TT := t5 5 rfl rfl
theorem lay10_19 : u_lay n10 T10 19 ∈ TT := t5 7 rfl rfl
theorem lay10_20 : u_lay n10 T10 20 ∈ TT := t5 9 rfl rfl
theorem lay10_21 : u_lay n10 T10 21 ∈ TT := t5 11 rfl rfl
theorem lay10_22 : u_lay n10 T10 22 ∈ TT := t5 13 rfl rfl
theorem lay10_23 : u_lay n10 T10 23 ∈ TT := t5 15 rfl rfl
theorem lay10_24 : u_lay n10 T10 24 ∈ TT := t5 17 rfl rfl
theorem lay10_25 : u_lay n10 T10 25 ∈ TT := t5 19 rfl rfl
theorem lay10_26 : u_lay n10 T10 26 ∈ TT := t5 21 rfl rfl
theorem lay10_27 : u_lay n10 T10 27 ∈ TT := t5 23 rfl rfl
theorem lay10_28 : u_lay n10 T10 28 ∈ TT := t5 25 rfl rfl
theorem lay10_29 : u_lay n10 T10 29 ∈ TT := t5 27 rfl rfl
theorem lay10_30 : u_lay n10 T10 30 ∈ TT := t5 29 rfl rfl
theorem lay10_31 : u_lay n10 T10 31 ∈ TT := t5 31 rfl rfl
theorem lay10_32 : u_lay n10 T10 32 ∈ TT := t5 33 rfl rfl
theorem lay10_33 : u_lay n10 T10 33 ∈ TT := t5 35 rfl rfl
theorem lay10_34 : u_lay n10 T10 34 ∈ TT := t5 37 rfl rfl
theorem lay10_35 : u_lay n10 T10 35 ∈ TT := t5 39 rfl rfl
theorem lay10_36 : u_lay n10 T10 36 ∈ TT := t5 41 rfl rfl
theorem lay10_37 : u_lay n10 T10 37 ∈ TT := t5 43 rfl rfl
theorem lay10_38 : u_lay n10 T10 38 ∈ TT := t5 45 rfl rfl
theorem lay10_39 : u_lay n10 T10 39 ∈ TT := t5 47 rfl rfl
theorem lay10_40 : u_lay n10 T10 40 ∈ TT := t5 49 rfl rfl
theorem lay10_41 : u_lay n10 T10 41 ∈ TT := t5 51 rfl rfl
theorem lay10_42 : u_lay n10 T10 42 ∈ TT := t5 53 rfl rfl
theorem lay10_43 : u_lay n10 T10 43 ∈ TT := t5 55 rfl rfl
theorem lay10_44 : u_lay n10 T10 44 ∈ TT := t5 57 rfl rfl
theorem lay10_45 : u_lay n10 T10 45 ∈ TT := t5 59 rfl rfl
theorem lay10_46 : u_lay n10 T10 46 ∈ TT := t5 61 rfl rfl
theorem lay10_47 : u_lay n10 T10 47 ∈ TT := t5 63 rfl rfl
theorem lay10_48 : u_lay n10 T10 48 ∈ TT := t5 65 rfl rfl
theorem lay10_49 : u_lay n10 T10 49 ∈ TT := t5 67 rfl rfl
theorem lay10_50 : u_lay n10 T10 50 ∈ TT := t5 69 rfl rfl
theorem lay10_51 : u_lay n10 T10 51 ∈ TT := t5 71 rfl rfl
theorem lay10_52 : u_lay n10 T10 52 ∈ TT := t5 73 rfl rfl
theorem lay10_53 : u_lay n10 T10 53 ∈ TT := t5 75 rfl rfl
theorem lay10_54 : u_lay n10 T10 54 ∈ TT := t5 77 rfl rfl
theorem lay10_55 : u_lay n10 T10 55 ∈ TT := t5 79 rfl rfl
theorem lay10_56 : u_lay n10 T10 56 ∈ TT := t5 81 rfl rfl
theorem lay10_57 : u_lay n10 T10 57 ∈ TT := t5 83 rfl rfl
theorem lay10_58 : u_lay n10 T10 58 ∈ TT := t5 85 rfl rfl
theorem lay10_59 : u_lay n10 T10 59 ∈ TT := t5 87 rfl rfl
theorem lay10_60 : u_lay n10 T10 60 ∈ TT := t5 89 rfl rfl
theorem lay10_61 : u_lay n10 T10 61 ∈ TT := t5 91 rfl rfl
theorem lay10_62 : u_lay n10 T10 62 ∈ TT := t5 93 rfl rfl
theorem lay10_63 : u_lay n10 T10 63 ∈ TT := t5 95 rfl rfl
theorem lay10_64 : u_lay n10 T10 64 ∈ TT := t5 97 rfl rfl
theorem lay10_65 : u_lay n10 T10 65 ∈ TT := t5 99 rfl rfl
theorem lay10_66 : u_lay n10 T10 66 ∈ TT := t5 101 rfl rfl
theorem lay10_67 : u_lay n10 T10 67 ∈ TT := t5 103 rfl rfl
theorem in10 : ∀ w ∈ u_ws n10 T10 68, w ∈ TT := by
  intro w hw
  obtain ⟨k, hk, rfl⟩ := List.mem_map.mp hw
  have hk := List.mem_range.mp hk
  exact match k, hk with
    | 0, _ => lay10_0
    | 1, _ => lay10_1
    | 2, _ => lay10_2
    | 3, _ => lay10_3
    | 4, _ => lay10_4
    | 5, _ => lay10_5
    | 6, _ => lay10_6
    | 7, _ => lay10_7
    | 8, _ => lay10_8
    | 9, _ => lay10_9
    | 10, _ => lay10_10
    | 11, _ => lay10_11
    | 12, _ => lay10_12
    | 13, _ => lay10_13
    | 14, _ => lay10_14
    | 15, _ => lay10_15
    | 16, _ => lay10_16
    | 17, _ => lay10_17
    | 18, _ => lay10_18
    | 19, _ => lay10_19
    | 20, _ => lay10_20
    | 21, _ => lay10_21
    | 22, _ => lay10_22
    | 23, _ => lay10_23
    | 24, _ => lay10_24
    | 25, _ => lay10_25
    | 26, _ => lay10_26
    | 27, _ => lay10_27
    | 28, _ => lay10_28
    | 29, _ => lay10_29
    | 30, _ => lay10_30
    | 31, _ => lay10_31
    | 32, _ => lay10_32
    | 33, _ => lay10_33
    | 34, _ => lay10_34
    | 35, _ => lay10_35
    | 36, _ => lay10_36
    | 37, _ => lay10_37
    | 38, _ => lay10_38
    | 39, _ => lay10_39
    | 40, _ => lay10_40
    | 41, _ => lay10_41
    | 42, _ => lay10_42
    | 43, _ => lay10_43
    | 44, _ => lay10_44
    | 45, _ => lay10_45
    | 46, _ => lay10_46
    | 47, _ => lay10_47
    | 48, _ => lay10_48
    | 49, _ => lay10_49
    | 50, _ => lay10_50
    | 51, _ => lay10_51
    | 52, _ => lay10_52
    | 53, _ => lay10_53
    | 54, _ => lay10_54
    | 55, _ => lay10_55
    | 56, _ => lay10_56
    | 57, _ => lay10_57
    | 58, _ => lay10_58
    | 59, _ => lay10_59
    | 60, _ => lay10_60
    | 61, _ => lay10_61
    | 62, _ => lay10_62
    | 63, _ => lay10_63
    | 64, _ => lay10_64
    | 65, _ => lay10_65
    | 66, _ => lay10_66
    | 67, _ => lay10_67
    | q + 68, h => absurd h (by omega)
theorem cd9_init : Cond.code y9_init c9_init 2 none ∈ TT := t1 22 rfl rfl
theorem im9_init : Cond.instanceMethod y9_init ∈ TT := t1 21 rfl rfl
theorem na9_init : y9_init.cls ≠ "java/lang/invoke/MethodHandle" ∧ y9_init.cls ≠ "java/lang/invoke/VarHandle" ∧ (parseMethodDescriptor y9_init.desc).map (fun d => d.parameters.length) = some 0 := by decide +kernel
theorem cd5_init : Cond.code y5_init c5_init 1 none ∈ TT := t1 34 rfl rfl
theorem im5_init : Cond.instanceMethod y5_init ∈ TT := t1 33 rfl rfl
theorem na5_init : y5_init.cls ≠ "java/lang/invoke/MethodHandle" ∧ y5_init.cls ≠ "java/lang/invoke/VarHandle" ∧ (parseMethodDescriptor y5_init.desc).map (fun d => d.parameters.length) = some 0 := by decide +kernel
theorem cd8_init : Cond.code y8_init c8_init 1 none ∈ TT := t1 77 rfl rfl
theorem im8_init : Cond.instanceMethod y8_init ∈ TT := t1 76 rfl rfl
theorem na8_init : y8_init.cls ≠ "java/lang/invoke/MethodHandle" ∧ y8_init.cls ≠ "java/lang/invoke/VarHandle" ∧ (parseMethodDescriptor y8_init.desc).map (fun d => d.parameters.length) = some 0 := by decide +kernel
theorem cd4_init : Cond.code y4_init c4_init 4 none ∈ TT := t1 91 rfl rfl
theorem im4_init : Cond.instanceMethod y4_init ∈ TT := t1 90 rfl rfl
theorem na4_init : y4_init.cls ≠ "java/lang/invoke/MethodHandle" ∧ y4_init.cls ≠ "java/lang/invoke/VarHandle" ∧ (parseMethodDescriptor y4_init.desc).map (fun d => d.parameters.length) = some 3 := by decide +kernel
theorem cd7_init : Cond.code y7_init c7_init 1 none ∈ TT := t1 115 rfl rfl
theorem im7_init : Cond.instanceMethod y7_init ∈ TT := t1 114 rfl rfl
theorem na7_init : y7_init.cls ≠ "java/lang/invoke/MethodHandle" ∧ y7_init.cls ≠ "java/lang/invoke/VarHandle" ∧ (parseMethodDescriptor y7_init.desc).map (fun d => d.parameters.length) = some 0 := by decide +kernel
theorem cd1_init : Cond.code y1_init c1_init 1 none ∈ TT := t1 121 rfl rfl
theorem im1_init : Cond.instanceMethod y1_init ∈ TT := t1 120 rfl rfl
theorem na1_init : y1_init.cls ≠ "java/lang/invoke/MethodHandle" ∧ y1_init.cls ≠ "java/lang/invoke/VarHandle" ∧ (parseMethodDescriptor y1_init.desc).map (fun d => d.parameters.length) = some 0 := by decide +kernel
theorem cd3_init : Cond.code y3_init c3_init 2 none ∈ TT := t1 200 rfl rfl
theorem im3_init : Cond.instanceMethod y3_init ∈ TT := t1 199 rfl rfl
theorem na3_init : y3_init.cls ≠ "java/lang/invoke/MethodHandle" ∧ y3_init.cls ≠ "java/lang/invoke/VarHandle" ∧ (parseMethodDescriptor y3_init.desc).map (fun d => d.parameters.length) = some 1 := by decide +kernel
theorem cd2_init : Cond.code y2_init c2_init 3 none ∈ TT := t1 221 rfl rfl
theorem im2_init : Cond.instanceMethod y2_init ∈ TT := t1 220 rfl rfl
theorem na2_init : y2_init.cls ≠ "java/lang/invoke/MethodHandle" ∧ y2_init.cls ≠ "java/lang/invoke/VarHandle" ∧ (parseMethodDescriptor y2_init.desc).map (fun d => d.parameters.length) = some 2 := by decide +kernel
theorem cd6_init : Cond.code y6_init c6_init 1 none ∈ TT := t2 48 rfl rfl
theorem im6_init : Cond.instanceMethod y6_init ∈ TT := t2 47 rfl rfl
theorem na6_init : y6_init.cls ≠ "java/lang/invoke/MethodHandle" ∧ y6_init.cls ≠ "java/lang/invoke/VarHandle" ∧ (parseMethodDescriptor y6_init.desc).map (fun d => d.parameters.length) = some 0 := by decide +kernel
theorem cd9_feed : Cond.code y9_feed c9_feed 4 (some .int) ∈ TT := t2 112 rfl rfl
theorem im9_feed : Cond.instanceMethod y9_feed ∈ TT := t2 110 rfl rfl
theorem se9_feed : Cond.selects y9_feed.cls y9_feed y9_feed ∈ TT := t2 111 rfl rfl
theorem na9_feed : y9_feed.cls ≠ "java/lang/invoke/MethodHandle" ∧ y9_feed.cls ≠ "java/lang/invoke/VarHandle" ∧ (parseMethodDescriptor y9_feed.desc).map (fun d => d.parameters.length) = some 2 := by decide +kernel
theorem cd9_cliff : Cond.code y9_cliff c9_cliff 3 (some .int) ∈ TT := t2 116 rfl rfl
theorem im9_cliff : Cond.instanceMethod y9_cliff ∈ TT := t2 114 rfl rfl
theorem se9_cliff : Cond.selects y9_cliff.cls y9_cliff y9_cliff ∈ TT := t2 115 rfl rfl
theorem na9_cliff : y9_cliff.cls ≠ "java/lang/invoke/MethodHandle" ∧ y9_cliff.cls ≠ "java/lang/invoke/VarHandle" ∧ (parseMethodDescriptor y9_cliff.desc).map (fun d => d.parameters.length) = some 0 := by decide +kernel
theorem cd0_init : Cond.code y0_init c0_init 3 none ∈ TT := t2 122 rfl rfl
theorem im0_init : Cond.instanceMethod y0_init ∈ TT := t2 121 rfl rfl
theorem na0_init : y0_init.cls ≠ "java/lang/invoke/MethodHandle" ∧ y0_init.cls ≠ "java/lang/invoke/VarHandle" ∧ (parseMethodDescriptor y0_init.desc).map (fun d => d.parameters.length) = some 2 := by decide +kernel
theorem cdM_min : Cond.code yM_min cM_min 2 (some .int) ∈ TT := t2 126 rfl rfl
theorem stM_min : Cond.static yM_min ∈ TT := t2 125 rfl rfl
theorem naM_min : yM_min.cls ≠ "java/lang/invoke/MethodHandle" ∧ yM_min.cls ≠ "java/lang/invoke/VarHandle" ∧ (parseMethodDescriptor yM_min.desc).map (fun d => d.parameters.length) = some 2 := by decide +kernel
theorem cd0_clausesOf : Cond.code y0_clausesOf c0_clausesOf 3 (some .int) ∈ TT := t2 143 rfl rfl
theorem im0_clausesOf : Cond.instanceMethod y0_clausesOf ∈ TT := t2 141 rfl rfl
theorem se0_clausesOf : Cond.selects y0_clausesOf.cls y0_clausesOf y0_clausesOf ∈ TT := t2 142 rfl rfl
theorem na0_clausesOf : y0_clausesOf.cls ≠ "java/lang/invoke/MethodHandle" ∧ y0_clausesOf.cls ≠ "java/lang/invoke/VarHandle" ∧ (parseMethodDescriptor y0_clausesOf.desc).map (fun d => d.parameters.length) = some 1 := by decide +kernel
theorem cd0_clause : Cond.code y0_clause c0_clause 4 none ∈ TT := t2 147 rfl rfl
theorem im0_clause : Cond.instanceMethod y0_clause ∈ TT := t2 146 rfl rfl
theorem se0_clause : Cond.selects y0_clause.cls y0_clause y0_clause ∈ TT := tp 0 rfl
theorem na0_clause : y0_clause.cls ≠ "java/lang/invoke/MethodHandle" ∧ y0_clause.cls ≠ "java/lang/invoke/VarHandle" ∧ (parseMethodDescriptor y0_clause.desc).map (fun d => d.parameters.length) = some 1 := by decide +kernel
theorem cd0_word : Cond.code y0_word c0_word 5 (some .int) ∈ TT := t2 151 rfl rfl
theorem im0_word : Cond.instanceMethod y0_word ∈ TT := t2 150 rfl rfl
theorem se0_word : Cond.selects y0_word.cls y0_word y0_word ∈ TT := tp 1 rfl
theorem na0_word : y0_word.cls ≠ "java/lang/invoke/MethodHandle" ∧ y0_word.cls ≠ "java/lang/invoke/VarHandle" ∧ (parseMethodDescriptor y0_word.desc).map (fun d => d.parameters.length) = some 0 := by decide +kernel
theorem cd0_wordOf : Cond.code y0_wordOf c0_wordOf 1 (some (.object "java/lang/String")) ∈ TT := t2 154 rfl rfl
theorem st0_wordOf : Cond.static y0_wordOf ∈ TT := t2 153 rfl rfl
theorem na0_wordOf : y0_wordOf.cls ≠ "java/lang/invoke/MethodHandle" ∧ y0_wordOf.cls ≠ "java/lang/invoke/VarHandle" ∧ (parseMethodDescriptor y0_wordOf.desc).map (fun d => d.parameters.length) = some 1 := by decide +kernel
theorem cdS_length : Cond.code yS_length cS_length 1 (some .int) ∈ TT := t2 167 rfl rfl
theorem imS_length : Cond.instanceMethod yS_length ∈ TT := t2 165 rfl rfl
theorem seS_length : Cond.selects yS_length.cls yS_length yS_length ∈ TT := t2 166 rfl rfl
theorem naS_length : yS_length.cls ≠ "java/lang/invoke/MethodHandle" ∧ yS_length.cls ≠ "java/lang/invoke/VarHandle" ∧ (parseMethodDescriptor yS_length.desc).map (fun d => d.parameters.length) = some 0 := by decide +kernel
theorem cdS_coder : Cond.code yS_coder cS_coder 1 (some .byte) ∈ TT := t2 171 rfl rfl
theorem imS_coder : Cond.instanceMethod yS_coder ∈ TT := t2 169 rfl rfl
theorem seS_coder : Cond.selects yS_coder.cls yS_coder yS_coder ∈ TT := t2 170 rfl rfl
theorem naS_coder : yS_coder.cls ≠ "java/lang/invoke/MethodHandle" ∧ yS_coder.cls ≠ "java/lang/invoke/VarHandle" ∧ (parseMethodDescriptor yS_coder.desc).map (fun d => d.parameters.length) = some 0 := by decide +kernel
theorem cdS_charAt : Cond.code yS_charAt cS_charAt 2 (some .char) ∈ TT := t2 177 rfl rfl
theorem imS_charAt : Cond.instanceMethod yS_charAt ∈ TT := t2 175 rfl rfl
theorem seS_charAt : Cond.selects yS_charAt.cls yS_charAt yS_charAt ∈ TT := t2 176 rfl rfl
theorem naS_charAt : yS_charAt.cls ≠ "java/lang/invoke/MethodHandle" ∧ yS_charAt.cls ≠ "java/lang/invoke/VarHandle" ∧ (parseMethodDescriptor yS_charAt.desc).map (fun d => d.parameters.length) = some 1 := by decide +kernel
theorem cdS_isLatin1 : Cond.code yS_isLatin1 cS_isLatin1 1 (some .boolean) ∈ TT := t2 181 rfl rfl
theorem imS_isLatin1 : Cond.instanceMethod yS_isLatin1 ∈ TT := t2 179 rfl rfl
theorem seS_isLatin1 : Cond.selects yS_isLatin1.cls yS_isLatin1 yS_isLatin1 ∈ TT := t2 180 rfl rfl
theorem naS_isLatin1 : yS_isLatin1.cls ≠ "java/lang/invoke/MethodHandle" ∧ yS_isLatin1.cls ≠ "java/lang/invoke/VarHandle" ∧ (parseMethodDescriptor yS_isLatin1.desc).map (fun d => d.parameters.length) = some 0 := by decide +kernel
theorem cdS1_charAt : Cond.code yS1_charAt cS1_charAt 2 (some .char) ∈ TT := t2 184 rfl rfl
theorem stS1_charAt : Cond.static yS1_charAt ∈ TT := t2 183 rfl rfl
theorem naS1_charAt : yS1_charAt.cls ≠ "java/lang/invoke/MethodHandle" ∧ yS1_charAt.cls ≠ "java/lang/invoke/VarHandle" ∧ (parseMethodDescriptor yS1_charAt.desc).map (fun d => d.parameters.length) = some 2 := by decide +kernel
theorem cdS_checkIndex : Cond.code yS_checkIndex cS_checkIndex 2 none ∈ TT := t2 187 rfl rfl
theorem stS_checkIndex : Cond.static yS_checkIndex ∈ TT := t2 186 rfl rfl
theorem naS_checkIndex : yS_checkIndex.cls ≠ "java/lang/invoke/MethodHandle" ∧ yS_checkIndex.cls ≠ "java/lang/invoke/VarHandle" ∧ (parseMethodDescriptor yS_checkIndex.desc).map (fun d => d.parameters.length) = some 2 := by decide +kernel
theorem cdP_checkIndex : Cond.code yP_checkIndex cP_checkIndex 3 (some .int) ∈ TT := t2 192 rfl rfl
theorem stP_checkIndex : Cond.static yP_checkIndex ∈ TT := t2 191 rfl rfl
theorem naP_checkIndex : yP_checkIndex.cls ≠ "java/lang/invoke/MethodHandle" ∧ yP_checkIndex.cls ≠ "java/lang/invoke/VarHandle" ∧ (parseMethodDescriptor yP_checkIndex.desc).map (fun d => d.parameters.length) = some 3 := by decide +kernel
theorem cdS2_charAt : Cond.code yS2_charAt cS2_charAt 2 (some .char) ∈ TT := t2 195 rfl rfl
theorem stS2_charAt : Cond.static yS2_charAt ∈ TT := t2 194 rfl rfl
theorem naS2_charAt : yS2_charAt.cls ≠ "java/lang/invoke/MethodHandle" ∧ yS2_charAt.cls ≠ "java/lang/invoke/VarHandle" ∧ (parseMethodDescriptor yS2_charAt.desc).map (fun d => d.parameters.length) = some 2 := by decide +kernel
theorem cdS2_checkIndex : Cond.code yS2_checkIndex cS2_checkIndex 2 none ∈ TT := t2 198 rfl rfl
theorem stS2_checkIndex : Cond.static yS2_checkIndex ∈ TT := t2 197 rfl rfl
theorem naS2_checkIndex : yS2_checkIndex.cls ≠ "java/lang/invoke/MethodHandle" ∧ yS2_checkIndex.cls ≠ "java/lang/invoke/VarHandle" ∧ (parseMethodDescriptor yS2_checkIndex.desc).map (fun d => d.parameters.length) = some 2 := by decide +kernel
theorem cdS2_length : Cond.code yS2_length cS2_length 1 (some .int) ∈ TT := t2 201 rfl rfl
theorem stS2_length : Cond.static yS2_length ∈ TT := t2 200 rfl rfl
theorem naS2_length : yS2_length.cls ≠ "java/lang/invoke/MethodHandle" ∧ yS2_length.cls ≠ "java/lang/invoke/VarHandle" ∧ (parseMethodDescriptor yS2_length.desc).map (fun d => d.parameters.length) = some 1 := by decide +kernel
theorem cdS2_getChar : Cond.code yS2_getChar cS2_getChar 2 (some .char) ∈ TT := t2 205 rfl rfl
theorem stS2_getChar : Cond.static yS2_getChar ∈ TT := t2 204 rfl rfl
theorem naS2_getChar : yS2_getChar.cls ≠ "java/lang/invoke/MethodHandle" ∧ yS2_getChar.cls ≠ "java/lang/invoke/VarHandle" ∧ (parseMethodDescriptor yS2_getChar.desc).map (fun d => d.parameters.length) = some 2 := by decide +kernel
theorem cdM_max : Cond.code yM_max cM_max 2 (some .int) ∈ TT := t2 214 rfl rfl
theorem stM_max : Cond.static yM_max ∈ TT := t2 213 rfl rfl
theorem naM_max : yM_max.cls ≠ "java/lang/invoke/MethodHandle" ∧ yM_max.cls ≠ "java/lang/invoke/VarHandle" ∧ (parseMethodDescriptor yM_max.desc).map (fun d => d.parameters.length) = some 2 := by decide +kernel
theorem cd0_fail : Cond.code y0_fail c0_fail 1 none ∈ TT := t2 218 rfl rfl
theorem im0_fail : Cond.instanceMethod y0_fail ∈ TT := t2 217 rfl rfl
theorem se0_fail : Cond.selects y0_fail.cls y0_fail y0_fail ∈ TT := tp 2 rfl
theorem na0_fail : y0_fail.cls ≠ "java/lang/invoke/MethodHandle" ∧ y0_fail.cls ≠ "java/lang/invoke/VarHandle" ∧ (parseMethodDescriptor y0_fail.desc).map (fun d => d.parameters.length) = some 0 := by decide +kernel
theorem cd0_takeOneOf : Cond.code y0_takeOneOf c0_takeOneOf 5 (some .int) ∈ TT := t2 222 rfl rfl
theorem im0_takeOneOf : Cond.instanceMethod y0_takeOneOf ∈ TT := t2 221 rfl rfl
theorem se0_takeOneOf : Cond.selects y0_takeOneOf.cls y0_takeOneOf y0_takeOneOf ∈ TT := tp 3 rfl
theorem na0_takeOneOf : y0_takeOneOf.cls ≠ "java/lang/invoke/MethodHandle" ∧ y0_takeOneOf.cls ≠ "java/lang/invoke/VarHandle" ∧ (parseMethodDescriptor y0_takeOneOf.desc).map (fun d => d.parameters.length) = some 3 := by decide +kernel
theorem cd0_peek : Cond.code y0_peek c0_peek 1 (some .int) ∈ TT := t2 226 rfl rfl
theorem im0_peek : Cond.instanceMethod y0_peek ∈ TT := t2 225 rfl rfl
theorem se0_peek : Cond.selects y0_peek.cls y0_peek y0_peek ∈ TT := tp 4 rfl
theorem na0_peek : y0_peek.cls ≠ "java/lang/invoke/MethodHandle" ∧ y0_peek.cls ≠ "java/lang/invoke/VarHandle" ∧ (parseMethodDescriptor y0_peek.desc).map (fun d => d.parameters.length) = some 0 := by decide +kernel
theorem cd0_number : Cond.code y0_number c0_number 4 (some .int) ∈ TT := t2 230 rfl rfl
theorem im0_number : Cond.instanceMethod y0_number ∈ TT := t2 229 rfl rfl
theorem se0_number : Cond.selects y0_number.cls y0_number y0_number ∈ TT := tp 5 rfl
theorem na0_number : y0_number.cls ≠ "java/lang/invoke/MethodHandle" ∧ y0_number.cls ≠ "java/lang/invoke/VarHandle" ∧ (parseMethodDescriptor y0_number.desc).map (fun d => d.parameters.length) = some 1 := by decide +kernel
theorem cd0_either : Cond.code y0_either c0_either 3 (some .int) ∈ TT := t2 234 rfl rfl
theorem im0_either : Cond.instanceMethod y0_either ∈ TT := t2 233 rfl rfl
theorem se0_either : Cond.selects y0_either.cls y0_either y0_either ∈ TT := tp 6 rfl
theorem na0_either : y0_either.cls ≠ "java/lang/invoke/MethodHandle" ∧ y0_either.cls ≠ "java/lang/invoke/VarHandle" ∧ (parseMethodDescriptor y0_either.desc).map (fun d => d.parameters.length) = some 1 := by decide +kernel
theorem cd0_both : Cond.code y0_both c0_both 3 (some .int) ∈ TT := t2 238 rfl rfl
theorem im0_both : Cond.instanceMethod y0_both ∈ TT := t2 237 rfl rfl
theorem se0_both : Cond.selects y0_both.cls y0_both y0_both ∈ TT := tp 7 rfl
theorem na0_both : y0_both.cls ≠ "java/lang/invoke/MethodHandle" ∧ y0_both.cls ≠ "java/lang/invoke/VarHandle" ∧ (parseMethodDescriptor y0_both.desc).map (fun d => d.parameters.length) = some 1 := by decide +kernel
theorem cd0_single : Cond.code y0_single c0_single 7 (some .int) ∈ TT := t3 2 rfl rfl
theorem im0_single : Cond.instanceMethod y0_single ∈ TT := t3 1 rfl rfl
theorem se0_single : Cond.selects y0_single.cls y0_single y0_single ∈ TT := tp 8 rfl
theorem na0_single : y0_single.cls ≠ "java/lang/invoke/MethodHandle" ∧ y0_single.cls ≠ "java/lang/invoke/VarHandle" ∧ (parseMethodDescriptor y0_single.desc).map (fun d => d.parameters.length) = some 1 := by decide +kernel
theorem cd0_momentsWith : Cond.code y0_momentsWith c0_momentsWith 7 (some .int) ∈ TT := t3 5 rfl rfl
theorem st0_momentsWith : Cond.static y0_momentsWith ∈ TT := t3 4 rfl rfl
theorem na0_momentsWith : y0_momentsWith.cls ≠ "java/lang/invoke/MethodHandle" ∧ y0_momentsWith.cls ≠ "java/lang/invoke/VarHandle" ∧ (parseMethodDescriptor y0_momentsWith.desc).map (fun d => d.parameters.length) = some 3 := by decide +kernel
theorem cd1_addIn : Cond.code y1_addIn c1_addIn 4 none ∈ TT := t3 9 rfl rfl
theorem st1_addIn : Cond.static y1_addIn ∈ TT := t3 8 rfl rfl
theorem na1_addIn : y1_addIn.cls ≠ "java/lang/invoke/MethodHandle" ∧ y1_addIn.cls ≠ "java/lang/invoke/VarHandle" ∧ (parseMethodDescriptor y1_addIn.desc).map (fun d => d.parameters.length) = some 3 := by decide +kernel
theorem cd1_take : Cond.code y1_take c1_take 3 none ∈ TT := t3 13 rfl rfl
theorem im1_take : Cond.instanceMethod y1_take ∈ TT := t3 11 rfl rfl
theorem se1_take : Cond.selects y1_take.cls y1_take y1_take ∈ TT := t3 12 rfl rfl
theorem na1_take : y1_take.cls ≠ "java/lang/invoke/MethodHandle" ∧ y1_take.cls ≠ "java/lang/invoke/VarHandle" ∧ (parseMethodDescriptor y1_take.desc).map (fun d => d.parameters.length) = some 2 := by decide +kernel
theorem cd1_addPart : Cond.code y1_addPart c1_addPart 2 none ∈ TT := t3 17 rfl rfl
theorem im1_addPart : Cond.instanceMethod y1_addPart ∈ TT := t3 15 rfl rfl
theorem se1_addPart : Cond.selects y1_addPart.cls y1_addPart y1_addPart ∈ TT := t3 16 rfl rfl
theorem na1_addPart : y1_addPart.cls ≠ "java/lang/invoke/MethodHandle" ∧ y1_addPart.cls ≠ "java/lang/invoke/VarHandle" ∧ (parseMethodDescriptor y1_addPart.desc).map (fun d => d.parameters.length) = some 1 := by decide +kernel
theorem cd9_moveTo : Cond.code y9_moveTo c9_moveTo 3 none ∈ TT := t3 23 rfl rfl
theorem im9_moveTo : Cond.instanceMethod y9_moveTo ∈ TT := t3 22 rfl rfl
theorem se9_moveTo : Cond.selects y9_moveTo.cls y9_moveTo y9_moveTo ∈ TT := tp 9 rfl
theorem na9_moveTo : y9_moveTo.cls ≠ "java/lang/invoke/MethodHandle" ∧ y9_moveTo.cls ≠ "java/lang/invoke/VarHandle" ∧ (parseMethodDescriptor y9_moveTo.desc).map (fun d => d.parameters.length) = some 2 := by decide +kernel
theorem cd9_choose : Cond.code y9_choose c9_choose 3 (some .int) ∈ TT := t3 29 rfl rfl
theorem im9_choose : Cond.instanceMethod y9_choose ∈ TT := t3 27 rfl rfl
theorem se9_choose : Cond.selects y9_choose.cls y9_choose y9_choose ∈ TT := t3 28 rfl rfl
theorem na9_choose : y9_choose.cls ≠ "java/lang/invoke/MethodHandle" ∧ y9_choose.cls ≠ "java/lang/invoke/VarHandle" ∧ (parseMethodDescriptor y9_choose.desc).map (fun d => d.parameters.length) = some 1 := by decide +kernel
theorem cd9_of : Cond.code y9_of c9_of 3 (some .int) ∈ TT := t3 33 rfl rfl
theorem im9_of : Cond.instanceMethod y9_of ∈ TT := t3 31 rfl rfl
theorem se9_of : Cond.selects y9_of.cls y9_of y9_of ∈ TT := t3 32 rfl rfl
theorem na9_of : y9_of.cls ≠ "java/lang/invoke/MethodHandle" ∧ y9_of.cls ≠ "java/lang/invoke/VarHandle" ∧ (parseMethodDescriptor y9_of.desc).map (fun d => d.parameters.length) = some 1 := by decide +kernel
theorem cd9_theCliff : Cond.code y9_theCliff c9_theCliff 2 (some (.object "CliffCars$Cliff")) ∈ TT := t3 37 rfl rfl
theorem im9_theCliff : Cond.instanceMethod y9_theCliff ∈ TT := t3 36 rfl rfl
theorem se9_theCliff : Cond.selects y9_theCliff.cls y9_theCliff y9_theCliff ∈ TT := tp 10 rfl
theorem na9_theCliff : y9_theCliff.cls ≠ "java/lang/invoke/MethodHandle" ∧ y9_theCliff.cls ≠ "java/lang/invoke/VarHandle" ∧ (parseMethodDescriptor y9_theCliff.desc).map (fun d => d.parameters.length) = some 0 := by decide +kernel
theorem cd9_told : Cond.code y9_told c9_told 5 (some .int) ∈ TT := t3 41 rfl rfl
theorem im9_told : Cond.instanceMethod y9_told ∈ TT := t3 39 rfl rfl
theorem se9_told : Cond.selects y9_told.cls y9_told y9_told ∈ TT := t3 40 rfl rfl
theorem na9_told : y9_told.cls ≠ "java/lang/invoke/MethodHandle" ∧ y9_told.cls ≠ "java/lang/invoke/VarHandle" ∧ (parseMethodDescriptor y9_told.desc).map (fun d => d.parameters.length) = some 2 := by decide +kernel
theorem cd9_isNoStep : Cond.code y9_isNoStep c9_isNoStep 1 (some .boolean) ∈ TT := t3 44 rfl rfl
theorem st9_isNoStep : Cond.static y9_isNoStep ∈ TT := t3 43 rfl rfl
theorem na9_isNoStep : y9_isNoStep.cls ≠ "java/lang/invoke/MethodHandle" ∧ y9_isNoStep.cls ≠ "java/lang/invoke/VarHandle" ∧ (parseMethodDescriptor y9_isNoStep.desc).map (fun d => d.parameters.length) = some 1 := by decide +kernel
theorem cd5_momentOf : Cond.code y5_momentOf c5_momentOf 2 (some .int) ∈ TT := t3 48 rfl rfl
theorem im5_momentOf : Cond.instanceMethod y5_momentOf ∈ TT := t3 46 rfl rfl
theorem se5_momentOf : Cond.selects y5_momentOf.cls y5_momentOf y5_momentOf ∈ TT := t3 47 rfl rfl
theorem na5_momentOf : y5_momentOf.cls ≠ "java/lang/invoke/MethodHandle" ∧ y5_momentOf.cls ≠ "java/lang/invoke/VarHandle" ∧ (parseMethodDescriptor y5_momentOf.desc).map (fun d => d.parameters.length) = some 1 := by decide +kernel
theorem cd9_pull : Cond.code y9_pull c9_pull 7 (some .long) ∈ TT := t3 52 rfl rfl
theorem im9_pull : Cond.instanceMethod y9_pull ∈ TT := t3 50 rfl rfl
theorem se9_pull : Cond.selects y9_pull.cls y9_pull y9_pull ∈ TT := t3 51 rfl rfl
theorem na9_pull : y9_pull.cls ≠ "java/lang/invoke/MethodHandle" ∧ y9_pull.cls ≠ "java/lang/invoke/VarHandle" ∧ (parseMethodDescriptor y9_pull.desc).map (fun d => d.parameters.length) = some 5 := by decide +kernel
theorem cd9_areNoHeads : Cond.code y9_areNoHeads c9_areNoHeads 1 (some .boolean) ∈ TT := t3 56 rfl rfl
theorem st9_areNoHeads : Cond.static y9_areNoHeads ∈ TT := t3 55 rfl rfl
theorem na9_areNoHeads : y9_areNoHeads.cls ≠ "java/lang/invoke/MethodHandle" ∧ y9_areNoHeads.cls ≠ "java/lang/invoke/VarHandle" ∧ (parseMethodDescriptor y9_areNoHeads.desc).map (fun d => d.parameters.length) = some 1 := by decide +kernel
theorem cd9_areNoPints : Cond.code y9_areNoPints c9_areNoPints 1 (some .boolean) ∈ TT := t3 59 rfl rfl
theorem st9_areNoPints : Cond.static y9_areNoPints ∈ TT := t3 58 rfl rfl
theorem na9_areNoPints : y9_areNoPints.cls ≠ "java/lang/invoke/MethodHandle" ∧ y9_areNoPints.cls ≠ "java/lang/invoke/VarHandle" ∧ (parseMethodDescriptor y9_areNoPints.desc).map (fun d => d.parameters.length) = some 1 := by decide +kernel
theorem cd1_pullAt : Cond.code y1_pullAt c1_pullAt 4 (some .int) ∈ TT := t3 63 rfl rfl
theorem im1_pullAt : Cond.instanceMethod y1_pullAt ∈ TT := t3 61 rfl rfl
theorem se1_pullAt : Cond.selects y1_pullAt.cls y1_pullAt y1_pullAt ∈ TT := t3 62 rfl rfl
theorem na1_pullAt : y1_pullAt.cls ≠ "java/lang/invoke/MethodHandle" ∧ y1_pullAt.cls ≠ "java/lang/invoke/VarHandle" ∧ (parseMethodDescriptor y1_pullAt.desc).map (fun d => d.parameters.length) = some 3 := by decide +kernel
theorem cd9_stops : Cond.code y9_stops c9_stops 6 (some .int) ∈ TT := t3 67 rfl rfl
theorem im9_stops : Cond.instanceMethod y9_stops ∈ TT := t3 65 rfl rfl
theorem se9_stops : Cond.selects y9_stops.cls y9_stops y9_stops ∈ TT := t3 66 rfl rfl
theorem na9_stops : y9_stops.cls ≠ "java/lang/invoke/MethodHandle" ∧ y9_stops.cls ≠ "java/lang/invoke/VarHandle" ∧ (parseMethodDescriptor y9_stops.desc).map (fun d => d.parameters.length) = some 4 := by decide +kernel
theorem cd1_stopOf : Cond.code y1_stopOf c1_stopOf 5 (some .int) ∈ TT := t3 71 rfl rfl
theorem im1_stopOf : Cond.instanceMethod y1_stopOf ∈ TT := t3 69 rfl rfl
theorem se1_stopOf : Cond.selects y1_stopOf.cls y1_stopOf y1_stopOf ∈ TT := t3 70 rfl rfl
theorem na1_stopOf : y1_stopOf.cls ≠ "java/lang/invoke/MethodHandle" ∧ y1_stopOf.cls ≠ "java/lang/invoke/VarHandle" ∧ (parseMethodDescriptor y1_stopOf.desc).map (fun d => d.parameters.length) = some 2 := by decide +kernel
theorem cd9_least : Cond.code y9_least c9_least 5 (some .int) ∈ TT := t3 76 rfl rfl
theorem im9_least : Cond.instanceMethod y9_least ∈ TT := t3 74 rfl rfl
theorem se9_least : Cond.selects y9_least.cls y9_least y9_least ∈ TT := t3 75 rfl rfl
theorem na9_least : y9_least.cls ≠ "java/lang/invoke/MethodHandle" ∧ y9_least.cls ≠ "java/lang/invoke/VarHandle" ∧ (parseMethodDescriptor y9_least.desc).map (fun d => d.parameters.length) = some 3 := by decide +kernel
theorem cd1_leastWater : Cond.code y1_leastWater c1_leastWater 9 (some .int) ∈ TT := t3 80 rfl rfl
theorem im1_leastWater : Cond.instanceMethod y1_leastWater ∈ TT := t3 78 rfl rfl
theorem se1_leastWater : Cond.selects y1_leastWater.cls y1_leastWater y1_leastWater ∈ TT := t3 79 rfl rfl
theorem na1_leastWater : y1_leastWater.cls ≠ "java/lang/invoke/MethodHandle" ∧ y1_leastWater.cls ≠ "java/lang/invoke/VarHandle" ∧ (parseMethodDescriptor y1_leastWater.desc).map (fun d => d.parameters.length) = some 3 := by decide +kernel
theorem cdM_floorDiv : Cond.code yM_floorDiv cM_floorDiv 3 (some .int) ∈ TT := t3 83 rfl rfl
theorem stM_floorDiv : Cond.static yM_floorDiv ∈ TT := t3 82 rfl rfl
theorem naM_floorDiv : yM_floorDiv.cls ≠ "java/lang/invoke/MethodHandle" ∧ yM_floorDiv.cls ≠ "java/lang/invoke/VarHandle" ∧ (parseMethodDescriptor yM_floorDiv.desc).map (fun d => d.parameters.length) = some 2 := by decide +kernel
theorem cd9_jump : Cond.code y9_jump c9_jump 8 (some .int) ∈ TT := t3 88 rfl rfl
theorem im9_jump : Cond.instanceMethod y9_jump ∈ TT := t3 86 rfl rfl
theorem se9_jump : Cond.selects y9_jump.cls y9_jump y9_jump ∈ TT := t3 87 rfl rfl
theorem na9_jump : y9_jump.cls ≠ "java/lang/invoke/MethodHandle" ∧ y9_jump.cls ≠ "java/lang/invoke/VarHandle" ∧ (parseMethodDescriptor y9_jump.desc).map (fun d => d.parameters.length) = some 3 := by decide +kernel
theorem cd9_come : Cond.code y9_come c9_come 6 (some .int) ∈ TT := t3 92 rfl rfl
theorem im9_come : Cond.instanceMethod y9_come ∈ TT := t3 90 rfl rfl
theorem se9_come : Cond.selects y9_come.cls y9_come y9_come ∈ TT := t3 91 rfl rfl
theorem na9_come : y9_come.cls ≠ "java/lang/invoke/MethodHandle" ∧ y9_come.cls ≠ "java/lang/invoke/VarHandle" ∧ (parseMethodDescriptor y9_come.desc).map (fun d => d.parameters.length) = some 3 := by decide +kernel
theorem cd9_wet : Cond.code y9_wet c9_wet 3 (some .int) ∈ TT := t3 96 rfl rfl
theorem im9_wet : Cond.instanceMethod y9_wet ∈ TT := t3 94 rfl rfl
theorem se9_wet : Cond.selects y9_wet.cls y9_wet y9_wet ∈ TT := t3 95 rfl rfl
theorem na9_wet : y9_wet.cls ≠ "java/lang/invoke/MethodHandle" ∧ y9_wet.cls ≠ "java/lang/invoke/VarHandle" ∧ (parseMethodDescriptor y9_wet.desc).map (fun d => d.parameters.length) = some 1 := by decide +kernel
theorem cd9_pond : Cond.code y9_pond c9_pond 5 (some .int) ∈ TT := t3 100 rfl rfl
theorem im9_pond : Cond.instanceMethod y9_pond ∈ TT := t3 98 rfl rfl
theorem se9_pond : Cond.selects y9_pond.cls y9_pond y9_pond ∈ TT := t3 99 rfl rfl
theorem na9_pond : y9_pond.cls ≠ "java/lang/invoke/MethodHandle" ∧ y9_pond.cls ≠ "java/lang/invoke/VarHandle" ∧ (parseMethodDescriptor y9_pond.desc).map (fun d => d.parameters.length) = some 1 := by decide +kernel
theorem cd9_rule : Cond.code y9_rule c9_rule 3 (some .int) ∈ TT := t3 104 rfl rfl
theorem im9_rule : Cond.instanceMethod y9_rule ∈ TT := t3 102 rfl rfl
theorem se9_rule : Cond.selects y9_rule.cls y9_rule y9_rule ∈ TT := t3 103 rfl rfl
theorem na9_rule : y9_rule.cls ≠ "java/lang/invoke/MethodHandle" ∧ y9_rule.cls ≠ "java/lang/invoke/VarHandle" ∧ (parseMethodDescriptor y9_rule.desc).map (fun d => d.parameters.length) = some 2 := by decide +kernel
theorem cd9_isNoKind : Cond.code y9_isNoKind c9_isNoKind 1 (some .boolean) ∈ TT := t3 107 rfl rfl
theorem st9_isNoKind : Cond.static y9_isNoKind ∈ TT := t3 106 rfl rfl
theorem na9_isNoKind : y9_isNoKind.cls ≠ "java/lang/invoke/MethodHandle" ∧ y9_isNoKind.cls ≠ "java/lang/invoke/VarHandle" ∧ (parseMethodDescriptor y9_isNoKind.desc).map (fun d => d.parameters.length) = some 1 := by decide +kernel
theorem cd9_row : Cond.code y9_row c9_row 4 (some .int) ∈ TT := t3 111 rfl rfl
theorem im9_row : Cond.instanceMethod y9_row ∈ TT := t3 109 rfl rfl
theorem se9_row : Cond.selects y9_row.cls y9_row y9_row ∈ TT := t3 110 rfl rfl
theorem na9_row : y9_row.cls ≠ "java/lang/invoke/MethodHandle" ∧ y9_row.cls ≠ "java/lang/invoke/VarHandle" ∧ (parseMethodDescriptor y9_row.desc).map (fun d => d.parameters.length) = some 2 := by decide +kernel
theorem cd9_ruleAt : Cond.code y9_ruleAt c9_ruleAt 2 (some (.object "CliffCars$Rule")) ∈ TT := t3 115 rfl rfl
theorem im9_ruleAt : Cond.instanceMethod y9_ruleAt ∈ TT := t3 114 rfl rfl
theorem se9_ruleAt : Cond.selects y9_ruleAt.cls y9_ruleAt y9_ruleAt ∈ TT := tp 11 rfl
theorem na9_ruleAt : y9_ruleAt.cls ≠ "java/lang/invoke/MethodHandle" ∧ y9_ruleAt.cls ≠ "java/lang/invoke/VarHandle" ∧ (parseMethodDescriptor y9_ruleAt.desc).map (fun d => d.parameters.length) = some 1 := by decide +kernel
theorem cd4_hear : Cond.code y4_hear c4_hear 2 (some .boolean) ∈ TT := t3 119 rfl rfl
theorem im4_hear : Cond.instanceMethod y4_hear ∈ TT := t3 117 rfl rfl
theorem se4_hear : Cond.selects y4_hear.cls y4_hear y4_hear ∈ TT := t3 118 rfl rfl
theorem na4_hear : y4_hear.cls ≠ "java/lang/invoke/MethodHandle" ∧ y4_hear.cls ≠ "java/lang/invoke/VarHandle" ∧ (parseMethodDescriptor y4_hear.desc).map (fun d => d.parameters.length) = some 1 := by decide +kernel
theorem cd9_day : Cond.code y9_day c9_day 5 (some .int) ∈ TT := t3 123 rfl rfl
theorem im9_day : Cond.instanceMethod y9_day ∈ TT := t3 121 rfl rfl
theorem se9_day : Cond.selects y9_day.cls y9_day y9_day ∈ TT := t3 122 rfl rfl
theorem na9_day : y9_day.cls ≠ "java/lang/invoke/MethodHandle" ∧ y9_day.cls ≠ "java/lang/invoke/VarHandle" ∧ (parseMethodDescriptor y9_day.desc).map (fun d => d.parameters.length) = some 2 := by decide +kernel
theorem cd7_setTo : Cond.code y7_setTo c7_setTo 3 none ∈ TT := t3 127 rfl rfl
theorem im7_setTo : Cond.instanceMethod y7_setTo ∈ TT := t3 125 rfl rfl
theorem se7_setTo : Cond.selects y7_setTo.cls y7_setTo y7_setTo ∈ TT := t3 126 rfl rfl
theorem na7_setTo : y7_setTo.cls ≠ "java/lang/invoke/MethodHandle" ∧ y7_setTo.cls ≠ "java/lang/invoke/VarHandle" ∧ (parseMethodDescriptor y7_setTo.desc).map (fun d => d.parameters.length) = some 2 := by decide +kernel
theorem cd2_leadBy : Cond.code y2_leadBy c2_leadBy 4 none ∈ TT := t3 135 rfl rfl
theorem im2_leadBy : Cond.instanceMethod y2_leadBy ∈ TT := t3 133 rfl rfl
theorem se2_leadBy : Cond.selects y2_leadBy.cls y2_leadBy y2_leadBy ∈ TT := t3 134 rfl rfl
theorem na2_leadBy : y2_leadBy.cls ≠ "java/lang/invoke/MethodHandle" ∧ y2_leadBy.cls ≠ "java/lang/invoke/VarHandle" ∧ (parseMethodDescriptor y2_leadBy.desc).map (fun d => d.parameters.length) = some 2 := by decide +kernel
theorem cd4_leastLeft : Cond.code y4_leastLeft c4_leastLeft 1 (some .int) ∈ TT := t3 139 rfl rfl
theorem im4_leastLeft : Cond.instanceMethod y4_leastLeft ∈ TT := t3 137 rfl rfl
theorem se4_leastLeft : Cond.selects y4_leastLeft.cls y4_leastLeft y4_leastLeft ∈ TT := t3 138 rfl rfl
theorem na4_leastLeft : y4_leastLeft.cls ≠ "java/lang/invoke/MethodHandle" ∧ y4_leastLeft.cls ≠ "java/lang/invoke/VarHandle" ∧ (parseMethodDescriptor y4_leastLeft.desc).map (fun d => d.parameters.length) = some 0 := by decide +kernel
theorem cd3_begin : Cond.code y3_begin c3_begin 2 none ∈ TT := t3 143 rfl rfl
theorem im3_begin : Cond.instanceMethod y3_begin ∈ TT := t3 141 rfl rfl
theorem se3_begin : Cond.selects y3_begin.cls y3_begin y3_begin ∈ TT := t3 142 rfl rfl
theorem na3_begin : y3_begin.cls ≠ "java/lang/invoke/MethodHandle" ∧ y3_begin.cls ≠ "java/lang/invoke/VarHandle" ∧ (parseMethodDescriptor y3_begin.desc).map (fun d => d.parameters.length) = some 1 := by decide +kernel
theorem cd2_begin : Cond.code y2_begin c2_begin 2 none ∈ TT := t3 147 rfl rfl
theorem im2_begin : Cond.instanceMethod y2_begin ∈ TT := t3 146 rfl rfl
theorem se2_begin : Cond.selects y2_begin.cls y2_begin y2_begin ∈ TT := tp 12 rfl
theorem na2_begin : y2_begin.cls ≠ "java/lang/invoke/MethodHandle" ∧ y2_begin.cls ≠ "java/lang/invoke/VarHandle" ∧ (parseMethodDescriptor y2_begin.desc).map (fun d => d.parameters.length) = some 1 := by decide +kernel
theorem cd2_open : Cond.code y2_open c2_open 2 none ∈ TT := t3 151 rfl rfl
theorem im2_open : Cond.instanceMethod y2_open ∈ TT := t3 150 rfl rfl
theorem se2_open : Cond.selects y2_open.cls y2_open y2_open ∈ TT := tp 13 rfl
theorem na2_open : y2_open.cls ≠ "java/lang/invoke/MethodHandle" ∧ y2_open.cls ≠ "java/lang/invoke/VarHandle" ∧ (parseMethodDescriptor y2_open.desc).map (fun d => d.parameters.length) = some 1 := by decide +kernel
theorem cd7_pondWithSpring : Cond.code y7_pondWithSpring c7_pondWithSpring 3 (some .int) ∈ TT := t3 155 rfl rfl
theorem im7_pondWithSpring : Cond.instanceMethod y7_pondWithSpring ∈ TT := t3 153 rfl rfl
theorem se7_pondWithSpring : Cond.selects y7_pondWithSpring.cls y7_pondWithSpring y7_pondWithSpring ∈ TT := t3 154 rfl rfl
theorem na7_pondWithSpring : y7_pondWithSpring.cls ≠ "java/lang/invoke/MethodHandle" ∧ y7_pondWithSpring.cls ≠ "java/lang/invoke/VarHandle" ∧ (parseMethodDescriptor y7_pondWithSpring.desc).map (fun d => d.parameters.length) = some 2 := by decide +kernel
theorem cd7_comingAbove : Cond.code y7_comingAbove c7_comingAbove 2 (some .int) ∈ TT := t3 160 rfl rfl
theorem im7_comingAbove : Cond.instanceMethod y7_comingAbove ∈ TT := t3 158 rfl rfl
theorem se7_comingAbove : Cond.selects y7_comingAbove.cls y7_comingAbove y7_comingAbove ∈ TT := t3 159 rfl rfl
theorem na7_comingAbove : y7_comingAbove.cls ≠ "java/lang/invoke/MethodHandle" ∧ y7_comingAbove.cls ≠ "java/lang/invoke/VarHandle" ∧ (parseMethodDescriptor y7_comingAbove.desc).map (fun d => d.parameters.length) = some 1 := by decide +kernel
theorem cd7_comingBelow : Cond.code y7_comingBelow c7_comingBelow 2 (some .int) ∈ TT := t3 164 rfl rfl
theorem im7_comingBelow : Cond.instanceMethod y7_comingBelow ∈ TT := t3 162 rfl rfl
theorem se7_comingBelow : Cond.selects y7_comingBelow.cls y7_comingBelow y7_comingBelow ∈ TT := t3 163 rfl rfl
theorem na7_comingBelow : y7_comingBelow.cls ≠ "java/lang/invoke/MethodHandle" ∧ y7_comingBelow.cls ≠ "java/lang/invoke/VarHandle" ∧ (parseMethodDescriptor y7_comingBelow.desc).map (fun d => d.parameters.length) = some 1 := by decide +kernel
theorem cd7_seated : Cond.code y7_seated c7_seated 2 (some .int) ∈ TT := t3 170 rfl rfl
theorem im7_seated : Cond.instanceMethod y7_seated ∈ TT := t3 168 rfl rfl
theorem se7_seated : Cond.selects y7_seated.cls y7_seated y7_seated ∈ TT := t3 169 rfl rfl
theorem na7_seated : y7_seated.cls ≠ "java/lang/invoke/MethodHandle" ∧ y7_seated.cls ≠ "java/lang/invoke/VarHandle" ∧ (parseMethodDescriptor y7_seated.desc).map (fun d => d.parameters.length) = some 1 := by decide +kernel
theorem cd2_tripCanBe : Cond.code y2_tripCanBe c2_tripCanBe 1 (some .boolean) ∈ TT := t3 174 rfl rfl
theorem im2_tripCanBe : Cond.instanceMethod y2_tripCanBe ∈ TT := t3 173 rfl rfl
theorem se2_tripCanBe : Cond.selects y2_tripCanBe.cls y2_tripCanBe y2_tripCanBe ∈ TT := tp 14 rfl
theorem na2_tripCanBe : y2_tripCanBe.cls ≠ "java/lang/invoke/MethodHandle" ∧ y2_tripCanBe.cls ≠ "java/lang/invoke/VarHandle" ∧ (parseMethodDescriptor y2_tripCanBe.desc).map (fun d => d.parameters.length) = some 0 := by decide +kernel
theorem cd7_leastFor : Cond.code y7_leastFor c7_leastFor 4 (some .int) ∈ TT := t3 178 rfl rfl
theorem im7_leastFor : Cond.instanceMethod y7_leastFor ∈ TT := t3 176 rfl rfl
theorem se7_leastFor : Cond.selects y7_leastFor.cls y7_leastFor y7_leastFor ∈ TT := t3 177 rfl rfl
theorem na7_leastFor : y7_leastFor.cls ≠ "java/lang/invoke/MethodHandle" ∧ y7_leastFor.cls ≠ "java/lang/invoke/VarHandle" ∧ (parseMethodDescriptor y7_leastFor.desc).map (fun d => d.parameters.length) = some 3 := by decide +kernel
theorem cd4_leads : Cond.code y4_leads c4_leads 2 (some .boolean) ∈ TT := t3 183 rfl rfl
theorem im4_leads : Cond.instanceMethod y4_leads ∈ TT := t3 181 rfl rfl
theorem se4_leads : Cond.selects y4_leads.cls y4_leads y4_leads ∈ TT := t3 182 rfl rfl
theorem na4_leads : y4_leads.cls ≠ "java/lang/invoke/MethodHandle" ∧ y4_leads.cls ≠ "java/lang/invoke/VarHandle" ∧ (parseMethodDescriptor y4_leads.desc).map (fun d => d.parameters.length) = some 1 := by decide +kernel
theorem cd2_isLastStep : Cond.code y2_isLastStep c2_isLastStep 1 (some .boolean) ∈ TT := t3 187 rfl rfl
theorem im2_isLastStep : Cond.instanceMethod y2_isLastStep ∈ TT := t3 185 rfl rfl
theorem se2_isLastStep : Cond.selects y2_isLastStep.cls y2_isLastStep y2_isLastStep ∈ TT := t3 186 rfl rfl
theorem na2_isLastStep : y2_isLastStep.cls ≠ "java/lang/invoke/MethodHandle" ∧ y2_isLastStep.cls ≠ "java/lang/invoke/VarHandle" ∧ (parseMethodDescriptor y2_isLastStep.desc).map (fun d => d.parameters.length) = some 0 := by decide +kernel
theorem cd3_worthOfTrip : Cond.code y3_worthOfTrip c3_worthOfTrip 8 (some .int) ∈ TT := t3 191 rfl rfl
theorem st3_worthOfTrip : Cond.static y3_worthOfTrip ∈ TT := t3 190 rfl rfl
theorem na3_worthOfTrip : y3_worthOfTrip.cls ≠ "java/lang/invoke/MethodHandle" ∧ y3_worthOfTrip.cls ≠ "java/lang/invoke/VarHandle" ∧ (parseMethodDescriptor y3_worthOfTrip.desc).map (fun d => d.parameters.length) = some 5 := by decide +kernel
theorem cd3_worthFrom : Cond.code y3_worthFrom c3_worthFrom 11 (some .int) ∈ TT := t3 197 rfl rfl
theorem st3_worthFrom : Cond.static y3_worthFrom ∈ TT := t3 196 rfl rfl
theorem na3_worthFrom : y3_worthFrom.cls ≠ "java/lang/invoke/MethodHandle" ∧ y3_worthFrom.cls ≠ "java/lang/invoke/VarHandle" ∧ (parseMethodDescriptor y3_worthFrom.desc).map (fun d => d.parameters.length) = some 5 := by decide +kernel
theorem cd3_waiting : Cond.code y3_waiting c3_waiting 1 (some .int) ∈ TT := t3 203 rfl rfl
theorem st3_waiting : Cond.static y3_waiting ∈ TT := t3 202 rfl rfl
theorem na3_waiting : y3_waiting.cls ≠ "java/lang/invoke/MethodHandle" ∧ y3_waiting.cls ≠ "java/lang/invoke/VarHandle" ∧ (parseMethodDescriptor y3_waiting.desc).map (fun d => d.parameters.length) = some 1 := by decide +kernel
theorem cd2_makeTrip : Cond.code y2_makeTrip c2_makeTrip 2 none ∈ TT := t3 212 rfl rfl
theorem im2_makeTrip : Cond.instanceMethod y2_makeTrip ∈ TT := t3 211 rfl rfl
theorem se2_makeTrip : Cond.selects y2_makeTrip.cls y2_makeTrip y2_makeTrip ∈ TT := tp 15 rfl
theorem na2_makeTrip : y2_makeTrip.cls ≠ "java/lang/invoke/MethodHandle" ∧ y2_makeTrip.cls ≠ "java/lang/invoke/VarHandle" ∧ (parseMethodDescriptor y2_makeTrip.desc).map (fun d => d.parameters.length) = some 1 := by decide +kernel
theorem cd2_close : Cond.code y2_close c2_close 1 none ∈ TT := t3 216 rfl rfl
theorem im2_close : Cond.instanceMethod y2_close ∈ TT := t3 215 rfl rfl
theorem se2_close : Cond.selects y2_close.cls y2_close y2_close ∈ TT := tp 16 rfl
theorem na2_close : y2_close.cls ≠ "java/lang/invoke/MethodHandle" ∧ y2_close.cls ≠ "java/lang/invoke/VarHandle" ∧ (parseMethodDescriptor y2_close.desc).map (fun d => d.parameters.length) = some 0 := by decide +kernel
theorem cd9_waits : Cond.code y9_waits c9_waits 7 (some .long) ∈ TT := t3 220 rfl rfl
theorem im9_waits : Cond.instanceMethod y9_waits ∈ TT := t3 218 rfl rfl
theorem se9_waits : Cond.selects y9_waits.cls y9_waits y9_waits ∈ TT := t3 219 rfl rfl
theorem na9_waits : y9_waits.cls ≠ "java/lang/invoke/MethodHandle" ∧ y9_waits.cls ≠ "java/lang/invoke/VarHandle" ∧ (parseMethodDescriptor y9_waits.desc).map (fun d => d.parameters.length) = some 5 := by decide +kernel
theorem cd9_isNoCrowd : Cond.code y9_isNoCrowd c9_isNoCrowd 1 (some .boolean) ∈ TT := t3 223 rfl rfl
theorem st9_isNoCrowd : Cond.static y9_isNoCrowd ∈ TT := t3 222 rfl rfl
theorem na9_isNoCrowd : y9_isNoCrowd.cls ≠ "java/lang/invoke/MethodHandle" ∧ y9_isNoCrowd.cls ≠ "java/lang/invoke/VarHandle" ∧ (parseMethodDescriptor y9_isNoCrowd.desc).map (fun d => d.parameters.length) = some 1 := by decide +kernel
theorem cd3_gainOfTrip : Cond.code y3_gainOfTrip c3_gainOfTrip 9 (some .int) ∈ TT := t3 229 rfl rfl
theorem im3_gainOfTrip : Cond.instanceMethod y3_gainOfTrip ∈ TT := t3 227 rfl rfl
theorem se3_gainOfTrip : Cond.selects y3_gainOfTrip.cls y3_gainOfTrip y3_gainOfTrip ∈ TT := t3 228 rfl rfl
theorem na3_gainOfTrip : y3_gainOfTrip.cls ≠ "java/lang/invoke/MethodHandle" ∧ y3_gainOfTrip.cls ≠ "java/lang/invoke/VarHandle" ∧ (parseMethodDescriptor y3_gainOfTrip.desc).map (fun d => d.parameters.length) = some 4 := by decide +kernel
theorem cd9_bell : Cond.code y9_bell c9_bell 5 (some .int) ∈ TT := t3 233 rfl rfl
theorem im9_bell : Cond.instanceMethod y9_bell ∈ TT := t3 231 rfl rfl
theorem se9_bell : Cond.selects y9_bell.cls y9_bell y9_bell ∈ TT := t3 232 rfl rfl
theorem na9_bell : y9_bell.cls ≠ "java/lang/invoke/MethodHandle" ∧ y9_bell.cls ≠ "java/lang/invoke/VarHandle" ∧ (parseMethodDescriptor y9_bell.desc).map (fun d => d.parameters.length) = some 0 := by decide +kernel
theorem cd2_worth : Cond.code y2_worth c2_worth 1 (some .int) ∈ TT := t3 237 rfl rfl
theorem im2_worth : Cond.instanceMethod y2_worth ∈ TT := t3 235 rfl rfl
theorem se2_worth : Cond.selects y2_worth.cls y2_worth y2_worth ∈ TT := t3 236 rfl rfl
theorem na2_worth : y2_worth.cls ≠ "java/lang/invoke/MethodHandle" ∧ y2_worth.cls ≠ "java/lang/invoke/VarHandle" ∧ (parseMethodDescriptor y2_worth.desc).map (fun d => d.parameters.length) = some 0 := by decide +kernel
theorem cd9_whit : Cond.code y9_whit c9_whit 3 (some .int) ∈ TT := t4 1 rfl rfl
theorem im9_whit : Cond.instanceMethod y9_whit ∈ TT := t3 239 rfl rfl
theorem se9_whit : Cond.selects y9_whit.cls y9_whit y9_whit ∈ TT := t4 0 rfl rfl
theorem na9_whit : y9_whit.cls ≠ "java/lang/invoke/MethodHandle" ∧ y9_whit.cls ≠ "java/lang/invoke/VarHandle" ∧ (parseMethodDescriptor y9_whit.desc).map (fun d => d.parameters.length) = some 0 := by decide +kernel
theorem cd7_crowdBelow : Cond.code y7_crowdBelow c7_crowdBelow 3 none ∈ TT := t4 5 rfl rfl
theorem im7_crowdBelow : Cond.instanceMethod y7_crowdBelow ∈ TT := t4 3 rfl rfl
theorem se7_crowdBelow : Cond.selects y7_crowdBelow.cls y7_crowdBelow y7_crowdBelow ∈ TT := t4 4 rfl rfl
theorem na7_crowdBelow : y7_crowdBelow.cls ≠ "java/lang/invoke/MethodHandle" ∧ y7_crowdBelow.cls ≠ "java/lang/invoke/VarHandle" ∧ (parseMethodDescriptor y7_crowdBelow.desc).map (fun d => d.parameters.length) = some 1 := by decide +kernel
theorem cd9_offer : Cond.code y9_offer c9_offer 4 (some .int) ∈ TT := t4 9 rfl rfl
theorem im9_offer : Cond.instanceMethod y9_offer ∈ TT := t4 7 rfl rfl
theorem se9_offer : Cond.selects y9_offer.cls y9_offer y9_offer ∈ TT := t4 8 rfl rfl
theorem na9_offer : y9_offer.cls ≠ "java/lang/invoke/MethodHandle" ∧ y9_offer.cls ≠ "java/lang/invoke/VarHandle" ∧ (parseMethodDescriptor y9_offer.desc).map (fun d => d.parameters.length) = some 3 := by decide +kernel
theorem cd9_buy : Cond.code y9_buy c9_buy 9 (some .int) ∈ TT := t4 13 rfl rfl
theorem im9_buy : Cond.instanceMethod y9_buy ∈ TT := t4 11 rfl rfl
theorem se9_buy : Cond.selects y9_buy.cls y9_buy y9_buy ∈ TT := t4 12 rfl rfl
theorem na9_buy : y9_buy.cls ≠ "java/lang/invoke/MethodHandle" ∧ y9_buy.cls ≠ "java/lang/invoke/VarHandle" ∧ (parseMethodDescriptor y9_buy.desc).map (fun d => d.parameters.length) = some 1 := by decide +kernel
theorem cd5_priceOf : Cond.code y5_priceOf c5_priceOf 4 (some .int) ∈ TT := t4 17 rfl rfl
theorem im5_priceOf : Cond.instanceMethod y5_priceOf ∈ TT := t4 15 rfl rfl
theorem se5_priceOf : Cond.selects y5_priceOf.cls y5_priceOf y5_priceOf ∈ TT := t4 16 rfl rfl
theorem na5_priceOf : y5_priceOf.cls ≠ "java/lang/invoke/MethodHandle" ∧ y5_priceOf.cls ≠ "java/lang/invoke/VarHandle" ∧ (parseMethodDescriptor y5_priceOf.desc).map (fun d => d.parameters.length) = some 1 := by decide +kernel
theorem cd9_worthWith : Cond.code y9_worthWith c9_worthWith 4 (some .int) ∈ TT := t4 21 rfl rfl
theorem im9_worthWith : Cond.instanceMethod y9_worthWith ∈ TT := t4 20 rfl rfl
theorem se9_worthWith : Cond.selects y9_worthWith.cls y9_worthWith y9_worthWith ∈ TT := tp 17 rfl
theorem na9_worthWith : y9_worthWith.cls ≠ "java/lang/invoke/MethodHandle" ∧ y9_worthWith.cls ≠ "java/lang/invoke/VarHandle" ∧ (parseMethodDescriptor y9_worthWith.desc).map (fun d => d.parameters.length) = some 2 := by decide +kernel
theorem cd7_add : Cond.code y7_add c7_add 3 none ∈ TT := t4 25 rfl rfl
theorem im7_add : Cond.instanceMethod y7_add ∈ TT := t4 23 rfl rfl
theorem se7_add : Cond.selects y7_add.cls y7_add y7_add ∈ TT := t4 24 rfl rfl
theorem na7_add : y7_add.cls ≠ "java/lang/invoke/MethodHandle" ∧ y7_add.cls ≠ "java/lang/invoke/VarHandle" ∧ (parseMethodDescriptor y7_add.desc).map (fun d => d.parameters.length) = some 2 := by decide +kernel
theorem cd9_judge : Cond.code y9_judge c9_judge 5 (some .int) ∈ TT := t4 29 rfl rfl
theorem im9_judge : Cond.instanceMethod y9_judge ∈ TT := t4 27 rfl rfl
theorem se9_judge : Cond.selects y9_judge.cls y9_judge y9_judge ∈ TT := t4 28 rfl rfl
theorem na9_judge : y9_judge.cls ≠ "java/lang/invoke/MethodHandle" ∧ y9_judge.cls ≠ "java/lang/invoke/VarHandle" ∧ (parseMethodDescriptor y9_judge.desc).map (fun d => d.parameters.length) = some 2 := by decide +kernel
theorem cd9_isNoTape : Cond.code y9_isNoTape c9_isNoTape 1 (some .boolean) ∈ TT := t4 32 rfl rfl
theorem st9_isNoTape : Cond.static y9_isNoTape ∈ TT := t4 31 rfl rfl
theorem na9_isNoTape : y9_isNoTape.cls ≠ "java/lang/invoke/MethodHandle" ∧ y9_isNoTape.cls ≠ "java/lang/invoke/VarHandle" ∧ (parseMethodDescriptor y9_isNoTape.desc).map (fun d => d.parameters.length) = some 1 := by decide +kernel
theorem cd6_isEmpty : Cond.code y6_isEmpty c6_isEmpty 1 (some .boolean) ∈ TT := t4 36 rfl rfl
theorem im6_isEmpty : Cond.instanceMethod y6_isEmpty ∈ TT := t4 34 rfl rfl
theorem se6_isEmpty : Cond.selects y6_isEmpty.cls y6_isEmpty y6_isEmpty ∈ TT := t4 35 rfl rfl
theorem na6_isEmpty : y6_isEmpty.cls ≠ "java/lang/invoke/MethodHandle" ∧ y6_isEmpty.cls ≠ "java/lang/invoke/VarHandle" ∧ (parseMethodDescriptor y6_isEmpty.desc).map (fun d => d.parameters.length) = some 0 := by decide +kernel
theorem cd2_faultOf : Cond.code y2_faultOf c2_faultOf 6 (some .int) ∈ TT := t4 40 rfl rfl
theorem im2_faultOf : Cond.instanceMethod y2_faultOf ∈ TT := t4 38 rfl rfl
theorem se2_faultOf : Cond.selects y2_faultOf.cls y2_faultOf y2_faultOf ∈ TT := t4 39 rfl rfl
theorem na2_faultOf : y2_faultOf.cls ≠ "java/lang/invoke/MethodHandle" ∧ y2_faultOf.cls ≠ "java/lang/invoke/VarHandle" ∧ (parseMethodDescriptor y2_faultOf.desc).map (fun d => d.parameters.length) = some 3 := by decide +kernel
theorem cd6_reaches : Cond.code y6_reaches c6_reaches 3 (some .boolean) ∈ TT := t4 44 rfl rfl
theorem im6_reaches : Cond.instanceMethod y6_reaches ∈ TT := t4 42 rfl rfl
theorem se6_reaches : Cond.selects y6_reaches.cls y6_reaches y6_reaches ∈ TT := t4 43 rfl rfl
theorem na6_reaches : y6_reaches.cls ≠ "java/lang/invoke/MethodHandle" ∧ y6_reaches.cls ≠ "java/lang/invoke/VarHandle" ∧ (parseMethodDescriptor y6_reaches.desc).map (fun d => d.parameters.length) = some 1 := by decide +kernel
theorem cd2_tripCanBeWith : Cond.code y2_tripCanBeWith c2_tripCanBeWith 2 (some .boolean) ∈ TT := t4 48 rfl rfl
theorem im2_tripCanBeWith : Cond.instanceMethod y2_tripCanBeWith ∈ TT := t4 47 rfl rfl
theorem se2_tripCanBeWith : Cond.selects y2_tripCanBeWith.cls y2_tripCanBeWith y2_tripCanBeWith ∈ TT := tp 18 rfl
theorem na2_tripCanBeWith : y2_tripCanBeWith.cls ≠ "java/lang/invoke/MethodHandle" ∧ y2_tripCanBeWith.cls ≠ "java/lang/invoke/VarHandle" ∧ (parseMethodDescriptor y2_tripCanBeWith.desc).map (fun d => d.parameters.length) = some 1 := by decide +kernel
theorem cd7_goesWith : Cond.code y7_goesWith c7_goesWith 5 (some .boolean) ∈ TT := t4 52 rfl rfl
theorem im7_goesWith : Cond.instanceMethod y7_goesWith ∈ TT := t4 50 rfl rfl
theorem se7_goesWith : Cond.selects y7_goesWith.cls y7_goesWith y7_goesWith ∈ TT := t4 51 rfl rfl
theorem na7_goesWith : y7_goesWith.cls ≠ "java/lang/invoke/MethodHandle" ∧ y7_goesWith.cls ≠ "java/lang/invoke/VarHandle" ∧ (parseMethodDescriptor y7_goesWith.desc).map (fun d => d.parameters.length) = some 4 := by decide +kernel
theorem cd9_image : Cond.code y9_image c9_image 1 (some .int) ∈ TT := t4 57 rfl rfl
theorem im9_image : Cond.instanceMethod y9_image ∈ TT := t4 55 rfl rfl
theorem se9_image : Cond.selects y9_image.cls y9_image y9_image ∈ TT := t4 56 rfl rfl
theorem na9_image : y9_image.cls ≠ "java/lang/invoke/MethodHandle" ∧ y9_image.cls ≠ "java/lang/invoke/VarHandle" ∧ (parseMethodDescriptor y9_image.desc).map (fun d => d.parameters.length) = some 0 := by decide +kernel
theorem cd5_becomeLike : Cond.code y5_becomeLike c5_becomeLike 2 none ∈ TT := t4 61 rfl rfl
theorem im5_becomeLike : Cond.instanceMethod y5_becomeLike ∈ TT := t4 59 rfl rfl
theorem se5_becomeLike : Cond.selects y5_becomeLike.cls y5_becomeLike y5_becomeLike ∈ TT := t4 60 rfl rfl
theorem na5_becomeLike : y5_becomeLike.cls ≠ "java/lang/invoke/MethodHandle" ∧ y5_becomeLike.cls ≠ "java/lang/invoke/VarHandle" ∧ (parseMethodDescriptor y5_becomeLike.desc).map (fun d => d.parameters.length) = some 1 := by decide +kernel
theorem cd9_undo : Cond.code y9_undo c9_undo 1 (some .int) ∈ TT := t4 66 rfl rfl
theorem im9_undo : Cond.instanceMethod y9_undo ∈ TT := t4 64 rfl rfl
theorem se9_undo : Cond.selects y9_undo.cls y9_undo y9_undo ∈ TT := t4 65 rfl rfl
theorem na9_undo : y9_undo.cls ≠ "java/lang/invoke/MethodHandle" ∧ y9_undo.cls ≠ "java/lang/invoke/VarHandle" ∧ (parseMethodDescriptor y9_undo.desc).map (fun d => d.parameters.length) = some 0 := by decide +kernel
theorem cd9_act : Cond.code y9_act c9_act 5 (some .int) ∈ TT := t4 70 rfl rfl
theorem im9_act : Cond.instanceMethod y9_act ∈ TT := t4 68 rfl rfl
theorem se9_act : Cond.selects y9_act.cls y9_act y9_act ∈ TT := t4 69 rfl rfl
theorem na9_act : y9_act.cls ≠ "java/lang/invoke/MethodHandle" ∧ y9_act.cls ≠ "java/lang/invoke/VarHandle" ∧ (parseMethodDescriptor y9_act.desc).map (fun d => d.parameters.length) = some 3 := by decide +kernel
theorem cd4_goes : Cond.code y4_goes c4_goes 4 (some .int) ∈ TT := t4 73 rfl rfl
theorem st4_goes : Cond.static y4_goes ∈ TT := t4 72 rfl rfl
theorem na4_goes : y4_goes.cls ≠ "java/lang/invoke/MethodHandle" ∧ y4_goes.cls ≠ "java/lang/invoke/VarHandle" ∧ (parseMethodDescriptor y4_goes.desc).map (fun d => d.parameters.length) = some 4 := by decide +kernel
theorem cd8_add : Cond.code y8_add c8_add 2 none ∈ TT := t4 77 rfl rfl
theorem im8_add : Cond.instanceMethod y8_add ∈ TT := t4 75 rfl rfl
theorem se8_add : Cond.selects y8_add.cls y8_add y8_add ∈ TT := t4 76 rfl rfl
theorem na8_add : y8_add.cls ≠ "java/lang/invoke/MethodHandle" ∧ y8_add.cls ≠ "java/lang/invoke/VarHandle" ∧ (parseMethodDescriptor y8_add.desc).map (fun d => d.parameters.length) = some 1 := by decide +kernel
theorem cd4_holds : Cond.code y4_holds c4_holds 4 (some .int) ∈ TT := t4 81 rfl rfl
theorem st4_holds : Cond.static y4_holds ∈ TT := t4 80 rfl rfl
theorem na4_holds : y4_holds.cls ≠ "java/lang/invoke/MethodHandle" ∧ y4_holds.cls ≠ "java/lang/invoke/VarHandle" ∧ (parseMethodDescriptor y4_holds.desc).map (fun d => d.parameters.length) = some 4 := by decide +kernel
theorem cd4_tells : Cond.code y4_tells c4_tells 4 (some .int) ∈ TT := t4 85 rfl rfl
theorem st4_tells : Cond.static y4_tells ∈ TT := t4 84 rfl rfl
theorem na4_tells : y4_tells.cls ≠ "java/lang/invoke/MethodHandle" ∧ y4_tells.cls ≠ "java/lang/invoke/VarHandle" ∧ (parseMethodDescriptor y4_tells.desc).map (fun d => d.parameters.length) = some 4 := by decide +kernel
theorem cd9_trace : Cond.code y9_trace c9_trace 2 (some .int) ∈ TT := t4 90 rfl rfl
theorem im9_trace : Cond.instanceMethod y9_trace ∈ TT := t4 88 rfl rfl
theorem se9_trace : Cond.selects y9_trace.cls y9_trace y9_trace ∈ TT := t4 89 rfl rfl
theorem na9_trace : y9_trace.cls ≠ "java/lang/invoke/MethodHandle" ∧ y9_trace.cls ≠ "java/lang/invoke/VarHandle" ∧ (parseMethodDescriptor y9_trace.desc).map (fun d => d.parameters.length) = some 1 := by decide +kernel
theorem cd9_taken : Cond.code y9_taken c9_taken 4 (some .int) ∈ TT := t4 94 rfl rfl
theorem im9_taken : Cond.instanceMethod y9_taken ∈ TT := t4 92 rfl rfl
theorem se9_taken : Cond.selects y9_taken.cls y9_taken y9_taken ∈ TT := t4 93 rfl rfl
theorem na9_taken : y9_taken.cls ≠ "java/lang/invoke/MethodHandle" ∧ y9_taken.cls ≠ "java/lang/invoke/VarHandle" ∧ (parseMethodDescriptor y9_taken.desc).map (fun d => d.parameters.length) = some 2 := by decide +kernel
theorem cd4_isUnder : Cond.code y4_isUnder c4_isUnder 2 (some .boolean) ∈ TT := t4 98 rfl rfl
theorem im4_isUnder : Cond.instanceMethod y4_isUnder ∈ TT := t4 96 rfl rfl
theorem se4_isUnder : Cond.selects y4_isUnder.cls y4_isUnder y4_isUnder ∈ TT := t4 97 rfl rfl
theorem na4_isUnder : y4_isUnder.cls ≠ "java/lang/invoke/MethodHandle" ∧ y4_isUnder.cls ≠ "java/lang/invoke/VarHandle" ∧ (parseMethodDescriptor y4_isUnder.desc).map (fun d => d.parameters.length) = some 1 := by decide +kernel
theorem cd9_count : Cond.code y9_count c9_count 2 (some .int) ∈ TT := t4 102 rfl rfl
theorem im9_count : Cond.instanceMethod y9_count ∈ TT := t4 100 rfl rfl
theorem se9_count : Cond.selects y9_count.cls y9_count y9_count ∈ TT := t4 101 rfl rfl
theorem na9_count : y9_count.cls ≠ "java/lang/invoke/MethodHandle" ∧ y9_count.cls ≠ "java/lang/invoke/VarHandle" ∧ (parseMethodDescriptor y9_count.desc).map (fun d => d.parameters.length) = some 1 := by decide +kernel
theorem cd9_tape : Cond.code y9_tape c9_tape 4 (some .int) ∈ TT := t4 106 rfl rfl
theorem im9_tape : Cond.instanceMethod y9_tape ∈ TT := t4 104 rfl rfl
theorem se9_tape : Cond.selects y9_tape.cls y9_tape y9_tape ∈ TT := t4 105 rfl rfl
theorem na9_tape : y9_tape.cls ≠ "java/lang/invoke/MethodHandle" ∧ y9_tape.cls ≠ "java/lang/invoke/VarHandle" ∧ (parseMethodDescriptor y9_tape.desc).map (fun d => d.parameters.length) = some 3 := by decide +kernel
theorem cd6_hold : Cond.code y6_hold c6_hold 4 none ∈ TT := t4 110 rfl rfl
theorem im6_hold : Cond.instanceMethod y6_hold ∈ TT := t4 108 rfl rfl
theorem se6_hold : Cond.selects y6_hold.cls y6_hold y6_hold ∈ TT := t4 109 rfl rfl
theorem na6_hold : y6_hold.cls ≠ "java/lang/invoke/MethodHandle" ∧ y6_hold.cls ≠ "java/lang/invoke/VarHandle" ∧ (parseMethodDescriptor y6_hold.desc).map (fun d => d.parameters.length) = some 2 := by decide +kernel
theorem cd9_item : Cond.code y9_item c9_item 6 (some .int) ∈ TT := t4 115 rfl rfl
theorem im9_item : Cond.instanceMethod y9_item ∈ TT := t4 113 rfl rfl
theorem se9_item : Cond.selects y9_item.cls y9_item y9_item ∈ TT := t4 114 rfl rfl
theorem na9_item : y9_item.cls ≠ "java/lang/invoke/MethodHandle" ∧ y9_item.cls ≠ "java/lang/invoke/VarHandle" ∧ (parseMethodDescriptor y9_item.desc).map (fun d => d.parameters.length) = some 3 := by decide +kernel
theorem cd6_lowestOf : Cond.code y6_lowestOf c6_lowestOf 3 (some .long) ∈ TT := t4 120 rfl rfl
theorem im6_lowestOf : Cond.instanceMethod y6_lowestOf ∈ TT := t4 118 rfl rfl
theorem se6_lowestOf : Cond.selects y6_lowestOf.cls y6_lowestOf y6_lowestOf ∈ TT := t4 119 rfl rfl
theorem na6_lowestOf : y6_lowestOf.cls ≠ "java/lang/invoke/MethodHandle" ∧ y6_lowestOf.cls ≠ "java/lang/invoke/VarHandle" ∧ (parseMethodDescriptor y6_lowestOf.desc).map (fun d => d.parameters.length) = some 1 := by decide +kernel
theorem cd9_read : Cond.code y9_read c9_read 3 (some .long) ∈ TT := t4 124 rfl rfl
theorem im9_read : Cond.instanceMethod y9_read ∈ TT := t4 122 rfl rfl
theorem se9_read : Cond.selects y9_read.cls y9_read y9_read ∈ TT := t4 123 rfl rfl
theorem na9_read : y9_read.cls ≠ "java/lang/invoke/MethodHandle" ∧ y9_read.cls ≠ "java/lang/invoke/VarHandle" ∧ (parseMethodDescriptor y9_read.desc).map (fun d => d.parameters.length) = some 2 := by decide +kernel
theorem cd9_shift : Cond.code y9_shift c9_shift 8 (some .int) ∈ TT := t4 128 rfl rfl
theorem im9_shift : Cond.instanceMethod y9_shift ∈ TT := t4 126 rfl rfl
theorem se9_shift : Cond.selects y9_shift.cls y9_shift y9_shift ∈ TT := t4 127 rfl rfl
theorem na9_shift : y9_shift.cls ≠ "java/lang/invoke/MethodHandle" ∧ y9_shift.cls ≠ "java/lang/invoke/VarHandle" ∧ (parseMethodDescriptor y9_shift.desc).map (fun d => d.parameters.length) = some 5 := by decide +kernel
theorem cd6_hasStretch : Cond.code y6_hasStretch c6_hasStretch 3 (some .boolean) ∈ TT := t4 132 rfl rfl
theorem im6_hasStretch : Cond.instanceMethod y6_hasStretch ∈ TT := t4 130 rfl rfl
theorem se6_hasStretch : Cond.selects y6_hasStretch.cls y6_hasStretch y6_hasStretch ∈ TT := t4 131 rfl rfl
theorem na6_hasStretch : y6_hasStretch.cls ≠ "java/lang/invoke/MethodHandle" ∧ y6_hasStretch.cls ≠ "java/lang/invoke/VarHandle" ∧ (parseMethodDescriptor y6_hasStretch.desc).map (fun d => d.parameters.length) = some 2 := by decide +kernel
theorem cd10_init : Cond.code y10_init c10_init 1 none ∈ TT := t4 138 rfl rfl
theorem im10_init : Cond.instanceMethod y10_init ∈ TT := t4 137 rfl rfl
theorem na10_init : y10_init.cls ≠ "java/lang/invoke/MethodHandle" ∧ y10_init.cls ≠ "java/lang/invoke/VarHandle" ∧ (parseMethodDescriptor y10_init.desc).map (fun d => d.parameters.length) = some 0 := by decide +kernel
theorem cd10_feed : Cond.code y10_feed c10_feed 4 (some .int) ∈ TT := t5 110 rfl rfl
theorem im10_feed : Cond.instanceMethod y10_feed ∈ TT := t5 108 rfl rfl
theorem se10_feed : Cond.selects y10_feed.cls y10_feed y10_feed ∈ TT := t5 109 rfl rfl
theorem na10_feed : y10_feed.cls ≠ "java/lang/invoke/MethodHandle" ∧ y10_feed.cls ≠ "java/lang/invoke/VarHandle" ∧ (parseMethodDescriptor y10_feed.desc).map (fun d => d.parameters.length) = some 2 := by decide +kernel
theorem cd10_in : Cond.code y10_in c10_in 4 (some .boolean) ∈ TT := t5 114 rfl rfl
theorem im10_in : Cond.instanceMethod y10_in ∈ TT := t5 113 rfl rfl
theorem se10_in : Cond.selects y10_in.cls y10_in y10_in ∈ TT := tp 19 rfl
theorem na10_in : y10_in.cls ≠ "java/lang/invoke/MethodHandle" ∧ y10_in.cls ≠ "java/lang/invoke/VarHandle" ∧ (parseMethodDescriptor y10_in.desc).map (fun d => d.parameters.length) = some 3 := by decide +kernel
theorem cd10_cliff : Cond.code y10_cliff c10_cliff 2 (some .int) ∈ TT := t5 118 rfl rfl
theorem im10_cliff : Cond.instanceMethod y10_cliff ∈ TT := t5 116 rfl rfl
theorem se10_cliff : Cond.selects y10_cliff.cls y10_cliff y10_cliff ∈ TT := t5 117 rfl rfl
theorem na10_cliff : y10_cliff.cls ≠ "java/lang/invoke/MethodHandle" ∧ y10_cliff.cls ≠ "java/lang/invoke/VarHandle" ∧ (parseMethodDescriptor y10_cliff.desc).map (fun d => d.parameters.length) = some 0 := by decide +kernel
theorem cd10_goesText : Cond.code y10_goesText c10_goesText 3 (some .boolean) ∈ TT := t5 122 rfl rfl
theorem im10_goesText : Cond.instanceMethod y10_goesText ∈ TT := t5 121 rfl rfl
theorem se10_goesText : Cond.selects y10_goesText.cls y10_goesText y10_goesText ∈ TT := tp 20 rfl
theorem na10_goesText : y10_goesText.cls ≠ "java/lang/invoke/MethodHandle" ∧ y10_goesText.cls ≠ "java/lang/invoke/VarHandle" ∧ (parseMethodDescriptor y10_goesText.desc).map (fun d => d.parameters.length) = some 1 := by decide +kernel
theorem cd10_takesClause : Cond.code y10_takesClause c10_takesClause 2 (some .boolean) ∈ TT := t5 126 rfl rfl
theorem im10_takesClause : Cond.instanceMethod y10_takesClause ∈ TT := t5 125 rfl rfl
theorem se10_takesClause : Cond.selects y10_takesClause.cls y10_takesClause y10_takesClause ∈ TT := tp 21 rfl
theorem na10_takesClause : y10_takesClause.cls ≠ "java/lang/invoke/MethodHandle" ∧ y10_takesClause.cls ≠ "java/lang/invoke/VarHandle" ∧ (parseMethodDescriptor y10_takesClause.desc).map (fun d => d.parameters.length) = some 1 := by decide +kernel
theorem cd10_takesHead : Cond.code y10_takesHead c10_takesHead 3 (some .boolean) ∈ TT := t5 130 rfl rfl
theorem im10_takesHead : Cond.instanceMethod y10_takesHead ∈ TT := t5 129 rfl rfl
theorem se10_takesHead : Cond.selects y10_takesHead.cls y10_takesHead y10_takesHead ∈ TT := tp 22 rfl
theorem na10_takesHead : y10_takesHead.cls ≠ "java/lang/invoke/MethodHandle" ∧ y10_takesHead.cls ≠ "java/lang/invoke/VarHandle" ∧ (parseMethodDescriptor y10_takesHead.desc).map (fun d => d.parameters.length) = some 1 := by decide +kernel
theorem cd10_second : Cond.code y10_second c10_second 1 (some .int) ∈ TT := t5 134 rfl rfl
theorem im10_second : Cond.instanceMethod y10_second ∈ TT := t5 133 rfl rfl
theorem se10_second : Cond.selects y10_second.cls y10_second y10_second ∈ TT := tp 23 rfl
theorem na10_second : y10_second.cls ≠ "java/lang/invoke/MethodHandle" ∧ y10_second.cls ≠ "java/lang/invoke/VarHandle" ∧ (parseMethodDescriptor y10_second.desc).map (fun d => d.parameters.length) = some 0 := by decide +kernel
theorem cd10_next : Cond.code y10_next c10_next 1 (some .int) ∈ TT := t5 138 rfl rfl
theorem im10_next : Cond.instanceMethod y10_next ∈ TT := t5 137 rfl rfl
theorem se10_next : Cond.selects y10_next.cls y10_next y10_next ∈ TT := tp 24 rfl
theorem na10_next : y10_next.cls ≠ "java/lang/invoke/MethodHandle" ∧ y10_next.cls ≠ "java/lang/invoke/VarHandle" ∧ (parseMethodDescriptor y10_next.desc).map (fun d => d.parameters.length) = some 0 := by decide +kernel
theorem cd10_takesWord : Cond.code y10_takesWord c10_takesWord 4 (some .boolean) ∈ TT := t5 143 rfl rfl
theorem im10_takesWord : Cond.instanceMethod y10_takesWord ∈ TT := t5 142 rfl rfl
theorem se10_takesWord : Cond.selects y10_takesWord.cls y10_takesWord y10_takesWord ∈ TT := tp 25 rfl
theorem na10_takesWord : y10_takesWord.cls ≠ "java/lang/invoke/MethodHandle" ∧ y10_takesWord.cls ≠ "java/lang/invoke/VarHandle" ∧ (parseMethodDescriptor y10_takesWord.desc).map (fun d => d.parameters.length) = some 2 := by decide +kernel
theorem cd10_takes : Cond.code y10_takes c10_takes 2 (some .boolean) ∈ TT := t5 147 rfl rfl
theorem im10_takes : Cond.instanceMethod y10_takes ∈ TT := t5 146 rfl rfl
theorem se10_takes : Cond.selects y10_takes.cls y10_takes y10_takes ∈ TT := tp 26 rfl
theorem na10_takes : y10_takes.cls ≠ "java/lang/invoke/MethodHandle" ∧ y10_takes.cls ≠ "java/lang/invoke/VarHandle" ∧ (parseMethodDescriptor y10_takes.desc).map (fun d => d.parameters.length) = some 1 := by decide +kernel
theorem cd10_takesNumber : Cond.code y10_takesNumber c10_takesNumber 3 (some .boolean) ∈ TT := t5 159 rfl rfl
theorem im10_takesNumber : Cond.instanceMethod y10_takesNumber ∈ TT := t5 158 rfl rfl
theorem se10_takesNumber : Cond.selects y10_takesNumber.cls y10_takesNumber y10_takesNumber ∈ TT := tp 27 rfl
theorem na10_takesNumber : y10_takesNumber.cls ≠ "java/lang/invoke/MethodHandle" ∧ y10_takesNumber.cls ≠ "java/lang/invoke/VarHandle" ∧ (parseMethodDescriptor y10_takesNumber.desc).map (fun d => d.parameters.length) = some 1 := by decide +kernel
theorem cd10_isDigit : Cond.code y10_isDigit c10_isDigit 1 (some .boolean) ∈ TT := t5 163 rfl rfl
theorem im10_isDigit : Cond.instanceMethod y10_isDigit ∈ TT := t5 162 rfl rfl
theorem se10_isDigit : Cond.selects y10_isDigit.cls y10_isDigit y10_isDigit ∈ TT := tp 28 rfl
theorem na10_isDigit : y10_isDigit.cls ≠ "java/lang/invoke/MethodHandle" ∧ y10_isDigit.cls ≠ "java/lang/invoke/VarHandle" ∧ (parseMethodDescriptor y10_isDigit.desc).map (fun d => d.parameters.length) = some 0 := by decide +kernel
theorem cd10_takesE : Cond.code y10_takesE c10_takesE 4 (some .boolean) ∈ TT := t5 167 rfl rfl
theorem im10_takesE : Cond.instanceMethod y10_takesE ∈ TT := t5 166 rfl rfl
theorem se10_takesE : Cond.selects y10_takesE.cls y10_takesE y10_takesE ∈ TT := tp 29 rfl
theorem na10_takesE : y10_takesE.cls ≠ "java/lang/invoke/MethodHandle" ∧ y10_takesE.cls ≠ "java/lang/invoke/VarHandle" ∧ (parseMethodDescriptor y10_takesE.desc).map (fun d => d.parameters.length) = some 1 := by decide +kernel
theorem cd10_takesTest : Cond.code y10_takesTest c10_takesTest 3 (some .boolean) ∈ TT := t5 171 rfl rfl
theorem im10_takesTest : Cond.instanceMethod y10_takesTest ∈ TT := t5 170 rfl rfl
theorem se10_takesTest : Cond.selects y10_takesTest.cls y10_takesTest y10_takesTest ∈ TT := tp 30 rfl
theorem na10_takesTest : y10_takesTest.cls ≠ "java/lang/invoke/MethodHandle" ∧ y10_takesTest.cls ≠ "java/lang/invoke/VarHandle" ∧ (parseMethodDescriptor y10_takesTest.desc).map (fun d => d.parameters.length) = some 0 := by decide +kernel
theorem cd10_put : Cond.code y10_put c10_put 2 none ∈ TT := t5 175 rfl rfl
theorem im10_put : Cond.instanceMethod y10_put ∈ TT := t5 174 rfl rfl
theorem se10_put : Cond.selects y10_put.cls y10_put y10_put ∈ TT := tp 31 rfl
theorem na10_put : y10_put.cls ≠ "java/lang/invoke/MethodHandle" ∧ y10_put.cls ≠ "java/lang/invoke/VarHandle" ∧ (parseMethodDescriptor y10_put.desc).map (fun d => d.parameters.length) = some 1 := by decide +kernel
theorem cd10_whole : Cond.code y10_whole c10_whole 1 none ∈ TT := t5 179 rfl rfl
theorem im10_whole : Cond.instanceMethod y10_whole ∈ TT := t5 178 rfl rfl
theorem se10_whole : Cond.selects y10_whole.cls y10_whole y10_whole ∈ TT := tp 32 rfl
theorem na10_whole : y10_whole.cls ≠ "java/lang/invoke/MethodHandle" ∧ y10_whole.cls ≠ "java/lang/invoke/VarHandle" ∧ (parseMethodDescriptor y10_whole.desc).map (fun d => d.parameters.length) = some 0 := by decide +kernel
theorem cd10_settle : Cond.code y10_settle c10_settle 2 none ∈ TT := t5 183 rfl rfl
theorem im10_settle : Cond.instanceMethod y10_settle ∈ TT := t5 182 rfl rfl
theorem se10_settle : Cond.selects y10_settle.cls y10_settle y10_settle ∈ TT := tp 33 rfl
theorem na10_settle : y10_settle.cls ≠ "java/lang/invoke/MethodHandle" ∧ y10_settle.cls ≠ "java/lang/invoke/VarHandle" ∧ (parseMethodDescriptor y10_settle.desc).map (fun d => d.parameters.length) = some 1 := by decide +kernel
theorem cd10_settleCliff : Cond.code y10_settleCliff c10_settleCliff 4 none ∈ TT := t5 187 rfl rfl
theorem im10_settleCliff : Cond.instanceMethod y10_settleCliff ∈ TT := t5 186 rfl rfl
theorem se10_settleCliff : Cond.selects y10_settleCliff.cls y10_settleCliff y10_settleCliff ∈ TT := tp 34 rfl
theorem na10_settleCliff : y10_settleCliff.cls ≠ "java/lang/invoke/MethodHandle" ∧ y10_settleCliff.cls ≠ "java/lang/invoke/VarHandle" ∧ (parseMethodDescriptor y10_settleCliff.desc).map (fun d => d.parameters.length) = some 1 := by decide +kernel
theorem cd10_min : Cond.code y10_min c10_min 3 (some .int) ∈ TT := t5 191 rfl rfl
theorem im10_min : Cond.instanceMethod y10_min ∈ TT := t5 190 rfl rfl
theorem se10_min : Cond.selects y10_min.cls y10_min y10_min ∈ TT := tp 35 rfl
theorem na10_min : y10_min.cls ≠ "java/lang/invoke/MethodHandle" ∧ y10_min.cls ≠ "java/lang/invoke/VarHandle" ∧ (parseMethodDescriptor y10_min.desc).map (fun d => d.parameters.length) = some 2 := by decide +kernel
theorem cd10_lastOf : Cond.code y10_lastOf c10_lastOf 2 (some .int) ∈ TT := t5 195 rfl rfl
theorem im10_lastOf : Cond.instanceMethod y10_lastOf ∈ TT := t5 194 rfl rfl
theorem se10_lastOf : Cond.selects y10_lastOf.cls y10_lastOf y10_lastOf ∈ TT := tp 36 rfl
theorem na10_lastOf : y10_lastOf.cls ≠ "java/lang/invoke/MethodHandle" ∧ y10_lastOf.cls ≠ "java/lang/invoke/VarHandle" ∧ (parseMethodDescriptor y10_lastOf.desc).map (fun d => d.parameters.length) = some 1 := by decide +kernel
theorem cd10_choose : Cond.code y10_choose c10_choose 3 (some .int) ∈ TT := t5 199 rfl rfl
theorem im10_choose : Cond.instanceMethod y10_choose ∈ TT := t5 197 rfl rfl
theorem se10_choose : Cond.selects y10_choose.cls y10_choose y10_choose ∈ TT := t5 198 rfl rfl
theorem na10_choose : y10_choose.cls ≠ "java/lang/invoke/MethodHandle" ∧ y10_choose.cls ≠ "java/lang/invoke/VarHandle" ∧ (parseMethodDescriptor y10_choose.desc).map (fun d => d.parameters.length) = some 1 := by decide +kernel
theorem cd10_of : Cond.code y10_of c10_of 2 (some .int) ∈ TT := t5 203 rfl rfl
theorem im10_of : Cond.instanceMethod y10_of ∈ TT := t5 201 rfl rfl
theorem se10_of : Cond.selects y10_of.cls y10_of y10_of ∈ TT := t5 202 rfl rfl
theorem na10_of : y10_of.cls ≠ "java/lang/invoke/MethodHandle" ∧ y10_of.cls ≠ "java/lang/invoke/VarHandle" ∧ (parseMethodDescriptor y10_of.desc).map (fun d => d.parameters.length) = some 1 := by decide +kernel
theorem cd10_told : Cond.code y10_told c10_told 3 (some .int) ∈ TT := t5 207 rfl rfl
theorem im10_told : Cond.instanceMethod y10_told ∈ TT := t5 205 rfl rfl
theorem se10_told : Cond.selects y10_told.cls y10_told y10_told ∈ TT := t5 206 rfl rfl
theorem na10_told : y10_told.cls ≠ "java/lang/invoke/MethodHandle" ∧ y10_told.cls ≠ "java/lang/invoke/VarHandle" ∧ (parseMethodDescriptor y10_told.desc).map (fun d => d.parameters.length) = some 2 := by decide +kernel
theorem cd10_isStep : Cond.code y10_isStep c10_isStep 2 (some .boolean) ∈ TT := t5 211 rfl rfl
theorem im10_isStep : Cond.instanceMethod y10_isStep ∈ TT := t5 210 rfl rfl
theorem se10_isStep : Cond.selects y10_isStep.cls y10_isStep y10_isStep ∈ TT := tp 37 rfl
theorem na10_isStep : y10_isStep.cls ≠ "java/lang/invoke/MethodHandle" ∧ y10_isStep.cls ≠ "java/lang/invoke/VarHandle" ∧ (parseMethodDescriptor y10_isStep.desc).map (fun d => d.parameters.length) = some 1 := by decide +kernel
theorem cd10_sum : Cond.code y10_sum c10_sum 5 (some .int) ∈ TT := t5 215 rfl rfl
theorem im10_sum : Cond.instanceMethod y10_sum ∈ TT := t5 214 rfl rfl
theorem se10_sum : Cond.selects y10_sum.cls y10_sum y10_sum ∈ TT := tp 38 rfl
theorem na10_sum : y10_sum.cls ≠ "java/lang/invoke/MethodHandle" ∧ y10_sum.cls ≠ "java/lang/invoke/VarHandle" ∧ (parseMethodDescriptor y10_sum.desc).map (fun d => d.parameters.length) = some 2 := by decide +kernel
theorem cd10_holds : Cond.code y10_holds c10_holds 8 (some .boolean) ∈ TT := t5 219 rfl rfl
theorem im10_holds : Cond.instanceMethod y10_holds ∈ TT := t5 218 rfl rfl
theorem se10_holds : Cond.selects y10_holds.cls y10_holds y10_holds ∈ TT := tp 39 rfl
theorem na10_holds : y10_holds.cls ≠ "java/lang/invoke/MethodHandle" ∧ y10_holds.cls ≠ "java/lang/invoke/VarHandle" ∧ (parseMethodDescriptor y10_holds.desc).map (fun d => d.parameters.length) = some 2 := by decide +kernel
theorem cd10_pull : Cond.code y10_pull c10_pull 6 (some .long) ∈ TT := t5 223 rfl rfl
theorem im10_pull : Cond.instanceMethod y10_pull ∈ TT := t5 221 rfl rfl
theorem se10_pull : Cond.selects y10_pull.cls y10_pull y10_pull ∈ TT := t5 222 rfl rfl
theorem na10_pull : y10_pull.cls ≠ "java/lang/invoke/MethodHandle" ∧ y10_pull.cls ≠ "java/lang/invoke/VarHandle" ∧ (parseMethodDescriptor y10_pull.desc).map (fun d => d.parameters.length) = some 5 := by decide +kernel
theorem cd10_isLoad : Cond.code y10_isLoad c10_isLoad 3 (some .boolean) ∈ TT := t5 227 rfl rfl
theorem im10_isLoad : Cond.instanceMethod y10_isLoad ∈ TT := t5 226 rfl rfl
theorem se10_isLoad : Cond.selects y10_isLoad.cls y10_isLoad y10_isLoad ∈ TT := tp 40 rfl
theorem na10_isLoad : y10_isLoad.cls ≠ "java/lang/invoke/MethodHandle" ∧ y10_isLoad.cls ≠ "java/lang/invoke/VarHandle" ∧ (parseMethodDescriptor y10_isLoad.desc).map (fun d => d.parameters.length) = some 2 := by decide +kernel
theorem cd10_pullOf : Cond.code y10_pullOf c10_pullOf 6 (some .long) ∈ TT := t5 232 rfl rfl
theorem im10_pullOf : Cond.instanceMethod y10_pullOf ∈ TT := t5 231 rfl rfl
theorem se10_pullOf : Cond.selects y10_pullOf.cls y10_pullOf y10_pullOf ∈ TT := tp 41 rfl
theorem na10_pullOf : y10_pullOf.cls ≠ "java/lang/invoke/MethodHandle" ∧ y10_pullOf.cls ≠ "java/lang/invoke/VarHandle" ∧ (parseMethodDescriptor y10_pullOf.desc).map (fun d => d.parameters.length) = some 5 := by decide +kernel
theorem cd10_stops : Cond.code y10_stops c10_stops 5 (some .int) ∈ TT := t5 236 rfl rfl
theorem im10_stops : Cond.instanceMethod y10_stops ∈ TT := t5 234 rfl rfl
theorem se10_stops : Cond.selects y10_stops.cls y10_stops y10_stops ∈ TT := t5 235 rfl rfl
theorem na10_stops : y10_stops.cls ≠ "java/lang/invoke/MethodHandle" ∧ y10_stops.cls ≠ "java/lang/invoke/VarHandle" ∧ (parseMethodDescriptor y10_stops.desc).map (fun d => d.parameters.length) = some 4 := by decide +kernel
theorem cd10_stopsBy : Cond.code y10_stopsBy c10_stopsBy 8 (some .int) ∈ TT := t6 0 rfl rfl
theorem im10_stopsBy : Cond.instanceMethod y10_stopsBy ∈ TT := t5 239 rfl rfl
theorem se10_stopsBy : Cond.selects y10_stopsBy.cls y10_stopsBy y10_stopsBy ∈ TT := tp 42 rfl
theorem na10_stopsBy : y10_stopsBy.cls ≠ "java/lang/invoke/MethodHandle" ∧ y10_stopsBy.cls ≠ "java/lang/invoke/VarHandle" ∧ (parseMethodDescriptor y10_stopsBy.desc).map (fun d => d.parameters.length) = some 4 := by decide +kernel
theorem cd10_least : Cond.code y10_least c10_least 4 (some .int) ∈ TT := t6 4 rfl rfl
theorem im10_least : Cond.instanceMethod y10_least ∈ TT := t6 2 rfl rfl
theorem se10_least : Cond.selects y10_least.cls y10_least y10_least ∈ TT := t6 3 rfl rfl
theorem na10_least : y10_least.cls ≠ "java/lang/invoke/MethodHandle" ∧ y10_least.cls ≠ "java/lang/invoke/VarHandle" ∧ (parseMethodDescriptor y10_least.desc).map (fun d => d.parameters.length) = some 3 := by decide +kernel
theorem cd10_leastBy : Cond.code y10_leastBy c10_leastBy 6 (some .int) ∈ TT := t6 8 rfl rfl
theorem im10_leastBy : Cond.instanceMethod y10_leastBy ∈ TT := t6 7 rfl rfl
theorem se10_leastBy : Cond.selects y10_leastBy.cls y10_leastBy y10_leastBy ∈ TT := tp 43 rfl
theorem na10_leastBy : y10_leastBy.cls ≠ "java/lang/invoke/MethodHandle" ∧ y10_leastBy.cls ≠ "java/lang/invoke/VarHandle" ∧ (parseMethodDescriptor y10_leastBy.desc).map (fun d => d.parameters.length) = some 4 := by decide +kernel
theorem cd10_jump : Cond.code y10_jump c10_jump 7 (some .int) ∈ TT := t6 12 rfl rfl
theorem im10_jump : Cond.instanceMethod y10_jump ∈ TT := t6 10 rfl rfl
theorem se10_jump : Cond.selects y10_jump.cls y10_jump y10_jump ∈ TT := t6 11 rfl rfl
theorem na10_jump : y10_jump.cls ≠ "java/lang/invoke/MethodHandle" ∧ y10_jump.cls ≠ "java/lang/invoke/VarHandle" ∧ (parseMethodDescriptor y10_jump.desc).map (fun d => d.parameters.length) = some 3 := by decide +kernel
theorem cd10_come : Cond.code y10_come c10_come 5 (some .int) ∈ TT := t6 16 rfl rfl
theorem im10_come : Cond.instanceMethod y10_come ∈ TT := t6 14 rfl rfl
theorem se10_come : Cond.selects y10_come.cls y10_come y10_come ∈ TT := t6 15 rfl rfl
theorem na10_come : y10_come.cls ≠ "java/lang/invoke/MethodHandle" ∧ y10_come.cls ≠ "java/lang/invoke/VarHandle" ∧ (parseMethodDescriptor y10_come.desc).map (fun d => d.parameters.length) = some 3 := by decide +kernel
theorem cd10_wet : Cond.code y10_wet c10_wet 3 (some .int) ∈ TT := t6 20 rfl rfl
theorem im10_wet : Cond.instanceMethod y10_wet ∈ TT := t6 18 rfl rfl
theorem se10_wet : Cond.selects y10_wet.cls y10_wet y10_wet ∈ TT := t6 19 rfl rfl
theorem na10_wet : y10_wet.cls ≠ "java/lang/invoke/MethodHandle" ∧ y10_wet.cls ≠ "java/lang/invoke/VarHandle" ∧ (parseMethodDescriptor y10_wet.desc).map (fun d => d.parameters.length) = some 1 := by decide +kernel
theorem cd10_pond : Cond.code y10_pond c10_pond 3 (some .int) ∈ TT := t6 24 rfl rfl
theorem im10_pond : Cond.instanceMethod y10_pond ∈ TT := t6 22 rfl rfl
theorem se10_pond : Cond.selects y10_pond.cls y10_pond y10_pond ∈ TT := t6 23 rfl rfl
theorem na10_pond : y10_pond.cls ≠ "java/lang/invoke/MethodHandle" ∧ y10_pond.cls ≠ "java/lang/invoke/VarHandle" ∧ (parseMethodDescriptor y10_pond.desc).map (fun d => d.parameters.length) = some 1 := by decide +kernel
theorem cd10_rule : Cond.code y10_rule c10_rule 3 (some .int) ∈ TT := t6 28 rfl rfl
theorem im10_rule : Cond.instanceMethod y10_rule ∈ TT := t6 26 rfl rfl
theorem se10_rule : Cond.selects y10_rule.cls y10_rule y10_rule ∈ TT := t6 27 rfl rfl
theorem na10_rule : y10_rule.cls ≠ "java/lang/invoke/MethodHandle" ∧ y10_rule.cls ≠ "java/lang/invoke/VarHandle" ∧ (parseMethodDescriptor y10_rule.desc).map (fun d => d.parameters.length) = some 2 := by decide +kernel
theorem cd10_row : Cond.code y10_row c10_row 3 (some .int) ∈ TT := t6 32 rfl rfl
theorem im10_row : Cond.instanceMethod y10_row ∈ TT := t6 30 rfl rfl
theorem se10_row : Cond.selects y10_row.cls y10_row y10_row ∈ TT := t6 31 rfl rfl
theorem na10_row : y10_row.cls ≠ "java/lang/invoke/MethodHandle" ∧ y10_row.cls ≠ "java/lang/invoke/VarHandle" ∧ (parseMethodDescriptor y10_row.desc).map (fun d => d.parameters.length) = some 2 := by decide +kernel
theorem cd10_isRule : Cond.code y10_isRule c10_isRule 2 (some .boolean) ∈ TT := t6 36 rfl rfl
theorem im10_isRule : Cond.instanceMethod y10_isRule ∈ TT := t6 35 rfl rfl
theorem se10_isRule : Cond.selects y10_isRule.cls y10_isRule y10_isRule ∈ TT := tp 44 rfl
theorem na10_isRule : y10_isRule.cls ≠ "java/lang/invoke/MethodHandle" ∧ y10_isRule.cls ≠ "java/lang/invoke/VarHandle" ∧ (parseMethodDescriptor y10_isRule.desc).map (fun d => d.parameters.length) = some 1 := by decide +kernel
theorem cd10_day : Cond.code y10_day c10_day 3 (some .int) ∈ TT := t6 40 rfl rfl
theorem im10_day : Cond.instanceMethod y10_day ∈ TT := t6 38 rfl rfl
theorem se10_day : Cond.selects y10_day.cls y10_day y10_day ∈ TT := t6 39 rfl rfl
theorem na10_day : y10_day.cls ≠ "java/lang/invoke/MethodHandle" ∧ y10_day.cls ≠ "java/lang/invoke/VarHandle" ∧ (parseMethodDescriptor y10_day.desc).map (fun d => d.parameters.length) = some 2 := by decide +kernel
theorem cd10_layDay : Cond.code y10_layDay c10_layDay 9 none ∈ TT := t6 44 rfl rfl
theorem im10_layDay : Cond.instanceMethod y10_layDay ∈ TT := t6 43 rfl rfl
theorem se10_layDay : Cond.selects y10_layDay.cls y10_layDay y10_layDay ∈ TT := tp 45 rfl
theorem na10_layDay : y10_layDay.cls ≠ "java/lang/invoke/MethodHandle" ∧ y10_layDay.cls ≠ "java/lang/invoke/VarHandle" ∧ (parseMethodDescriptor y10_layDay.desc).map (fun d => d.parameters.length) = some 5 := by decide +kernel
theorem cd10_goDay : Cond.code y10_goDay c10_goDay 7 none ∈ TT := t6 48 rfl rfl
theorem im10_goDay : Cond.instanceMethod y10_goDay ∈ TT := t6 47 rfl rfl
theorem se10_goDay : Cond.selects y10_goDay.cls y10_goDay y10_goDay ∈ TT := tp 46 rfl
theorem na10_goDay : y10_goDay.cls ≠ "java/lang/invoke/MethodHandle" ∧ y10_goDay.cls ≠ "java/lang/invoke/VarHandle" ∧ (parseMethodDescriptor y10_goDay.desc).map (fun d => d.parameters.length) = some 3 := by decide +kernel
theorem cd10_valueFrom : Cond.code y10_valueFrom c10_valueFrom 8 (some .int) ∈ TT := t6 52 rfl rfl
theorem im10_valueFrom : Cond.instanceMethod y10_valueFrom ∈ TT := t6 51 rfl rfl
theorem se10_valueFrom : Cond.selects y10_valueFrom.cls y10_valueFrom y10_valueFrom ∈ TT := tp 47 rfl
theorem na10_valueFrom : y10_valueFrom.cls ≠ "java/lang/invoke/MethodHandle" ∧ y10_valueFrom.cls ≠ "java/lang/invoke/VarHandle" ∧ (parseMethodDescriptor y10_valueFrom.desc).map (fun d => d.parameters.length) = some 3 := by decide +kernel
theorem cd10_comesIn : Cond.code y10_comesIn c10_comesIn 6 none ∈ TT := t6 56 rfl rfl
theorem im10_comesIn : Cond.instanceMethod y10_comesIn ∈ TT := t6 55 rfl rfl
theorem se10_comesIn : Cond.selects y10_comesIn.cls y10_comesIn y10_comesIn ∈ TT := tp 48 rfl
theorem na10_comesIn : y10_comesIn.cls ≠ "java/lang/invoke/MethodHandle" ∧ y10_comesIn.cls ≠ "java/lang/invoke/VarHandle" ∧ (parseMethodDescriptor y10_comesIn.desc).map (fun d => d.parameters.length) = some 2 := by decide +kernel
theorem cd10_can : Cond.code y10_can c10_can 2 (some .boolean) ∈ TT := t6 60 rfl rfl
theorem im10_can : Cond.instanceMethod y10_can ∈ TT := t6 59 rfl rfl
theorem se10_can : Cond.selects y10_can.cls y10_can y10_can ∈ TT := tp 49 rfl
theorem na10_can : y10_can.cls ≠ "java/lang/invoke/MethodHandle" ∧ y10_can.cls ≠ "java/lang/invoke/VarHandle" ∧ (parseMethodDescriptor y10_can.desc).map (fun d => d.parameters.length) = some 1 := by decide +kernel
theorem cd10_gone : Cond.code y10_gone c10_gone 1 (some .int) ∈ TT := t6 64 rfl rfl
theorem im10_gone : Cond.instanceMethod y10_gone ∈ TT := t6 63 rfl rfl
theorem se10_gone : Cond.selects y10_gone.cls y10_gone y10_gone ∈ TT := tp 50 rfl
theorem na10_gone : y10_gone.cls ≠ "java/lang/invoke/MethodHandle" ∧ y10_gone.cls ≠ "java/lang/invoke/VarHandle" ∧ (parseMethodDescriptor y10_gone.desc).map (fun d => d.parameters.length) = some 0 := by decide +kernel
theorem cd10_leads : Cond.code y10_leads c10_leads 6 (some .boolean) ∈ TT := t6 69 rfl rfl
theorem im10_leads : Cond.instanceMethod y10_leads ∈ TT := t6 68 rfl rfl
theorem se10_leads : Cond.selects y10_leads.cls y10_leads y10_leads ∈ TT := tp 51 rfl
theorem na10_leads : y10_leads.cls ≠ "java/lang/invoke/MethodHandle" ∧ y10_leads.cls ≠ "java/lang/invoke/VarHandle" ∧ (parseMethodDescriptor y10_leads.desc).map (fun d => d.parameters.length) = some 4 := by decide +kernel
theorem cd10_waits : Cond.code y10_waits c10_waits 8 (some .long) ∈ TT := t6 73 rfl rfl
theorem im10_waits : Cond.instanceMethod y10_waits ∈ TT := t6 71 rfl rfl
theorem se10_waits : Cond.selects y10_waits.cls y10_waits y10_waits ∈ TT := t6 72 rfl rfl
theorem na10_waits : y10_waits.cls ≠ "java/lang/invoke/MethodHandle" ∧ y10_waits.cls ≠ "java/lang/invoke/VarHandle" ∧ (parseMethodDescriptor y10_waits.desc).map (fun d => d.parameters.length) = some 5 := by decide +kernel
theorem cd10_bell : Cond.code y10_bell c10_bell 5 (some .int) ∈ TT := t6 79 rfl rfl
theorem im10_bell : Cond.instanceMethod y10_bell ∈ TT := t6 77 rfl rfl
theorem se10_bell : Cond.selects y10_bell.cls y10_bell y10_bell ∈ TT := t6 78 rfl rfl
theorem na10_bell : y10_bell.cls ≠ "java/lang/invoke/MethodHandle" ∧ y10_bell.cls ≠ "java/lang/invoke/VarHandle" ∧ (parseMethodDescriptor y10_bell.desc).map (fun d => d.parameters.length) = some 0 := by decide +kernel
theorem cd10_whit : Cond.code y10_whit c10_whit 2 (some .int) ∈ TT := t6 83 rfl rfl
theorem im10_whit : Cond.instanceMethod y10_whit ∈ TT := t6 81 rfl rfl
theorem se10_whit : Cond.selects y10_whit.cls y10_whit y10_whit ∈ TT := t6 82 rfl rfl
theorem na10_whit : y10_whit.cls ≠ "java/lang/invoke/MethodHandle" ∧ y10_whit.cls ≠ "java/lang/invoke/VarHandle" ∧ (parseMethodDescriptor y10_whit.desc).map (fun d => d.parameters.length) = some 0 := by decide +kernel
theorem cd10_offer : Cond.code y10_offer c10_offer 4 (some .int) ∈ TT := t6 87 rfl rfl
theorem im10_offer : Cond.instanceMethod y10_offer ∈ TT := t6 85 rfl rfl
theorem se10_offer : Cond.selects y10_offer.cls y10_offer y10_offer ∈ TT := t6 86 rfl rfl
theorem na10_offer : y10_offer.cls ≠ "java/lang/invoke/MethodHandle" ∧ y10_offer.cls ≠ "java/lang/invoke/VarHandle" ∧ (parseMethodDescriptor y10_offer.desc).map (fun d => d.parameters.length) = some 3 := by decide +kernel
theorem cd10_buy : Cond.code y10_buy c10_buy 8 (some .int) ∈ TT := t6 91 rfl rfl
theorem im10_buy : Cond.instanceMethod y10_buy ∈ TT := t6 89 rfl rfl
theorem se10_buy : Cond.selects y10_buy.cls y10_buy y10_buy ∈ TT := t6 90 rfl rfl
theorem na10_buy : y10_buy.cls ≠ "java/lang/invoke/MethodHandle" ∧ y10_buy.cls ≠ "java/lang/invoke/VarHandle" ∧ (parseMethodDescriptor y10_buy.desc).map (fun d => d.parameters.length) = some 1 := by decide +kernel
theorem cd10_judge : Cond.code y10_judge c10_judge 7 (some .int) ∈ TT := t6 95 rfl rfl
theorem im10_judge : Cond.instanceMethod y10_judge ∈ TT := t6 93 rfl rfl
theorem se10_judge : Cond.selects y10_judge.cls y10_judge y10_judge ∈ TT := t6 94 rfl rfl
theorem na10_judge : y10_judge.cls ≠ "java/lang/invoke/MethodHandle" ∧ y10_judge.cls ≠ "java/lang/invoke/VarHandle" ∧ (parseMethodDescriptor y10_judge.desc).map (fun d => d.parameters.length) = some 2 := by decide +kernel
theorem cd10_isTape : Cond.code y10_isTape c10_isTape 2 (some .boolean) ∈ TT := t6 99 rfl rfl
theorem im10_isTape : Cond.instanceMethod y10_isTape ∈ TT := t6 98 rfl rfl
theorem se10_isTape : Cond.selects y10_isTape.cls y10_isTape y10_isTape ∈ TT := tp 52 rfl
theorem na10_isTape : y10_isTape.cls ≠ "java/lang/invoke/MethodHandle" ∧ y10_isTape.cls ≠ "java/lang/invoke/VarHandle" ∧ (parseMethodDescriptor y10_isTape.desc).map (fun d => d.parameters.length) = some 1 := by decide +kernel
theorem cd10_image : Cond.code y10_image c10_image 1 (some .int) ∈ TT := t6 104 rfl rfl
theorem im10_image : Cond.instanceMethod y10_image ∈ TT := t6 102 rfl rfl
theorem se10_image : Cond.selects y10_image.cls y10_image y10_image ∈ TT := t6 103 rfl rfl
theorem na10_image : y10_image.cls ≠ "java/lang/invoke/MethodHandle" ∧ y10_image.cls ≠ "java/lang/invoke/VarHandle" ∧ (parseMethodDescriptor y10_image.desc).map (fun d => d.parameters.length) = some 0 := by decide +kernel
theorem cd10_copy : Cond.code y10_copy c10_copy 4 none ∈ TT := t6 108 rfl rfl
theorem im10_copy : Cond.instanceMethod y10_copy ∈ TT := t6 107 rfl rfl
theorem se10_copy : Cond.selects y10_copy.cls y10_copy y10_copy ∈ TT := tp 53 rfl
theorem na10_copy : y10_copy.cls ≠ "java/lang/invoke/MethodHandle" ∧ y10_copy.cls ≠ "java/lang/invoke/VarHandle" ∧ (parseMethodDescriptor y10_copy.desc).map (fun d => d.parameters.length) = some 2 := by decide +kernel
theorem cd10_undo : Cond.code y10_undo c10_undo 1 (some .int) ∈ TT := t6 112 rfl rfl
theorem im10_undo : Cond.instanceMethod y10_undo ∈ TT := t6 110 rfl rfl
theorem se10_undo : Cond.selects y10_undo.cls y10_undo y10_undo ∈ TT := t6 111 rfl rfl
theorem na10_undo : y10_undo.cls ≠ "java/lang/invoke/MethodHandle" ∧ y10_undo.cls ≠ "java/lang/invoke/VarHandle" ∧ (parseMethodDescriptor y10_undo.desc).map (fun d => d.parameters.length) = some 0 := by decide +kernel
theorem cd10_act : Cond.code y10_act c10_act 4 (some .int) ∈ TT := t6 116 rfl rfl
theorem im10_act : Cond.instanceMethod y10_act ∈ TT := t6 114 rfl rfl
theorem se10_act : Cond.selects y10_act.cls y10_act y10_act ∈ TT := t6 115 rfl rfl
theorem na10_act : y10_act.cls ≠ "java/lang/invoke/MethodHandle" ∧ y10_act.cls ≠ "java/lang/invoke/VarHandle" ∧ (parseMethodDescriptor y10_act.desc).map (fun d => d.parameters.length) = some 3 := by decide +kernel
theorem cd10_goes : Cond.code y10_goes c10_goes 3 (some .int) ∈ TT := t6 120 rfl rfl
theorem im10_goes : Cond.instanceMethod y10_goes ∈ TT := t6 119 rfl rfl
theorem se10_goes : Cond.selects y10_goes.cls y10_goes y10_goes ∈ TT := tp 54 rfl
theorem na10_goes : y10_goes.cls ≠ "java/lang/invoke/MethodHandle" ∧ y10_goes.cls ≠ "java/lang/invoke/VarHandle" ∧ (parseMethodDescriptor y10_goes.desc).map (fun d => d.parameters.length) = some 2 := by decide +kernel
theorem cd10_body : Cond.code y10_body c10_body 2 none ∈ TT := t6 124 rfl rfl
theorem im10_body : Cond.instanceMethod y10_body ∈ TT := t6 123 rfl rfl
theorem se10_body : Cond.selects y10_body.cls y10_body y10_body ∈ TT := tp 55 rfl
theorem na10_body : y10_body.cls ≠ "java/lang/invoke/MethodHandle" ∧ y10_body.cls ≠ "java/lang/invoke/VarHandle" ∧ (parseMethodDescriptor y10_body.desc).map (fun d => d.parameters.length) = some 1 := by decide +kernel
theorem cd10_plainGoes : Cond.code y10_plainGoes c10_plainGoes 3 (some .int) ∈ TT := t6 128 rfl rfl
theorem im10_plainGoes : Cond.instanceMethod y10_plainGoes ∈ TT := t6 127 rfl rfl
theorem se10_plainGoes : Cond.selects y10_plainGoes.cls y10_plainGoes y10_plainGoes ∈ TT := tp 56 rfl
theorem na10_plainGoes : y10_plainGoes.cls ≠ "java/lang/invoke/MethodHandle" ∧ y10_plainGoes.cls ≠ "java/lang/invoke/VarHandle" ∧ (parseMethodDescriptor y10_plainGoes.desc).map (fun d => d.parameters.length) = some 2 := by decide +kernel
theorem cd10_bestGoes : Cond.code y10_bestGoes c10_bestGoes 3 (some .int) ∈ TT := t6 132 rfl rfl
theorem im10_bestGoes : Cond.instanceMethod y10_bestGoes ∈ TT := t6 131 rfl rfl
theorem se10_bestGoes : Cond.selects y10_bestGoes.cls y10_bestGoes y10_bestGoes ∈ TT := tp 57 rfl
theorem na10_bestGoes : y10_bestGoes.cls ≠ "java/lang/invoke/MethodHandle" ∧ y10_bestGoes.cls ≠ "java/lang/invoke/VarHandle" ∧ (parseMethodDescriptor y10_bestGoes.desc).map (fun d => d.parameters.length) = some 2 := by decide +kernel
theorem cd10_holdsAct : Cond.code y10_holdsAct c10_holdsAct 4 (some .int) ∈ TT := t6 136 rfl rfl
theorem im10_holdsAct : Cond.instanceMethod y10_holdsAct ∈ TT := t6 135 rfl rfl
theorem se10_holdsAct : Cond.selects y10_holdsAct.cls y10_holdsAct y10_holdsAct ∈ TT := tp 58 rfl
theorem na10_holdsAct : y10_holdsAct.cls ≠ "java/lang/invoke/MethodHandle" ∧ y10_holdsAct.cls ≠ "java/lang/invoke/VarHandle" ∧ (parseMethodDescriptor y10_holdsAct.desc).map (fun d => d.parameters.length) = some 2 := by decide +kernel
theorem cd10_plainHolds : Cond.code y10_plainHolds c10_plainHolds 3 (some .int) ∈ TT := t6 140 rfl rfl
theorem im10_plainHolds : Cond.instanceMethod y10_plainHolds ∈ TT := t6 139 rfl rfl
theorem se10_plainHolds : Cond.selects y10_plainHolds.cls y10_plainHolds y10_plainHolds ∈ TT := tp 59 rfl
theorem na10_plainHolds : y10_plainHolds.cls ≠ "java/lang/invoke/MethodHandle" ∧ y10_plainHolds.cls ≠ "java/lang/invoke/VarHandle" ∧ (parseMethodDescriptor y10_plainHolds.desc).map (fun d => d.parameters.length) = some 2 := by decide +kernel
theorem cd10_tells : Cond.code y10_tells c10_tells 5 (some .int) ∈ TT := t6 144 rfl rfl
theorem im10_tells : Cond.instanceMethod y10_tells ∈ TT := t6 143 rfl rfl
theorem se10_tells : Cond.selects y10_tells.cls y10_tells y10_tells ∈ TT := tp 60 rfl
theorem na10_tells : y10_tells.cls ≠ "java/lang/invoke/MethodHandle" ∧ y10_tells.cls ≠ "java/lang/invoke/VarHandle" ∧ (parseMethodDescriptor y10_tells.desc).map (fun d => d.parameters.length) = some 2 := by decide +kernel
theorem cd10_plainTells : Cond.code y10_plainTells c10_plainTells 3 (some .int) ∈ TT := t6 148 rfl rfl
theorem im10_plainTells : Cond.instanceMethod y10_plainTells ∈ TT := t6 147 rfl rfl
theorem se10_plainTells : Cond.selects y10_plainTells.cls y10_plainTells y10_plainTells ∈ TT := tp 61 rfl
theorem na10_plainTells : y10_plainTells.cls ≠ "java/lang/invoke/MethodHandle" ∧ y10_plainTells.cls ≠ "java/lang/invoke/VarHandle" ∧ (parseMethodDescriptor y10_plainTells.desc).map (fun d => d.parameters.length) = some 2 := by decide +kernel
theorem cd10_trace : Cond.code y10_trace c10_trace 2 (some .int) ∈ TT := t6 152 rfl rfl
theorem im10_trace : Cond.instanceMethod y10_trace ∈ TT := t6 150 rfl rfl
theorem se10_trace : Cond.selects y10_trace.cls y10_trace y10_trace ∈ TT := t6 151 rfl rfl
theorem na10_trace : y10_trace.cls ≠ "java/lang/invoke/MethodHandle" ∧ y10_trace.cls ≠ "java/lang/invoke/VarHandle" ∧ (parseMethodDescriptor y10_trace.desc).map (fun d => d.parameters.length) = some 1 := by decide +kernel
theorem cd10_taken : Cond.code y10_taken c10_taken 3 (some .int) ∈ TT := t6 156 rfl rfl
theorem im10_taken : Cond.instanceMethod y10_taken ∈ TT := t6 154 rfl rfl
theorem se10_taken : Cond.selects y10_taken.cls y10_taken y10_taken ∈ TT := t6 155 rfl rfl
theorem na10_taken : y10_taken.cls ≠ "java/lang/invoke/MethodHandle" ∧ y10_taken.cls ≠ "java/lang/invoke/VarHandle" ∧ (parseMethodDescriptor y10_taken.desc).map (fun d => d.parameters.length) = some 2 := by decide +kernel
theorem cd10_count : Cond.code y10_count c10_count 2 (some .int) ∈ TT := t6 160 rfl rfl
theorem im10_count : Cond.instanceMethod y10_count ∈ TT := t6 158 rfl rfl
theorem se10_count : Cond.selects y10_count.cls y10_count y10_count ∈ TT := t6 159 rfl rfl
theorem na10_count : y10_count.cls ≠ "java/lang/invoke/MethodHandle" ∧ y10_count.cls ≠ "java/lang/invoke/VarHandle" ∧ (parseMethodDescriptor y10_count.desc).map (fun d => d.parameters.length) = some 1 := by decide +kernel
theorem cd10_tape : Cond.code y10_tape c10_tape 5 (some .int) ∈ TT := t6 164 rfl rfl
theorem im10_tape : Cond.instanceMethod y10_tape ∈ TT := t6 162 rfl rfl
theorem se10_tape : Cond.selects y10_tape.cls y10_tape y10_tape ∈ TT := t6 163 rfl rfl
theorem na10_tape : y10_tape.cls ≠ "java/lang/invoke/MethodHandle" ∧ y10_tape.cls ≠ "java/lang/invoke/VarHandle" ∧ (parseMethodDescriptor y10_tape.desc).map (fun d => d.parameters.length) = some 3 := by decide +kernel
theorem cd10_item : Cond.code y10_item c10_item 5 (some .int) ∈ TT := t6 168 rfl rfl
theorem im10_item : Cond.instanceMethod y10_item ∈ TT := t6 166 rfl rfl
theorem se10_item : Cond.selects y10_item.cls y10_item y10_item ∈ TT := t6 167 rfl rfl
theorem na10_item : y10_item.cls ≠ "java/lang/invoke/MethodHandle" ∧ y10_item.cls ≠ "java/lang/invoke/VarHandle" ∧ (parseMethodDescriptor y10_item.desc).map (fun d => d.parameters.length) = some 3 := by decide +kernel
theorem cd10_narrow : Cond.code y10_narrow c10_narrow 4 (some .long) ∈ TT := t6 172 rfl rfl
theorem im10_narrow : Cond.instanceMethod y10_narrow ∈ TT := t6 171 rfl rfl
theorem se10_narrow : Cond.selects y10_narrow.cls y10_narrow y10_narrow ∈ TT := tp 62 rfl
theorem na10_narrow : y10_narrow.cls ≠ "java/lang/invoke/MethodHandle" ∧ y10_narrow.cls ≠ "java/lang/invoke/VarHandle" ∧ (parseMethodDescriptor y10_narrow.desc).map (fun d => d.parameters.length) = some 2 := by decide +kernel
theorem cd10_read : Cond.code y10_read c10_read 3 (some .long) ∈ TT := t6 176 rfl rfl
theorem im10_read : Cond.instanceMethod y10_read ∈ TT := t6 174 rfl rfl
theorem se10_read : Cond.selects y10_read.cls y10_read y10_read ∈ TT := t6 175 rfl rfl
theorem na10_read : y10_read.cls ≠ "java/lang/invoke/MethodHandle" ∧ y10_read.cls ≠ "java/lang/invoke/VarHandle" ∧ (parseMethodDescriptor y10_read.desc).map (fun d => d.parameters.length) = some 2 := by decide +kernel
theorem cd10_shift : Cond.code y10_shift c10_shift 7 (some .int) ∈ TT := t6 180 rfl rfl
theorem im10_shift : Cond.instanceMethod y10_shift ∈ TT := t6 178 rfl rfl
theorem se10_shift : Cond.selects y10_shift.cls y10_shift y10_shift ∈ TT := t6 179 rfl rfl
theorem na10_shift : y10_shift.cls ≠ "java/lang/invoke/MethodHandle" ∧ y10_shift.cls ≠ "java/lang/invoke/VarHandle" ∧ (parseMethodDescriptor y10_shift.desc).map (fun d => d.parameters.length) = some 5 := by decide +kernel
theorem clL_7 : Cond.classLink "CliffCarsLaw" 7 "CliffCars" ∈ TT := t1 18 rfl rfl
theorem is9 : Cond.instantiable "CliffCars" 15 ∈ TT := t1 19 rfl rfl
theorem mlL_9 : Cond.methodLink "CliffCarsLaw" 9 y9_init ∈ TT := t1 20 rfl rfl
theorem ml9_3 : Cond.methodLink "CliffCars" 3 ⟨"java/lang/Object", "<init>", "()V"⟩ ∈ TT := t1 23 rfl rfl
theorem cl9_15 : Cond.classLink "CliffCars" 15 "CliffCars$Cliff" ∈ TT := t1 26 rfl rfl
theorem cl9_21 : Cond.classLink "CliffCars" 21 "CliffCars$Rule" ∈ TT := t1 28 rfl rfl
theorem cl9_27 : Cond.classLink "CliffCars" 27 "CliffCars$Setting" ∈ TT := t1 30 rfl rfl
theorem is5 : Cond.instantiable "CliffCars$Setting" 8 ∈ TT := t1 31 rfl rfl
theorem mn9_29 : Cond.methodLinkNest "CliffCars" 29 y5_init "CliffCars" ∈ NN := nn (q1 32 rfl) rfl
theorem ml5_3 : Cond.methodLink "CliffCars$Setting" 3 ⟨"java/lang/Object", "<init>", "()V"⟩ ∈ TT := t1 35 rfl rfl
theorem fl5_9 : Cond.fieldLink "CliffCars$Setting" 9 "CliffCars$Setting" "comings" "[I" ∈ TT := t1 36 rfl rfl
theorem fl7_32 : Cond.fieldLink "CliffCars$Terms" 32 "CliffCars$Setting" "comings" "[I" ∈ TT := t1 37 rfl rfl
theorem fl9_168 : Cond.fieldLink "CliffCars" 168 "CliffCars$Setting" "comings" "[I" ∈ TT := t1 38 rfl rfl
theorem fl5_34 : Cond.fieldLink "CliffCars$Setting" 34 "CliffCars$Setting" "isWet" "Z" ∈ TT := t1 39 rfl rfl
theorem fl9_171 : Cond.fieldLink "CliffCars" 171 "CliffCars$Setting" "isWet" "Z" ∈ TT := t1 40 rfl rfl
theorem fl5_38 : Cond.fieldLink "CliffCars$Setting" 38 "CliffCars$Setting" "pints" "I" ∈ TT := t1 41 rfl rfl
theorem fl9_175 : Cond.fieldLink "CliffCars" 175 "CliffCars$Setting" "pints" "I" ∈ TT := t1 42 rfl rfl
theorem fl5_15 : Cond.fieldLink "CliffCars$Setting" 15 "CliffCars$Setting" "cliffNumber" "I" ∈ TT := t1 43 rfl rfl
theorem fl9_104 : Cond.fieldLink "CliffCars" 104 "CliffCars$Setting" "cliffNumber" "I" ∈ TT := t1 44 rfl rfl
theorem fl5_19 : Cond.fieldLink "CliffCars$Setting" 19 "CliffCars$Setting" "sorts" "[I" ∈ TT := t1 45 rfl rfl
theorem fl9_254 : Cond.fieldLink "CliffCars" 254 "CliffCars$Setting" "sorts" "[I" ∈ TT := t1 46 rfl rfl
theorem fl5_22 : Cond.fieldLink "CliffCars$Setting" 22 "CliffCars$Setting" "sizes" "[I" ∈ TT := t1 47 rfl rfl
theorem fl9_257 : Cond.fieldLink "CliffCars" 257 "CliffCars$Setting" "sizes" "[I" ∈ TT := t1 48 rfl rfl
theorem fl5_25 : Cond.fieldLink "CliffCars$Setting" 25 "CliffCars$Setting" "prices" "[I" ∈ TT := t1 49 rfl rfl
theorem fl9_260 : Cond.fieldLink "CliffCars" 260 "CliffCars$Setting" "prices" "[I" ∈ TT := t1 50 rfl rfl
theorem fl5_41 : Cond.fieldLink "CliffCars$Setting" 41 "CliffCars$Setting" "offers" "I" ∈ TT := t1 51 rfl rfl
theorem fl9_251 : Cond.fieldLink "CliffCars" 251 "CliffCars$Setting" "offers" "I" ∈ TT := t1 52 rfl rfl
theorem ac_int : Cond.arrayClass .int ∈ TT := t1 70 rfl rfl
theorem cl9_37 : Cond.classLink "CliffCars" 37 "CliffCars$Tape" ∈ TT := t1 71 rfl rfl
theorem cl9_43 : Cond.classLink "CliffCars" 43 "CliffCars$Trace" ∈ TT := t1 73 rfl rfl
theorem is8 : Cond.instantiable "CliffCars$Trace" 2 ∈ TT := t1 74 rfl rfl
theorem mn9_45 : Cond.methodLinkNest "CliffCars" 45 y8_init "CliffCars" ∈ NN := nn (q1 75 rfl) rfl
theorem ml8_3 : Cond.methodLink "CliffCars$Trace" 3 ⟨"java/lang/Object", "<init>", "()V"⟩ ∈ TT := t1 78 rfl rfl
theorem fl8_9 : Cond.fieldLink "CliffCars$Trace" 9 "CliffCars$Trace" "bodies" "[I" ∈ TT := t1 79 rfl rfl
theorem fl9_304 : Cond.fieldLink "CliffCars" 304 "CliffCars$Trace" "bodies" "[I" ∈ TT := t1 80 rfl rfl
theorem fl8_15 : Cond.fieldLink "CliffCars$Trace" 15 "CliffCars$Trace" "ran" "I" ∈ TT := t1 81 rfl rfl
theorem fl9_291 : Cond.fieldLink "CliffCars" 291 "CliffCars$Trace" "ran" "I" ∈ TT := t1 82 rfl rfl
theorem is4 : Cond.instantiable "CliffCars$Rule" 5 ∈ TT := t1 88 rfl rfl
theorem ml9_50 : Cond.methodLink "CliffCars" 50 y4_init ∈ TT := t1 89 rfl rfl
theorem ml4_3 : Cond.methodLink "CliffCars$Rule" 3 ⟨"java/lang/Object", "<init>", "()V"⟩ ∈ TT := t1 92 rfl rfl
theorem fl4_9 : Cond.fieldLink "CliffCars$Rule" 9 "CliffCars$Rule" "kind" "I" ∈ TT := t1 93 rfl rfl
theorem fl9_188 : Cond.fieldLink "CliffCars" 188 "CliffCars$Rule" "kind" "I" ∈ TT := t1 94 rfl rfl
theorem fl4_15 : Cond.fieldLink "CliffCars$Rule" 15 "CliffCars$Rule" "v" "I" ∈ TT := t1 95 rfl rfl
theorem fl4_18 : Cond.fieldLink "CliffCars$Rule" 18 "CliffCars$Rule" "number" "I" ∈ TT := t1 96 rfl rfl
theorem fl4_21 : Cond.fieldLink "CliffCars$Rule" 21 "CliffCars$Rule" "row" "[I" ∈ TT := t1 97 rfl rfl
theorem fl4_25 : Cond.fieldLink "CliffCars$Rule" 25 "CliffCars$Rule" "heard" "I" ∈ TT := t1 98 rfl rfl
theorem fn9_194 : Cond.fieldLinkNest "CliffCars" 194 "CliffCars$Rule" "heard" "I" "CliffCars" ∈ NN := nn (q1 99 rfl) rfl
theorem cl9_57 : Cond.classLink "CliffCars" 57 "CliffCars$Terms" ∈ TT := t1 111 rfl rfl
theorem is7 : Cond.instantiable "CliffCars$Terms" 7 ∈ TT := t1 112 rfl rfl
theorem mn9_59 : Cond.methodLinkNest "CliffCars" 59 y7_init "CliffCars" ∈ NN := nn (q1 113 rfl) rfl
theorem ml7_3 : Cond.methodLink "CliffCars$Terms" 3 ⟨"java/lang/Object", "<init>", "()V"⟩ ∈ TT := t1 116 rfl rfl
theorem cl7_9 : Cond.classLink "CliffCars$Terms" 9 "CliffCars$Cliff" ∈ TT := t1 117 rfl rfl
theorem is1 : Cond.instantiable "CliffCars$Cliff" 10 ∈ TT := t1 118 rfl rfl
theorem mn7_11 : Cond.methodLinkNest "CliffCars$Terms" 11 y1_init "CliffCars" ∈ NN := nn (q1 119 rfl) rfl
theorem ml1_3 : Cond.methodLink "CliffCars$Cliff" 3 ⟨"java/lang/Object", "<init>", "()V"⟩ ∈ TT := t1 122 rfl rfl
theorem fl1_9 : Cond.fieldLink "CliffCars$Cliff" 9 "CliffCars$Cliff" "parts" "[I" ∈ TT := t1 123 rfl rfl
theorem fl9_114 : Cond.fieldLink "CliffCars" 114 "CliffCars$Cliff" "parts" "[I" ∈ TT := t1 124 rfl rfl
theorem fl1_37 : Cond.fieldLink "CliffCars$Cliff" 37 "CliffCars$Cliff" "partCount" "I" ∈ TT := t1 125 rfl rfl
theorem fl0_42 : Cond.fieldLink "CliffCars$ClauseReader" 42 "CliffCars$Cliff" "partCount" "I" ∈ TT := t1 126 rfl rfl
theorem fl9_111 : Cond.fieldLink "CliffCars" 111 "CliffCars$Cliff" "partCount" "I" ∈ TT := t1 127 rfl rfl
theorem fl1_44 : Cond.fieldLink "CliffCars$Cliff" 44 "CliffCars$Cliff" "rope" "I" ∈ TT := t1 128 rfl rfl
theorem fl9_117 : Cond.fieldLink "CliffCars" 117 "CliffCars$Cliff" "rope" "I" ∈ TT := t1 129 rfl rfl
theorem fl1_15 : Cond.fieldLink "CliffCars$Cliff" 15 "CliffCars$Cliff" "head" "I" ∈ TT := t1 130 rfl rfl
theorem fl9_120 : Cond.fieldLink "CliffCars" 120 "CliffCars$Cliff" "head" "I" ∈ TT := t1 131 rfl rfl
theorem fl7_70 : Cond.fieldLink "CliffCars$Terms" 70 "CliffCars$Cliff" "head" "I" ∈ TT := t1 132 rfl rfl
theorem fl1_19 : Cond.fieldLink "CliffCars$Cliff" 19 "CliffCars$Cliff" "brake" "I" ∈ TT := t1 133 rfl rfl
theorem fl9_123 : Cond.fieldLink "CliffCars" 123 "CliffCars$Cliff" "brake" "I" ∈ TT := t1 134 rfl rfl
theorem fl1_22 : Cond.fieldLink "CliffCars$Cliff" 22 "CliffCars$Cliff" "tank" "I" ∈ TT := t1 135 rfl rfl
theorem fl7_39 : Cond.fieldLink "CliffCars$Terms" 39 "CliffCars$Cliff" "tank" "I" ∈ TT := t1 136 rfl rfl
theorem fl9_126 : Cond.fieldLink "CliffCars" 126 "CliffCars$Cliff" "tank" "I" ∈ TT := t1 137 rfl rfl
theorem fl1_25 : Cond.fieldLink "CliffCars$Cliff" 25 "CliffCars$Cliff" "seats" "I" ∈ TT := t1 138 rfl rfl
theorem fl7_43 : Cond.fieldLink "CliffCars$Terms" 43 "CliffCars$Cliff" "seats" "I" ∈ TT := t1 139 rfl rfl
theorem fl9_129 : Cond.fieldLink "CliffCars" 129 "CliffCars$Cliff" "seats" "I" ∈ TT := t1 140 rfl rfl
theorem fl1_28 : Cond.fieldLink "CliffCars$Cliff" 28 "CliffCars$Cliff" "pondMost" "I" ∈ TT := t1 141 rfl rfl
theorem fl7_47 : Cond.fieldLink "CliffCars$Terms" 47 "CliffCars$Cliff" "pondMost" "I" ∈ TT := t1 142 rfl rfl
theorem fl9_132 : Cond.fieldLink "CliffCars" 132 "CliffCars$Cliff" "pondMost" "I" ∈ TT := t1 143 rfl rfl
theorem fl1_31 : Cond.fieldLink "CliffCars$Cliff" 31 "CliffCars$Cliff" "drags" "[I" ∈ TT := t1 144 rfl rfl
theorem fl0_62 : Cond.fieldLink "CliffCars$ClauseReader" 62 "CliffCars$Cliff" "drags" "[I" ∈ TT := t1 145 rfl rfl
theorem fl9_143 : Cond.fieldLink "CliffCars" 143 "CliffCars$Cliff" "drags" "[I" ∈ TT := t1 146 rfl rfl
theorem fl7_63 : Cond.fieldLink "CliffCars$Terms" 63 "CliffCars$Cliff" "drags" "[I" ∈ TT := t1 147 rfl rfl
theorem fl1_34 : Cond.fieldLink "CliffCars$Cliff" 34 "CliffCars$Cliff" "springs" "[I" ∈ TT := t1 148 rfl rfl
theorem fl0_65 : Cond.fieldLink "CliffCars$ClauseReader" 65 "CliffCars$Cliff" "springs" "[I" ∈ TT := t1 149 rfl rfl
theorem fl7_60 : Cond.fieldLink "CliffCars$Terms" 60 "CliffCars$Cliff" "springs" "[I" ∈ TT := t1 150 rfl rfl
theorem fl9_146 : Cond.fieldLink "CliffCars" 146 "CliffCars$Cliff" "springs" "[I" ∈ TT := t1 151 rfl rfl
theorem fl7_12 : Cond.fieldLink "CliffCars$Terms" 12 "CliffCars$Terms" "cliff" "LCliffCars$Cliff;" ∈ TT := t1 173 rfl rfl
theorem fl7_28 : Cond.fieldLink "CliffCars$Terms" 28 "CliffCars$Terms" "firstMoment" "I" ∈ TT := t1 174 rfl rfl
theorem fl7_18 : Cond.fieldLink "CliffCars$Terms" 18 "CliffCars$Terms" "comings" "[I" ∈ TT := t1 175 rfl rfl
theorem fl7_42 : Cond.fieldLink "CliffCars$Terms" 42 "CliffCars$Terms" "tank" "I" ∈ TT := t1 176 rfl rfl
theorem fl7_46 : Cond.fieldLink "CliffCars$Terms" 46 "CliffCars$Terms" "seats" "I" ∈ TT := t1 177 rfl rfl
theorem fn4_37 : Cond.fieldLinkNest "CliffCars$Rule" 37 "CliffCars$Terms" "seats" "I" "CliffCars" ∈ NN := nn (q1 178 rfl) rfl
theorem fl7_50 : Cond.fieldLink "CliffCars$Terms" 50 "CliffCars$Terms" "pondMost" "I" ∈ TT := t1 179 rfl rfl
theorem fl7_51 : Cond.fieldLink "CliffCars$Terms" 51 "CliffCars$Terms" "moreSpring" "I" ∈ TT := t1 180 rfl rfl
theorem cl9_64 : Cond.classLink "CliffCars" 64 "CliffCars$Plan" ∈ TT := t1 196 rfl rfl
theorem is3 : Cond.instantiable "CliffCars$Plan" 4 ∈ TT := t1 197 rfl rfl
theorem ml9_66 : Cond.methodLink "CliffCars" 66 y3_init ∈ TT := t1 198 rfl rfl
theorem ml3_5 : Cond.methodLink "CliffCars$Plan" 5 ⟨"java/lang/Object", "<init>", "()V"⟩ ∈ TT := t1 201 rfl rfl
theorem ct3_11 : Cond.constant "CliffCars$Plan" 11 39852 ∈ TT := t1 202 rfl rfl
theorem fl3_16 : Cond.fieldLink "CliffCars$Plan" 16 "CliffCars$Plan" "terms" "LCliffCars$Terms;" ∈ TT := t1 203 rfl rfl
theorem fl3_20 : Cond.fieldLink "CliffCars$Plan" 20 "CliffCars$Plan" "spare" "I" ∈ TT := t1 204 rfl rfl
theorem fl3_24 : Cond.fieldLink "CliffCars$Plan" 24 "CliffCars$Plan" "edition" "J" ∈ TT := t1 205 rfl rfl
theorem fl3_12 : Cond.fieldLink "CliffCars$Plan" 12 "CliffCars$Plan" "known" "[J" ∈ TT := t1 206 rfl rfl
theorem ac_long : Cond.arrayClass .long ∈ TT := t1 216 rfl rfl
theorem cl9_73 : Cond.classLink "CliffCars" 73 "CliffCars$Day" ∈ TT := t1 217 rfl rfl
theorem is2 : Cond.instantiable "CliffCars$Day" 15 ∈ TT := t1 218 rfl rfl
theorem ml9_75 : Cond.methodLink "CliffCars" 75 y2_init ∈ TT := t1 219 rfl rfl
theorem ml2_3 : Cond.methodLink "CliffCars$Day" 3 ⟨"java/lang/Object", "<init>", "()V"⟩ ∈ TT := t1 222 rfl rfl
theorem fl2_15 : Cond.fieldLink "CliffCars$Day" 15 "CliffCars$Day" "terms" "LCliffCars$Terms;" ∈ TT := t1 223 rfl rfl
theorem fn4_33 : Cond.fieldLinkNest "CliffCars$Rule" 33 "CliffCars$Day" "terms" "LCliffCars$Terms;" "CliffCars" ∈ NN := nn (q1 224 rfl) rfl
theorem fl2_19 : Cond.fieldLink "CliffCars$Day" 19 "CliffCars$Day" "plan" "LCliffCars$Plan;" ∈ TT := t1 225 rfl rfl
theorem fn4_61 : Cond.fieldLinkNest "CliffCars$Rule" 61 "CliffCars$Day" "plan" "LCliffCars$Plan;" "CliffCars" ∈ NN := nn (q1 226 rfl) rfl
theorem fn4_46 : Cond.fieldLinkNest "CliffCars$Rule" 46 "CliffCars$Day" "step" "I" "CliffCars" ∈ NN := nn (q1 227 rfl) rfl
theorem fl2_95 : Cond.fieldLink "CliffCars$Day" 95 "CliffCars$Day" "step" "I" ∈ TT := t1 228 rfl rfl
theorem fl2_74 : Cond.fieldLink "CliffCars$Day" 74 "CliffCars$Day" "pond" "I" ∈ TT := t1 229 rfl rfl
theorem fn4_65 : Cond.fieldLinkNest "CliffCars$Rule" 65 "CliffCars$Day" "pond" "I" "CliffCars" ∈ NN := nn (q1 230 rfl) rfl
theorem fn9_217 : Cond.fieldLinkNest "CliffCars" 217 "CliffCars$Day" "pond" "I" "CliffCars" ∈ NN := nn (q1 231 rfl) rfl
theorem fl2_77 : Cond.fieldLink "CliffCars$Day" 77 "CliffCars$Day" "above" "I" ∈ TT := t1 232 rfl rfl
theorem fn4_68 : Cond.fieldLinkNest "CliffCars$Rule" 68 "CliffCars$Day" "above" "I" "CliffCars" ∈ NN := nn (q1 233 rfl) rfl
theorem fl2_80 : Cond.fieldLink "CliffCars$Day" 80 "CliffCars$Day" "below" "I" ∈ TT := t1 234 rfl rfl
theorem fn4_28 : Cond.fieldLinkNest "CliffCars$Rule" 28 "CliffCars$Day" "below" "I" "CliffCars" ∈ NN := nn (q1 235 rfl) rfl
theorem fn9_248 : Cond.fieldLinkNest "CliffCars" 248 "CliffCars$Day" "below" "I" "CliffCars" ∈ NN := nn (q1 236 rfl) rfl
theorem fl2_122 : Cond.fieldLink "CliffCars$Day" 122 "CliffCars$Day" "down" "I" ∈ TT := t1 237 rfl rfl
theorem fn4_58 : Cond.fieldLinkNest "CliffCars$Rule" 58 "CliffCars$Day" "up" "I" "CliffCars" ∈ NN := nn (q1 238 rfl) rfl
theorem fl2_125 : Cond.fieldLink "CliffCars$Day" 125 "CliffCars$Day" "up" "I" ∈ TT := t1 239 rfl rfl
theorem fl2_47 : Cond.fieldLink "CliffCars$Day" 47 "CliffCars$Day" "least" "I" ∈ TT := t2 0 rfl rfl
theorem fn4_55 : Cond.fieldLinkNest "CliffCars$Rule" 55 "CliffCars$Day" "least" "I" "CliffCars" ∈ NN := nn (q2 1 rfl) rfl
theorem fl2_71 : Cond.fieldLink "CliffCars$Day" 71 "CliffCars$Day" "ups" "I" ∈ TT := t2 2 rfl rfl
theorem fn9_205 : Cond.fieldLinkNest "CliffCars" 205 "CliffCars$Day" "ups" "I" "CliffCars" ∈ NN := nn (q2 3 rfl) rfl
theorem fl2_83 : Cond.fieldLink "CliffCars$Day" 83 "CliffCars$Day" "downs" "I" ∈ TT := t2 4 rfl rfl
theorem fn9_208 : Cond.fieldLinkNest "CliffCars" 208 "CliffCars$Day" "downs" "I" "CliffCars" ∈ NN := nn (q2 5 rfl) rfl
theorem fl2_86 : Cond.fieldLink "CliffCars$Day" 86 "CliffCars$Day" "waited" "I" ∈ TT := t2 6 rfl rfl
theorem fn9_211 : Cond.fieldLinkNest "CliffCars" 211 "CliffCars$Day" "waited" "I" "CliffCars" ∈ NN := nn (q2 7 rfl) rfl
theorem fl2_89 : Cond.fieldLink "CliffCars$Day" 89 "CliffCars$Day" "lost" "I" ∈ TT := t2 8 rfl rfl
theorem fn9_214 : Cond.fieldLinkNest "CliffCars" 214 "CliffCars$Day" "lost" "I" "CliffCars" ∈ NN := nn (q2 9 rfl) rfl
theorem fl2_92 : Cond.fieldLink "CliffCars$Day" 92 "CliffCars$Day" "trips" "I" ∈ TT := t2 10 rfl rfl
theorem fn9_220 : Cond.fieldLinkNest "CliffCars" 220 "CliffCars$Day" "trips" "I" "CliffCars" ∈ NN := nn (q2 11 rfl) rfl
theorem fl2_9 : Cond.fieldLink "CliffCars$Day" 9 "CliffCars$Day" "pintsOf" "[I" ∈ TT := t2 12 rfl rfl
theorem fn9_223 : Cond.fieldLinkNest "CliffCars" 223 "CliffCars$Day" "pintsOf" "[I" "CliffCars" ∈ NN := nn (q2 13 rfl) rfl
theorem is6 : Cond.instantiable "CliffCars$Tape" 3 ∈ TT := t2 45 rfl rfl
theorem mn9_82 : Cond.methodLinkNest "CliffCars" 82 y6_init "CliffCars" ∈ NN := nn (q2 46 rfl) rfl
theorem ml6_3 : Cond.methodLink "CliffCars$Tape" 3 ⟨"java/lang/Object", "<init>", "()V"⟩ ∈ TT := t2 49 rfl rfl
theorem fl6_11 : Cond.fieldLink "CliffCars$Tape" 11 "CliffCars$Tape" "sort" "I" ∈ TT := t2 50 rfl rfl
theorem fl9_277 : Cond.fieldLink "CliffCars" 277 "CliffCars$Tape" "sort" "I" ∈ TT := t2 51 rfl rfl
theorem fl6_25 : Cond.fieldLink "CliffCars$Tape" 25 "CliffCars$Tape" "size" "I" ∈ TT := t2 52 rfl rfl
theorem fl6_15 : Cond.fieldLink "CliffCars$Tape" 15 "CliffCars$Tape" "items" "[J" ∈ TT := t2 53 rfl rfl
theorem fl2_63 : Cond.fieldLink "CliffCars$Day" 63 "CliffCars$Tape" "items" "[J" ∈ TT := t2 54 rfl rfl
theorem fl9_318 : Cond.fieldLink "CliffCars" 318 "CliffCars$Tape" "items" "[J" ∈ TT := t2 55 rfl rfl
theorem fl9_11 : Cond.fieldLink "CliffCars" 11 "CliffCars" "text" "[I" ∈ TT := t2 63 rfl rfl
theorem fl9_83 : Cond.fieldLink "CliffCars" 83 "CliffCars" "textLength" "I" ∈ TT := t2 64 rfl rfl
theorem fl9_17 : Cond.fieldLink "CliffCars" 17 "CliffCars" "cliffs" "[LCliffCars$Cliff;" ∈ TT := t2 65 rfl rfl
theorem fl9_87 : Cond.fieldLink "CliffCars" 87 "CliffCars" "cliffCount" "I" ∈ TT := t2 66 rfl rfl
theorem fl9_23 : Cond.fieldLink "CliffCars" 23 "CliffCars" "rules" "[LCliffCars$Rule;" ∈ TT := t2 67 rfl rfl
theorem fl9_181 : Cond.fieldLink "CliffCars" 181 "CliffCars" "ruleCount" "I" ∈ TT := t2 68 rfl rfl
theorem fl9_30 : Cond.fieldLink "CliffCars" 30 "CliffCars" "now" "LCliffCars$Setting;" ∈ TT := t2 69 rfl rfl
theorem fl9_34 : Cond.fieldLink "CliffCars" 34 "CliffCars" "kept" "LCliffCars$Setting;" ∈ TT := t2 70 rfl rfl
theorem fl9_288 : Cond.fieldLink "CliffCars" 288 "CliffCars" "hasImage" "Z" ∈ TT := t2 71 rfl rfl
theorem fl9_39 : Cond.fieldLink "CliffCars" 39 "CliffCars" "tapes" "[LCliffCars$Tape;" ∈ TT := t2 72 rfl rfl
theorem fl9_46 : Cond.fieldLink "CliffCars" 46 "CliffCars" "latest" "LCliffCars$Trace;" ∈ TT := t2 73 rfl rfl
theorem fl9_53 : Cond.fieldLink "CliffCars" 53 "CliffCars" "best" "LCliffCars$Rule;" ∈ TT := t2 74 rfl rfl
theorem fl9_60 : Cond.fieldLink "CliffCars" 60 "CliffCars" "terms" "LCliffCars$Terms;" ∈ TT := t2 75 rfl rfl
theorem fl9_69 : Cond.fieldLink "CliffCars" 69 "CliffCars" "plan" "LCliffCars$Plan;" ∈ TT := t2 76 rfl rfl
theorem fl9_78 : Cond.fieldLink "CliffCars" 78 "CliffCars" "run" "LCliffCars$Day;" ∈ TT := t2 77 rfl rfl
theorem mlL_13 : Cond.methodLink "CliffCarsLaw" 13 y9_feed ∈ TT := t2 109 rfl rfl
theorem mlL_18 : Cond.methodLink "CliffCarsLaw" 18 y9_cliff ∈ TT := t2 113 rfl rfl
theorem mn9_90 : Cond.methodLinkNest "CliffCars" 90 y1_init "CliffCars" ∈ NN := nn (q2 117 rfl) rfl
theorem cl9_91 : Cond.classLink "CliffCars" 91 "CliffCars$ClauseReader" ∈ TT := t2 118 rfl rfl
theorem is0 : Cond.instantiable "CliffCars$ClauseReader" 4 ∈ TT := t2 119 rfl rfl
theorem ml9_93 : Cond.methodLink "CliffCars" 93 y0_init ∈ TT := t2 120 rfl rfl
theorem ml0_3 : Cond.methodLink "CliffCars$ClauseReader" 3 ⟨"java/lang/Object", "<init>", "()V"⟩ ∈ TT := t2 123 rfl rfl
theorem ml0_19 : Cond.methodLink "CliffCars$ClauseReader" 19 yM_min ∈ TT := t2 124 rfl rfl
theorem fl0_15 : Cond.fieldLink "CliffCars$ClauseReader" 15 "CliffCars$ClauseReader" "bytes" "[I" ∈ TT := t2 127 rfl rfl
theorem fl0_25 : Cond.fieldLink "CliffCars$ClauseReader" 25 "CliffCars$ClauseReader" "length" "I" ∈ TT := t2 128 rfl rfl
theorem fl0_36 : Cond.fieldLink "CliffCars$ClauseReader" 36 "CliffCars$ClauseReader" "at" "I" ∈ TT := t2 129 rfl rfl
theorem fl0_9 : Cond.fieldLink "CliffCars$ClauseReader" 9 "CliffCars$ClauseReader" "fault" "I" ∈ TT := t2 130 rfl rfl
theorem ml9_96 : Cond.methodLink "CliffCars" 96 y0_clausesOf ∈ TT := t2 140 rfl rfl
theorem ml0_28 : Cond.methodLink "CliffCars$ClauseReader" 28 y0_clause ∈ TT := t2 144 rfl rfl
theorem ml0_51 : Cond.methodLink "CliffCars$ClauseReader" 51 y0_word ∈ TT := t2 148 rfl rfl
theorem ml0_79 : Cond.methodLink "CliffCars$ClauseReader" 79 y0_wordOf ∈ TT := t2 152 rfl rfl
theorem ml0_83 : Cond.methodLink "CliffCars$ClauseReader" 83 yS_length ∈ TT := t2 164 rfl rfl
theorem mlS_335 : Cond.methodLink "java/lang/String" 335 yS_coder ∈ TT := t2 168 rfl rfl
theorem flS_38 : Cond.fieldLink "java/lang/String" 38 "java/lang/String" "COMPACT_STRINGS" "Z" ∈ TT := t2 172 rfl rfl
theorem ml0_87 : Cond.methodLink "CliffCars$ClauseReader" 87 yS_charAt ∈ TT := t2 174 rfl rfl
theorem mlS_492 : Cond.methodLink "java/lang/String" 492 yS_isLatin1 ∈ TT := t2 178 rfl rfl
theorem mlS_495 : Cond.methodLink "java/lang/String" 495 yS1_charAt ∈ TT := t2 182 rfl rfl
theorem mlS1_9 : Cond.methodLink "java/lang/StringLatin1" 9 yS_checkIndex ∈ TT := t2 185 rfl rfl
theorem flS_1053 : Cond.fieldLink "java/lang/String" 1053 "jdk/internal/util/Preconditions" "SIOOBE_FORMATTER" "Ljava/util/function/BiFunction;" ∈ TT := t2 188 rfl rfl
theorem mlS_1059 : Cond.methodLink "java/lang/String" 1059 yP_checkIndex ∈ TT := t2 190 rfl rfl
theorem mlS_498 : Cond.methodLink "java/lang/String" 498 yS2_charAt ∈ TT := t2 193 rfl rfl
theorem mlS2_67 : Cond.methodLink "java/lang/StringUTF16" 67 yS2_checkIndex ∈ TT := t2 196 rfl rfl
theorem mlS2_48 : Cond.methodLink "java/lang/StringUTF16" 48 yS2_length ∈ TT := t2 199 rfl rfl
theorem mlS2_414 : Cond.methodLink "java/lang/StringUTF16" 414 yS_checkIndex ∈ TT := t2 202 rfl rfl
theorem mlS2_71 : Cond.methodLink "java/lang/StringUTF16" 71 yS2_getChar ∈ TT := t2 203 rfl rfl
theorem flS2_44 : Cond.fieldLink "java/lang/StringUTF16" 44 "java/lang/StringUTF16" "$assertionsDisabled" "Z" ∈ TT := t2 206 rfl rfl
theorem flS2_59 : Cond.fieldLink "java/lang/StringUTF16" 59 "java/lang/StringUTF16" "HI_BYTE_SHIFT" "I" ∈ TT := t2 208 rfl rfl
theorem flS2_63 : Cond.fieldLink "java/lang/StringUTF16" 63 "java/lang/StringUTF16" "LO_BYTE_SHIFT" "I" ∈ TT := t2 210 rfl rfl
theorem ml0_91 : Cond.methodLink "CliffCars$ClauseReader" 91 yM_max ∈ TT := t2 212 rfl rfl
theorem ml0_39 : Cond.methodLink "CliffCars$ClauseReader" 39 y0_fail ∈ TT := t2 215 rfl rfl
theorem ml0_54 : Cond.methodLink "CliffCars$ClauseReader" 54 y0_takeOneOf ∈ TT := t2 219 rfl rfl
theorem ml0_32 : Cond.methodLink "CliffCars$ClauseReader" 32 y0_peek ∈ TT := t2 223 rfl rfl
theorem ml0_58 : Cond.methodLink "CliffCars$ClauseReader" 58 y0_number ∈ TT := t2 227 rfl rfl
theorem ml0_68 : Cond.methodLink "CliffCars$ClauseReader" 68 y0_either ∈ TT := t2 231 rfl rfl
theorem ml0_112 : Cond.methodLink "CliffCars$ClauseReader" 112 y0_both ∈ TT := t2 235 rfl rfl
theorem ml0_115 : Cond.methodLink "CliffCars$ClauseReader" 115 y0_single ∈ TT := t2 239 rfl rfl
theorem ml0_118 : Cond.methodLink "CliffCars$ClauseReader" 118 y0_momentsWith ∈ TT := t3 3 rfl rfl
theorem ct0_121 : Cond.constant "CliffCars$ClauseReader" 121 16777215 ∈ TT := t3 6 rfl rfl
theorem ml0_71 : Cond.methodLink "CliffCars$ClauseReader" 71 y1_addIn ∈ TT := t3 7 rfl rfl
theorem ml0_75 : Cond.methodLink "CliffCars$ClauseReader" 75 y1_take ∈ TT := t3 10 rfl rfl
theorem ml1_40 : Cond.methodLink "CliffCars$Cliff" 40 y1_addPart ∈ TT := t3 14 rfl rfl
theorem ml1_47 : Cond.methodLink "CliffCars$Cliff" 47 yM_min ∈ TT := t3 18 rfl rfl
theorem ml0_47 : Cond.methodLink "CliffCars$ClauseReader" 47 y1_addPart ∈ TT := t3 19 rfl rfl
theorem ml9_100 : Cond.methodLink "CliffCars" 100 y9_moveTo ∈ TT := t3 20 rfl rfl
theorem ml9_336 : Cond.methodLink "CliffCars" 336 yM_min ∈ TT := t3 24 rfl rfl
theorem ac_byte : Cond.arrayClass .byte ∈ TT := t3 25 rfl rfl
theorem mlL_23 : Cond.methodLink "CliffCarsLaw" 23 y9_choose ∈ TT := t3 26 rfl rfl
theorem mlL_28 : Cond.methodLink "CliffCarsLaw" 28 y9_of ∈ TT := t3 30 rfl rfl
theorem ml9_107 : Cond.methodLink "CliffCars" 107 y9_theCliff ∈ TT := t3 34 rfl rfl
theorem mlL_32 : Cond.methodLink "CliffCarsLaw" 32 y9_told ∈ TT := t3 38 rfl rfl
theorem ml9_135 : Cond.methodLink "CliffCars" 135 y9_isNoStep ∈ TT := t3 42 rfl rfl
theorem ml9_139 : Cond.methodLink "CliffCars" 139 y5_momentOf ∈ TT := t3 45 rfl rfl
theorem mlL_36 : Cond.methodLink "CliffCarsLaw" 36 y9_pull ∈ TT := t3 49 rfl rfl
theorem ct9_149 : Cond.constantLong "CliffCars" 149 (-9223372036854775808) ∈ TT := t3 53 rfl rfl
theorem ml9_151 : Cond.methodLink "CliffCars" 151 y9_areNoHeads ∈ TT := t3 54 rfl rfl
theorem ml9_154 : Cond.methodLink "CliffCars" 154 y9_areNoPints ∈ TT := t3 57 rfl rfl
theorem ml9_157 : Cond.methodLink "CliffCars" 157 y1_pullAt ∈ TT := t3 60 rfl rfl
theorem mlL_41 : Cond.methodLink "CliffCarsLaw" 41 y9_stops ∈ TT := t3 64 rfl rfl
theorem ml9_161 : Cond.methodLink "CliffCars" 161 y1_stopOf ∈ TT := t3 68 rfl rfl
theorem ml1_53 : Cond.methodLink "CliffCars$Cliff" 53 y1_pullAt ∈ TT := t3 72 rfl rfl
theorem mlL_46 : Cond.methodLink "CliffCarsLaw" 46 y9_least ∈ TT := t3 73 rfl rfl
theorem ml9_165 : Cond.methodLink "CliffCars" 165 y1_leastWater ∈ TT := t3 77 rfl rfl
theorem ml1_57 : Cond.methodLink "CliffCars$Cliff" 57 yM_floorDiv ∈ TT := t3 81 rfl rfl
theorem ml1_60 : Cond.methodLink "CliffCars$Cliff" 60 yM_max ∈ TT := t3 84 rfl rfl
theorem mlL_51 : Cond.methodLink "CliffCarsLaw" 51 y9_jump ∈ TT := t3 85 rfl rfl
theorem mlL_55 : Cond.methodLink "CliffCarsLaw" 55 y9_come ∈ TT := t3 89 rfl rfl
theorem mlL_59 : Cond.methodLink "CliffCarsLaw" 59 y9_wet ∈ TT := t3 93 rfl rfl
theorem mlL_64 : Cond.methodLink "CliffCarsLaw" 64 y9_pond ∈ TT := t3 97 rfl rfl
theorem mlL_68 : Cond.methodLink "CliffCarsLaw" 68 y9_rule ∈ TT := t3 101 rfl rfl
theorem ml9_178 : Cond.methodLink "CliffCars" 178 y9_isNoKind ∈ TT := t3 105 rfl rfl
theorem mlL_72 : Cond.methodLink "CliffCarsLaw" 72 y9_row ∈ TT := t3 108 rfl rfl
theorem ml9_184 : Cond.methodLink "CliffCars" 184 y9_ruleAt ∈ TT := t3 112 rfl rfl
theorem ml9_191 : Cond.methodLink "CliffCars" 191 y4_hear ∈ TT := t3 116 rfl rfl
theorem mlL_76 : Cond.methodLink "CliffCarsLaw" 76 y9_day ∈ TT := t3 120 rfl rfl
theorem ml9_197 : Cond.methodLink "CliffCars" 197 y7_setTo ∈ TT := t3 124 rfl rfl
theorem ml7_22 : Cond.methodLink "CliffCars$Terms" 22 y5_momentOf ∈ TT := t3 128 rfl rfl
theorem ml7_33 : Cond.methodLink "CliffCars$Terms" 33 ⟨"java/lang/System", "arraycopy", "(Ljava/lang/Object;ILjava/lang/Object;II)V"⟩ ∈ TT := t3 129 rfl rfl
theorem nat_copy : Cond.native ⟨"java/lang/System", "arraycopy", "(Ljava/lang/Object;ILjava/lang/Object;II)V"⟩ ∈ TT := t3 131 rfl rfl
theorem ml9_201 : Cond.methodLink "CliffCars" 201 y2_leadBy ∈ TT := t3 132 rfl rfl
theorem ml2_23 : Cond.methodLink "CliffCars$Day" 23 y4_leastLeft ∈ TT := t3 136 rfl rfl
theorem ml2_29 : Cond.methodLink "CliffCars$Day" 29 y3_begin ∈ TT := t3 140 rfl rfl
theorem ml2_35 : Cond.methodLink "CliffCars$Day" 35 y2_begin ∈ TT := t3 144 rfl rfl
theorem ml2_36 : Cond.methodLink "CliffCars$Day" 36 y2_open ∈ TT := t3 148 rfl rfl
theorem ml2_98 : Cond.methodLink "CliffCars$Day" 98 y7_pondWithSpring ∈ TT := t3 152 rfl rfl
theorem ml7_54 : Cond.methodLink "CliffCars$Terms" 54 yM_min ∈ TT := t3 156 rfl rfl
theorem ml2_104 : Cond.methodLink "CliffCars$Day" 104 y7_comingAbove ∈ TT := t3 157 rfl rfl
theorem ml2_108 : Cond.methodLink "CliffCars$Day" 108 y7_comingBelow ∈ TT := t3 161 rfl rfl
theorem ml2_111 : Cond.methodLink "CliffCars$Day" 111 yM_max ∈ TT := t3 165 rfl rfl
theorem ml2_116 : Cond.methodLink "CliffCars$Day" 116 yM_min ∈ TT := t3 166 rfl rfl
theorem ml2_119 : Cond.methodLink "CliffCars$Day" 119 y7_seated ∈ TT := t3 167 rfl rfl
theorem ml2_39 : Cond.methodLink "CliffCars$Day" 39 y2_tripCanBe ∈ TT := t3 171 rfl rfl
theorem ml2_128 : Cond.methodLink "CliffCars$Day" 128 y7_leastFor ∈ TT := t3 175 rfl rfl
theorem ml7_66 : Cond.methodLink "CliffCars$Terms" 66 y1_leastWater ∈ TT := t3 179 rfl rfl
theorem ml2_43 : Cond.methodLink "CliffCars$Day" 43 y4_leads ∈ TT := t3 180 rfl rfl
theorem ml4_42 : Cond.methodLink "CliffCars$Rule" 42 y2_isLastStep ∈ TT := t3 184 rfl rfl
theorem ml4_49 : Cond.methodLink "CliffCars$Rule" 49 yM_max ∈ TT := t3 188 rfl rfl
theorem mn4_71 : Cond.methodLinkNest "CliffCars$Rule" 71 y3_worthOfTrip "CliffCars" ∈ NN := nn (q3 189 rfl) rfl
theorem ml3_57 : Cond.methodLink "CliffCars$Plan" 57 y7_seated ∈ TT := t3 192 rfl rfl
theorem ml3_60 : Cond.methodLink "CliffCars$Plan" 60 y7_leastFor ∈ TT := t3 193 rfl rfl
theorem ct3_64 : Cond.constant "CliffCars$Plan" 64 (-99999) ∈ TT := t3 194 rfl rfl
theorem ml3_45 : Cond.methodLink "CliffCars$Plan" 45 y3_worthFrom ∈ TT := t3 195 rfl rfl
theorem ct3_28 : Cond.constant "CliffCars$Plan" 28 1048575 ∈ TT := t3 198 rfl rfl
theorem ml3_29 : Cond.methodLink "CliffCars$Plan" 29 y7_pondWithSpring ∈ TT := t3 199 rfl rfl
theorem ml3_35 : Cond.methodLink "CliffCars$Plan" 35 y7_comingAbove ∈ TT := t3 200 rfl rfl
theorem ml3_39 : Cond.methodLink "CliffCars$Plan" 39 y3_waiting ∈ TT := t3 201 rfl rfl
theorem ml3_65 : Cond.methodLink "CliffCars$Plan" 65 yM_min ∈ TT := t3 204 rfl rfl
theorem ml3_42 : Cond.methodLink "CliffCars$Plan" 42 y7_comingBelow ∈ TT := t3 205 rfl rfl
theorem ml3_49 : Cond.methodLink "CliffCars$Plan" 49 y3_worthOfTrip ∈ TT := t3 206 rfl rfl
theorem ml3_52 : Cond.methodLink "CliffCars$Plan" 52 yM_max ∈ TT := t3 207 rfl rfl
theorem mn4_77 : Cond.methodLinkNest "CliffCars$Rule" 77 y3_worthFrom "CliffCars" ∈ NN := nn (q3 208 rfl) rfl
theorem ml2_51 : Cond.methodLink "CliffCars$Day" 51 y2_makeTrip ∈ TT := t3 209 rfl rfl
theorem ml2_54 : Cond.methodLink "CliffCars$Day" 54 y2_close ∈ TT := t3 213 rfl rfl
theorem mlL_80 : Cond.methodLink "CliffCarsLaw" 80 y9_waits ∈ TT := t3 217 rfl rfl
theorem ml9_226 : Cond.methodLink "CliffCars" 226 y9_isNoCrowd ∈ TT := t3 221 rfl rfl
theorem ml9_229 : Cond.methodLink "CliffCars" 229 y3_begin ∈ TT := t3 224 rfl rfl
theorem mn9_233 : Cond.methodLinkNest "CliffCars" 233 y3_worthFrom "CliffCars" ∈ NN := nn (q3 225 rfl) rfl
theorem ml9_237 : Cond.methodLink "CliffCars" 237 y3_gainOfTrip ∈ TT := t3 226 rfl rfl
theorem mlL_84 : Cond.methodLink "CliffCarsLaw" 84 y9_bell ∈ TT := t3 230 rfl rfl
theorem ml9_241 : Cond.methodLink "CliffCars" 241 y2_worth ∈ TT := t3 234 rfl rfl
theorem mlL_88 : Cond.methodLink "CliffCarsLaw" 88 y9_whit ∈ TT := t3 238 rfl rfl
theorem ml9_245 : Cond.methodLink "CliffCars" 245 y7_crowdBelow ∈ TT := t4 2 rfl rfl
theorem mlL_92 : Cond.methodLink "CliffCarsLaw" 92 y9_offer ∈ TT := t4 6 rfl rfl
theorem mlL_96 : Cond.methodLink "CliffCarsLaw" 96 y9_buy ∈ TT := t4 10 rfl rfl
theorem ml9_263 : Cond.methodLink "CliffCars" 263 y5_priceOf ∈ TT := t4 14 rfl rfl
theorem ml9_266 : Cond.methodLink "CliffCars" 266 y9_worthWith ∈ TT := t4 18 rfl rfl
theorem ml9_341 : Cond.methodLink "CliffCars" 341 y7_add ∈ TT := t4 22 rfl rfl
theorem mlL_100 : Cond.methodLink "CliffCarsLaw" 100 y9_judge ∈ TT := t4 26 rfl rfl
theorem ml9_270 : Cond.methodLink "CliffCars" 270 y9_isNoTape ∈ TT := t4 30 rfl rfl
theorem ml9_273 : Cond.methodLink "CliffCars" 273 y6_isEmpty ∈ TT := t4 33 rfl rfl
theorem ml9_280 : Cond.methodLink "CliffCars" 280 y2_faultOf ∈ TT := t4 37 rfl rfl
theorem ml2_57 : Cond.methodLink "CliffCars$Day" 57 y6_reaches ∈ TT := t4 41 rfl rfl
theorem ml2_67 : Cond.methodLink "CliffCars$Day" 67 y2_tripCanBeWith ∈ TT := t4 45 rfl rfl
theorem ml2_132 : Cond.methodLink "CliffCars$Day" 132 y7_goesWith ∈ TT := t4 49 rfl rfl
theorem ml7_73 : Cond.methodLink "CliffCars$Terms" 73 y1_stopOf ∈ TT := t4 53 rfl rfl
theorem mlL_104 : Cond.methodLink "CliffCarsLaw" 104 y9_image ∈ TT := t4 54 rfl rfl
theorem ml9_284 : Cond.methodLink "CliffCars" 284 y5_becomeLike ∈ TT := t4 58 rfl rfl
theorem ml5_28 : Cond.methodLink "CliffCars$Setting" 28 ⟨"java/lang/System", "arraycopy", "(Ljava/lang/Object;ILjava/lang/Object;II)V"⟩ ∈ TT := t4 62 rfl rfl
theorem mlL_108 : Cond.methodLink "CliffCarsLaw" 108 y9_undo ∈ TT := t4 63 rfl rfl
theorem mlL_112 : Cond.methodLink "CliffCarsLaw" 112 y9_act ∈ TT := t4 67 rfl rfl
theorem mn9_294 : Cond.methodLinkNest "CliffCars" 294 y4_goes "CliffCars" ∈ NN := nn (q4 71 rfl) rfl
theorem ml4_80 : Cond.methodLink "CliffCars$Rule" 80 y8_add ∈ TT := t4 74 rfl rfl
theorem ml4_86 : Cond.methodLink "CliffCars$Rule" 86 y4_goes ∈ TT := t4 78 rfl rfl
theorem mn9_298 : Cond.methodLinkNest "CliffCars" 298 y4_holds "CliffCars" ∈ NN := nn (q4 79 rfl) rfl
theorem ml4_90 : Cond.methodLink "CliffCars$Rule" 90 y4_holds ∈ TT := t4 82 rfl rfl
theorem mn9_301 : Cond.methodLinkNest "CliffCars" 301 y4_tells "CliffCars" ∈ NN := nn (q4 83 rfl) rfl
theorem ml4_93 : Cond.methodLink "CliffCars$Rule" 93 y4_tells ∈ TT := t4 86 rfl rfl
theorem mlL_116 : Cond.methodLink "CliffCarsLaw" 116 y9_trace ∈ TT := t4 87 rfl rfl
theorem mlL_120 : Cond.methodLink "CliffCarsLaw" 120 y9_taken ∈ TT := t4 91 rfl rfl
theorem ml9_307 : Cond.methodLink "CliffCars" 307 y4_isUnder ∈ TT := t4 95 rfl rfl
theorem mlL_124 : Cond.methodLink "CliffCarsLaw" 124 y9_count ∈ TT := t4 99 rfl rfl
theorem mlL_128 : Cond.methodLink "CliffCarsLaw" 128 y9_tape ∈ TT := t4 103 rfl rfl
theorem ml9_310 : Cond.methodLink "CliffCars" 310 y6_hold ∈ TT := t4 107 rfl rfl
theorem ml6_19 : Cond.methodLink "CliffCars$Tape" 19 yM_min ∈ TT := t4 111 rfl rfl
theorem mlL_134 : Cond.methodLink "CliffCarsLaw" 134 y9_item ∈ TT := t4 112 rfl rfl
theorem ml9_314 : Cond.methodLink "CliffCars" 314 y6_reaches ∈ TT := t4 116 rfl rfl
theorem ml9_322 : Cond.methodLink "CliffCars" 322 y6_lowestOf ∈ TT := t4 117 rfl rfl
theorem mlL_139 : Cond.methodLink "CliffCarsLaw" 139 y9_read ∈ TT := t4 121 rfl rfl
theorem mlL_144 : Cond.methodLink "CliffCarsLaw" 144 y9_shift ∈ TT := t4 125 rfl rfl
theorem ml9_326 : Cond.methodLink "CliffCars" 326 y6_hasStretch ∈ TT := t4 129 rfl rfl
theorem ml9_330 : Cond.methodLink "CliffCars" 330 ⟨"java/lang/System", "arraycopy", "(Ljava/lang/Object;ILjava/lang/Object;II)V"⟩ ∈ TT := t4 133 rfl rfl
theorem clL_10 : Cond.classLink "CliffCarsLaw" 10 "CliffCarsModel" ∈ TT := t4 134 rfl rfl
theorem is10 : Cond.instantiable "CliffCarsModel" 68 ∈ TT := t4 135 rfl rfl
theorem mlL_12 : Cond.methodLink "CliffCarsLaw" 12 y10_init ∈ TT := t4 136 rfl rfl
theorem ml10_1 : Cond.methodLink "CliffCarsModel" 1 ⟨"java/lang/Object", "<init>", "()V"⟩ ∈ TT := t4 139 rfl rfl
theorem ct10_130 : Cond.constant "CliffCarsModel" 130 43173 ∈ TT := t4 140 rfl rfl
theorem fl10_7 : Cond.fieldLink "CliffCarsModel" 7 "CliffCarsModel" "cliffs" "I" ∈ TT := t4 141 rfl rfl
theorem fl10_13 : Cond.fieldLink "CliffCarsModel" 13 "CliffCarsModel" "the" "I" ∈ TT := t4 142 rfl rfl
theorem fl10_16 : Cond.fieldLink "CliffCarsModel" 16 "CliffCarsModel" "fed" "I" ∈ TT := t4 143 rfl rfl
theorem fl10_19 : Cond.fieldLink "CliffCarsModel" 19 "CliffCarsModel" "at" "I" ∈ TT := t4 144 rfl rfl
theorem fl10_22 : Cond.fieldLink "CliffCarsModel" 22 "CliffCarsModel" "digits" "I" ∈ TT := t4 145 rfl rfl
theorem fl10_25 : Cond.fieldLink "CliffCarsModel" 25 "CliffCarsModel" "text" "[I" ∈ TT := t4 146 rfl rfl
theorem fl10_29 : Cond.fieldLink "CliffCarsModel" 29 "CliffCarsModel" "clauses" "[I" ∈ TT := t4 147 rfl rfl
theorem fl10_32 : Cond.fieldLink "CliffCarsModel" 32 "CliffCarsModel" "word" "[I" ∈ TT := t4 148 rfl rfl
theorem fl10_35 : Cond.fieldLink "CliffCarsModel" 35 "CliffCarsModel" "number" "[I" ∈ TT := t4 149 rfl rfl
theorem fl10_38 : Cond.fieldLink "CliffCarsModel" 38 "CliffCarsModel" "from" "[I" ∈ TT := t4 150 rfl rfl
theorem fl10_41 : Cond.fieldLink "CliffCarsModel" 41 "CliffCarsModel" "to" "[I" ∈ TT := t4 151 rfl rfl
theorem fl10_44 : Cond.fieldLink "CliffCarsModel" 44 "CliffCarsModel" "last" "[I" ∈ TT := t4 152 rfl rfl
theorem fl10_47 : Cond.fieldLink "CliffCarsModel" 47 "CliffCarsModel" "partsOf" "[I" ∈ TT := t4 153 rfl rfl
theorem fl10_50 : Cond.fieldLink "CliffCarsModel" 50 "CliffCarsModel" "part" "[I" ∈ TT := t4 154 rfl rfl
theorem fl10_53 : Cond.fieldLink "CliffCarsModel" 53 "CliffCarsModel" "sign" "[I" ∈ TT := t4 155 rfl rfl
theorem fl10_56 : Cond.fieldLink "CliffCarsModel" 56 "CliffCarsModel" "waits0" "[I" ∈ TT := t4 156 rfl rfl
theorem fl10_59 : Cond.fieldLink "CliffCarsModel" 59 "CliffCarsModel" "signs" "I" ∈ TT := t4 157 rfl rfl
theorem fl10_62 : Cond.fieldLink "CliffCarsModel" 62 "CliffCarsModel" "waiting" "I" ∈ TT := t4 158 rfl rfl
theorem fl10_65 : Cond.fieldLink "CliffCarsModel" 65 "CliffCarsModel" "open" "I" ∈ TT := t4 159 rfl rfl
theorem fl10_68 : Cond.fieldLink "CliffCarsModel" 68 "CliffCarsModel" "pile" "[Z" ∈ TT := t4 160 rfl rfl
theorem fl10_72 : Cond.fieldLink "CliffCarsModel" 72 "CliffCarsModel" "isWet" "Z" ∈ TT := t4 161 rfl rfl
theorem fl10_76 : Cond.fieldLink "CliffCarsModel" 76 "CliffCarsModel" "first" "I" ∈ TT := t4 162 rfl rfl
theorem fl10_79 : Cond.fieldLink "CliffCarsModel" 79 "CliffCarsModel" "comes" "[I" ∈ TT := t4 163 rfl rfl
theorem fl10_82 : Cond.fieldLink "CliffCarsModel" 82 "CliffCarsModel" "rules" "I" ∈ TT := t4 164 rfl rfl
theorem fl10_85 : Cond.fieldLink "CliffCarsModel" 85 "CliffCarsModel" "kind" "[I" ∈ TT := t4 165 rfl rfl
theorem fl10_88 : Cond.fieldLink "CliffCarsModel" 88 "CliffCarsModel" "v" "[I" ∈ TT := t4 166 rfl rfl
theorem fl10_91 : Cond.fieldLink "CliffCarsModel" 91 "CliffCarsModel" "rowMany" "[I" ∈ TT := t4 167 rfl rfl
theorem fl10_94 : Cond.fieldLink "CliffCarsModel" 94 "CliffCarsModel" "row" "[I" ∈ TT := t4 168 rfl rfl
theorem fl10_97 : Cond.fieldLink "CliffCarsModel" 97 "CliffCarsModel" "tank" "I" ∈ TT := t4 169 rfl rfl
theorem fl10_100 : Cond.fieldLink "CliffCarsModel" 100 "CliffCarsModel" "seats" "I" ∈ TT := t4 170 rfl rfl
theorem fl10_103 : Cond.fieldLink "CliffCarsModel" 103 "CliffCarsModel" "most" "I" ∈ TT := t4 171 rfl rfl
theorem fl10_106 : Cond.fieldLink "CliffCarsModel" 106 "CliffCarsModel" "times" "I" ∈ TT := t4 172 rfl rfl
theorem fl10_109 : Cond.fieldLink "CliffCarsModel" 109 "CliffCarsModel" "springs" "[I" ∈ TT := t4 173 rfl rfl
theorem fl10_112 : Cond.fieldLink "CliffCarsModel" 112 "CliffCarsModel" "least" "[I" ∈ TT := t4 174 rfl rfl
theorem fl10_115 : Cond.fieldLink "CliffCarsModel" 115 "CliffCarsModel" "now" "I" ∈ TT := t4 175 rfl rfl
theorem fl10_118 : Cond.fieldLink "CliffCarsModel" 118 "CliffCarsModel" "lost" "I" ∈ TT := t4 176 rfl rfl
theorem fl10_121 : Cond.fieldLink "CliffCarsModel" 121 "CliffCarsModel" "down" "I" ∈ TT := t4 177 rfl rfl
theorem fl10_124 : Cond.fieldLink "CliffCarsModel" 124 "CliffCarsModel" "up" "I" ∈ TT := t4 178 rfl rfl
theorem fl10_127 : Cond.fieldLink "CliffCarsModel" 127 "CliffCarsModel" "water" "I" ∈ TT := t4 179 rfl rfl
theorem fl10_131 : Cond.fieldLink "CliffCarsModel" 131 "CliffCarsModel" "marked" "[Z" ∈ TT := t4 180 rfl rfl
theorem fl10_134 : Cond.fieldLink "CliffCarsModel" 134 "CliffCarsModel" "worth" "[I" ∈ TT := t4 181 rfl rfl
theorem fl10_137 : Cond.fieldLink "CliffCarsModel" 137 "CliffCarsModel" "sumUp" "I" ∈ TT := t4 182 rfl rfl
theorem fl10_140 : Cond.fieldLink "CliffCarsModel" 140 "CliffCarsModel" "sumDown" "I" ∈ TT := t4 183 rfl rfl
theorem fl10_143 : Cond.fieldLink "CliffCarsModel" 143 "CliffCarsModel" "waited" "I" ∈ TT := t4 184 rfl rfl
theorem fl10_146 : Cond.fieldLink "CliffCarsModel" 146 "CliffCarsModel" "sumLost" "I" ∈ TT := t4 185 rfl rfl
theorem fl10_149 : Cond.fieldLink "CliffCarsModel" 149 "CliffCarsModel" "endState" "I" ∈ TT := t4 186 rfl rfl
theorem fl10_152 : Cond.fieldLink "CliffCarsModel" 152 "CliffCarsModel" "trips" "I" ∈ TT := t4 187 rfl rfl
theorem fl10_155 : Cond.fieldLink "CliffCarsModel" 155 "CliffCarsModel" "pints" "[I" ∈ TT := t4 188 rfl rfl
theorem fl10_158 : Cond.fieldLink "CliffCarsModel" 158 "CliffCarsModel" "offers" "I" ∈ TT := t4 189 rfl rfl
theorem fl10_161 : Cond.fieldLink "CliffCarsModel" 161 "CliffCarsModel" "sortOf" "[I" ∈ TT := t4 190 rfl rfl
theorem fl10_164 : Cond.fieldLink "CliffCarsModel" 164 "CliffCarsModel" "sizeOf" "[I" ∈ TT := t4 191 rfl rfl
theorem fl10_167 : Cond.fieldLink "CliffCarsModel" 167 "CliffCarsModel" "priceOf" "[I" ∈ TT := t4 192 rfl rfl
theorem fl10_170 : Cond.fieldLink "CliffCarsModel" 170 "CliffCarsModel" "more" "[I" ∈ TT := t4 193 rfl rfl
theorem fl10_173 : Cond.fieldLink "CliffCarsModel" 173 "CliffCarsModel" "hasImage" "Z" ∈ TT := t4 194 rfl rfl
theorem fl10_176 : Cond.fieldLink "CliffCarsModel" 176 "CliffCarsModel" "imageWet" "Z" ∈ TT := t4 195 rfl rfl
theorem fl10_179 : Cond.fieldLink "CliffCarsModel" 179 "CliffCarsModel" "imageThe" "I" ∈ TT := t4 196 rfl rfl
theorem fl10_182 : Cond.fieldLink "CliffCarsModel" 182 "CliffCarsModel" "imageFirst" "I" ∈ TT := t4 197 rfl rfl
theorem fl10_185 : Cond.fieldLink "CliffCarsModel" 185 "CliffCarsModel" "imageOffers" "I" ∈ TT := t4 198 rfl rfl
theorem fl10_188 : Cond.fieldLink "CliffCarsModel" 188 "CliffCarsModel" "imageComes" "[I" ∈ TT := t4 199 rfl rfl
theorem fl10_191 : Cond.fieldLink "CliffCarsModel" 191 "CliffCarsModel" "imageSort" "[I" ∈ TT := t4 200 rfl rfl
theorem fl10_194 : Cond.fieldLink "CliffCarsModel" 194 "CliffCarsModel" "imageSize" "[I" ∈ TT := t4 201 rfl rfl
theorem fl10_197 : Cond.fieldLink "CliffCarsModel" 197 "CliffCarsModel" "imagePrice" "[I" ∈ TT := t4 202 rfl rfl
theorem fl10_200 : Cond.fieldLink "CliffCarsModel" 200 "CliffCarsModel" "ran" "I" ∈ TT := t4 203 rfl rfl
theorem fl10_203 : Cond.fieldLink "CliffCarsModel" 203 "CliffCarsModel" "bodies" "[I" ∈ TT := t4 204 rfl rfl
theorem fl10_206 : Cond.fieldLink "CliffCarsModel" 206 "CliffCarsModel" "sort" "[I" ∈ TT := t4 205 rfl rfl
theorem fl10_209 : Cond.fieldLink "CliffCarsModel" 209 "CliffCarsModel" "length" "[I" ∈ TT := t4 206 rfl rfl
theorem fl10_212 : Cond.fieldLink "CliffCarsModel" 212 "CliffCarsModel" "item" "[J" ∈ TT := t4 207 rfl rfl
theorem fl10_216 : Cond.fieldLink "CliffCarsModel" 216 "CliffCarsModel" "aside" "[J" ∈ TT := t4 208 rfl rfl
theorem ac_boolean : Cond.arrayClass .boolean ∈ TT := t5 106 rfl rfl
theorem mlL_17 : Cond.methodLink "CliffCarsLaw" 17 y10_feed ∈ TT := t5 107 rfl rfl
theorem ml10_219 : Cond.methodLink "CliffCarsModel" 219 y10_in ∈ TT := t5 111 rfl rfl
theorem mlL_22 : Cond.methodLink "CliffCarsLaw" 22 y10_cliff ∈ TT := t5 115 rfl rfl
theorem ml10_280 : Cond.methodLink "CliffCarsModel" 280 y10_goesText ∈ TT := t5 119 rfl rfl
theorem ml10_273 : Cond.methodLink "CliffCarsModel" 273 y10_takesClause ∈ TT := t5 123 rfl rfl
theorem ml10_267 : Cond.methodLink "CliffCarsModel" 267 y10_takesHead ∈ TT := t5 127 rfl rfl
theorem ml10_251 : Cond.methodLink "CliffCarsModel" 251 y10_second ∈ TT := t5 131 rfl rfl
theorem ml10_223 : Cond.methodLink "CliffCarsModel" 223 y10_next ∈ TT := t5 135 rfl rfl
theorem ct10_254 : Cond.constant "CliffCarsModel" 254 540100 ∈ TT := t5 139 rfl rfl
theorem ml10_255 : Cond.methodLink "CliffCarsModel" 255 y10_takesWord ∈ TT := t5 140 rfl rfl
theorem ml10_227 : Cond.methodLink "CliffCarsModel" 227 y10_takes ∈ TT := t5 144 rfl rfl
theorem ct10_259 : Cond.constant "CliffCarsModel" 259 525908 ∈ TT := t5 148 rfl rfl
theorem ct10_260 : Cond.constant "CliffCarsModel" 260 605701 ∈ TT := t5 149 rfl rfl
theorem ct10_261 : Cond.constant "CliffCarsModel" 261 267300 ∈ TT := t5 150 rfl rfl
theorem ct10_262 : Cond.constant "CliffCarsModel" 262 149543 ∈ TT := t5 151 rfl rfl
theorem ct10_263 : Cond.constant "CliffCarsModel" 263 2688357 ∈ TT := t5 152 rfl rfl
theorem ct10_264 : Cond.constant "CliffCarsModel" 264 654910919 ∈ TT := t5 153 rfl rfl
theorem ct10_265 : Cond.constant "CliffCarsModel" 265 20088467 ∈ TT := t5 154 rfl rfl
theorem ct10_266 : Cond.constant "CliffCarsModel" 266 656843 ∈ TT := t5 155 rfl rfl
theorem ml10_239 : Cond.methodLink "CliffCarsModel" 239 y10_takesNumber ∈ TT := t5 156 rfl rfl
theorem ml10_231 : Cond.methodLink "CliffCarsModel" 231 y10_isDigit ∈ TT := t5 160 rfl rfl
theorem ml10_270 : Cond.methodLink "CliffCarsModel" 270 y10_takesE ∈ TT := t5 164 rfl rfl
theorem ml10_245 : Cond.methodLink "CliffCarsModel" 245 y10_takesTest ∈ TT := t5 168 rfl rfl
theorem ml10_235 : Cond.methodLink "CliffCarsModel" 235 y10_put ∈ TT := t5 172 rfl rfl
theorem ml10_242 : Cond.methodLink "CliffCarsModel" 242 y10_whole ∈ TT := t5 176 rfl rfl
theorem ml10_248 : Cond.methodLink "CliffCarsModel" 248 y10_settle ∈ TT := t5 180 rfl rfl
theorem ml10_283 : Cond.methodLink "CliffCarsModel" 283 y10_settleCliff ∈ TT := t5 184 rfl rfl
theorem ml10_276 : Cond.methodLink "CliffCarsModel" 276 y10_min ∈ TT := t5 188 rfl rfl
theorem ml10_286 : Cond.methodLink "CliffCarsModel" 286 y10_lastOf ∈ TT := t5 192 rfl rfl
theorem mlL_27 : Cond.methodLink "CliffCarsLaw" 27 y10_choose ∈ TT := t5 196 rfl rfl
theorem mlL_31 : Cond.methodLink "CliffCarsLaw" 31 y10_of ∈ TT := t5 200 rfl rfl
theorem mlL_35 : Cond.methodLink "CliffCarsLaw" 35 y10_told ∈ TT := t5 204 rfl rfl
theorem ml10_293 : Cond.methodLink "CliffCarsModel" 293 y10_isStep ∈ TT := t5 208 rfl rfl
theorem ml10_296 : Cond.methodLink "CliffCarsModel" 296 y10_sum ∈ TT := t5 212 rfl rfl
theorem ml10_290 : Cond.methodLink "CliffCarsModel" 290 y10_holds ∈ TT := t5 216 rfl rfl
theorem mlL_40 : Cond.methodLink "CliffCarsLaw" 40 y10_pull ∈ TT := t5 220 rfl rfl
theorem ml10_307 : Cond.methodLink "CliffCarsModel" 307 y10_isLoad ∈ TT := t5 224 rfl rfl
theorem ct10_310 : Cond.constantLong "CliffCarsModel" 310 (-9223372036854775808) ∈ TT := t5 228 rfl rfl
theorem ml10_299 : Cond.methodLink "CliffCarsModel" 299 y10_pullOf ∈ TT := t5 229 rfl rfl
theorem mlL_45 : Cond.methodLink "CliffCarsLaw" 45 y10_stops ∈ TT := t5 233 rfl rfl
theorem ml10_303 : Cond.methodLink "CliffCarsModel" 303 y10_stopsBy ∈ TT := t5 237 rfl rfl
theorem mlL_50 : Cond.methodLink "CliffCarsLaw" 50 y10_least ∈ TT := t6 1 rfl rfl
theorem ml10_312 : Cond.methodLink "CliffCarsModel" 312 y10_leastBy ∈ TT := t6 5 rfl rfl
theorem mlL_54 : Cond.methodLink "CliffCarsLaw" 54 y10_jump ∈ TT := t6 9 rfl rfl
theorem mlL_58 : Cond.methodLink "CliffCarsLaw" 58 y10_come ∈ TT := t6 13 rfl rfl
theorem mlL_63 : Cond.methodLink "CliffCarsLaw" 63 y10_wet ∈ TT := t6 17 rfl rfl
theorem mlL_67 : Cond.methodLink "CliffCarsLaw" 67 y10_pond ∈ TT := t6 21 rfl rfl
theorem mlL_71 : Cond.methodLink "CliffCarsLaw" 71 y10_rule ∈ TT := t6 25 rfl rfl
theorem mlL_75 : Cond.methodLink "CliffCarsLaw" 75 y10_row ∈ TT := t6 29 rfl rfl
theorem ml10_315 : Cond.methodLink "CliffCarsModel" 315 y10_isRule ∈ TT := t6 33 rfl rfl
theorem mlL_79 : Cond.methodLink "CliffCarsLaw" 79 y10_day ∈ TT := t6 37 rfl rfl
theorem ml10_337 : Cond.methodLink "CliffCarsModel" 337 y10_layDay ∈ TT := t6 41 rfl rfl
theorem ml10_341 : Cond.methodLink "CliffCarsModel" 341 y10_goDay ∈ TT := t6 45 rfl rfl
theorem ml10_329 : Cond.methodLink "CliffCarsModel" 329 y10_valueFrom ∈ TT := t6 49 rfl rfl
theorem ml10_318 : Cond.methodLink "CliffCarsModel" 318 y10_comesIn ∈ TT := t6 53 rfl rfl
theorem ml10_322 : Cond.methodLink "CliffCarsModel" 322 y10_can ∈ TT := t6 57 rfl rfl
theorem ml10_325 : Cond.methodLink "CliffCarsModel" 325 y10_gone ∈ TT := t6 61 rfl rfl
theorem ct10_328 : Cond.constant "CliffCarsModel" 328 39852 ∈ TT := t6 65 rfl rfl
theorem ml10_333 : Cond.methodLink "CliffCarsModel" 333 y10_leads ∈ TT := t6 66 rfl rfl
theorem mlL_83 : Cond.methodLink "CliffCarsLaw" 83 y10_waits ∈ TT := t6 70 rfl rfl
theorem ct10_345 : Cond.constantLong "CliffCarsModel" 345 (-99999) ∈ TT := t6 74 rfl rfl
theorem ct10_347 : Cond.constantLong "CliffCarsModel" 347 100 ∈ TT := t6 75 rfl rfl
theorem mlL_87 : Cond.methodLink "CliffCarsLaw" 87 y10_bell ∈ TT := t6 76 rfl rfl
theorem mlL_91 : Cond.methodLink "CliffCarsLaw" 91 y10_whit ∈ TT := t6 80 rfl rfl
theorem mlL_95 : Cond.methodLink "CliffCarsLaw" 95 y10_offer ∈ TT := t6 84 rfl rfl
theorem mlL_99 : Cond.methodLink "CliffCarsLaw" 99 y10_buy ∈ TT := t6 88 rfl rfl
theorem mlL_103 : Cond.methodLink "CliffCarsLaw" 103 y10_judge ∈ TT := t6 92 rfl rfl
theorem ml10_349 : Cond.methodLink "CliffCarsModel" 349 y10_isTape ∈ TT := t6 96 rfl rfl
theorem ct10_352 : Cond.constantLong "CliffCarsModel" 352 (-1) ∈ TT := t6 100 rfl rfl
theorem mlL_107 : Cond.methodLink "CliffCarsLaw" 107 y10_image ∈ TT := t6 101 rfl rfl
theorem ml10_354 : Cond.methodLink "CliffCarsModel" 354 y10_copy ∈ TT := t6 105 rfl rfl
theorem mlL_111 : Cond.methodLink "CliffCarsLaw" 111 y10_undo ∈ TT := t6 109 rfl rfl
theorem mlL_115 : Cond.methodLink "CliffCarsLaw" 115 y10_act ∈ TT := t6 113 rfl rfl
theorem ml10_367 : Cond.methodLink "CliffCarsModel" 367 y10_goes ∈ TT := t6 117 rfl rfl
theorem ml10_358 : Cond.methodLink "CliffCarsModel" 358 y10_body ∈ TT := t6 121 rfl rfl
theorem ml10_361 : Cond.methodLink "CliffCarsModel" 361 y10_plainGoes ∈ TT := t6 125 rfl rfl
theorem ml10_364 : Cond.methodLink "CliffCarsModel" 364 y10_bestGoes ∈ TT := t6 129 rfl rfl
theorem ml10_373 : Cond.methodLink "CliffCarsModel" 373 y10_holdsAct ∈ TT := t6 133 rfl rfl
theorem ml10_370 : Cond.methodLink "CliffCarsModel" 370 y10_plainHolds ∈ TT := t6 137 rfl rfl
theorem ml10_379 : Cond.methodLink "CliffCarsModel" 379 y10_tells ∈ TT := t6 141 rfl rfl
theorem ml10_376 : Cond.methodLink "CliffCarsModel" 376 y10_plainTells ∈ TT := t6 145 rfl rfl
theorem mlL_119 : Cond.methodLink "CliffCarsLaw" 119 y10_trace ∈ TT := t6 149 rfl rfl
theorem mlL_123 : Cond.methodLink "CliffCarsLaw" 123 y10_taken ∈ TT := t6 153 rfl rfl
theorem mlL_127 : Cond.methodLink "CliffCarsLaw" 127 y10_count ∈ TT := t6 157 rfl rfl
theorem mlL_131 : Cond.methodLink "CliffCarsLaw" 131 y10_tape ∈ TT := t6 161 rfl rfl
theorem mlL_138 : Cond.methodLink "CliffCarsLaw" 138 y10_item ∈ TT := t6 165 rfl rfl
theorem ml10_382 : Cond.methodLink "CliffCarsModel" 382 y10_narrow ∈ TT := t6 169 rfl rfl
theorem mlL_143 : Cond.methodLink "CliffCarsLaw" 143 y10_read ∈ TT := t6 173 rfl rfl
theorem mlL_148 : Cond.methodLink "CliffCarsLaw" 148 y10_shift ∈ TT := t6 177 rfl rfl
theorem ctL_132 : Cond.constantLong "CliffCarsLaw" 132 4294967295 ∈ TT := t6 181 rfl rfl
theorem flS_9 : Cond.fieldLink "java/lang/String" 9 "java/lang/String" "value" "[B" ∈ TT := t6 182 rfl rfl
theorem flS_15 : Cond.fieldLink "java/lang/String" 15 "java/lang/String" "coder" "B" ∈ TT := t6 183 rfl rfl
theorem iniY : Cond.initialized "java/lang/System" ∈ TT := t1 17 rfl rfl
theorem iniM : Cond.initialized "java/lang/Math" ∈ TT := t1 12 rfl rfl
theorem iniS : Cond.initialized "java/lang/String" ∈ TT := t1 13 rfl rfl
theorem iniS1 : Cond.initialized "java/lang/StringLatin1" ∈ TT := t1 14 rfl rfl
theorem iniS2 : Cond.initialized "java/lang/StringUTF16" ∈ TT := t1 16 rfl rfl
theorem iniP : Cond.initialized "jdk/internal/util/Preconditions" ∈ TT := t1 15 rfl rfl
theorem imY_init : Cond.instanceMethod ⟨"java/lang/Object", "<init>", "()V"⟩ ∈ TT := t1 24 rfl rfl
theorem cdY_init : Cond.code ⟨"java/lang/Object", "<init>", "()V"⟩ object_method_1_code 1 none ∈ TT := t1 25 rfl rfl
theorem stY_arraycopy : Cond.static ⟨"java/lang/System", "arraycopy", "(Ljava/lang/Object;ILjava/lang/Object;II)V"⟩ ∈ TT := t3 130 rfl rfl
