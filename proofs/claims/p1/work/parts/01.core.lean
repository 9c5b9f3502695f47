-- lemmas on word lists (printed)
theorem goodIn_r {big : List Cond} (ws : List Cond) (ps : List Nat) (hp : ws = ps.filterMap (fun i => big[i]?)) (h : ws.all goodWord = true) : GoodIn big ws := by
  intro w hw
  have h1 := List.all_eq_true.mp h w hw
  rw [hp] at hw
  obtain ⟨i, -, hi⟩ := List.mem_filterMap.mp hw
  have hm : w ∈ big := by first | exact List.mem_of_getElem? hi | exact List.getElem?_mem hi
  exact ⟨hm, good_of_word h1⟩
theorem goodIn_app {big a b : List Cond} (ha : GoodIn big a) (hb : GoodIn big b) : GoodIn big (a ++ b) := fun w h => (List.mem_append.mp h).elim (ha w) (hb w)
theorem goodIn_ca {big a b : List Cond} {c : Cond} (ha : GoodIn big (c :: a)) (hb : GoodIn big b) : GoodIn big (c :: (a ++ b)) := fun w h => (List.mem_cons.mp h).elim (fun e => ha w (List.mem_cons.mpr (Or.inl e))) (fun h => (List.mem_append.mp h).elim (fun h => ha w (List.mem_cons.mpr (Or.inr h))) (hb w))
theorem goodIn_sub {big ws : List Cond} (hm : ∀ w ∈ ws, w ∈ big) (h : ws.all goodWord = true) : GoodIn big ws := fun w hw => ⟨hm w hw, good_of_word (List.all_eq_true.mp h w hw)⟩
def RX0 : String := "LostWords$Formula"
def TX0 : u_T := fun k => match k with
  | 0 => ("LostWords$Formula", "steps", "[I", true)
  | 1 => ("LostWords$Formula", "numbers", "[I", true)
  | 2 => ("LostWords$Formula", "stack", "[I", true)
  | 3 => ("LostWords$Formula", "known", "[I", true)
  | 4 => ("LostWords$Formula", "stepCount", "I", false)
  | 5 => ("LostWords$Formula", "depth", "I", false)
  | 6 => ("LostWords$Formula", "units", "I", false)
  | _ => ("LostWords$Formula", "isTold", "Z", false)
def tyX0 : Nat → FieldType := fun k => match k with
  | 0 => .array .int
  | 1 => .array .int
  | 2 => .array .int
  | 3 => .array .int
  | 4 => .int
  | 5 => .int
  | 6 => .int
  | _ => .boolean
abbrev wsX00 : List Cond := u_ws RX0 TX0 8
theorem nmX0 : ∀ a, a < 8 → ∀ b, b < 8 → a ≠ b → (TX0 a).2.1 ≠ (TX0 b).2.1 := by decide +kernel
theorem tyX0_ok : ∀ k, k < 8 → parseFieldDescriptor (TX0 k).2.2.1 = some (tyX0 k) := by decide +kernel
def RX1 : String := "LostWords$Line"
def TX1 : u_T := fun k => match k with
  | 0 => ("LostWords$Line", "items", "[I", true)
  | _ => ("LostWords$Line", "count", "I", false)
def tyX1 : Nat → FieldType := fun k => match k with
  | 0 => .array .int
  | _ => .int
abbrev wsX10 : List Cond := u_ws RX1 TX1 2
theorem nmX1 : ∀ a, a < 2 → ∀ b, b < 2 → a ≠ b → (TX1 a).2.1 ≠ (TX1 b).2.1 := by decide +kernel
theorem tyX1_ok : ∀ k, k < 2 → parseFieldDescriptor (TX1 k).2.2.1 = some (tyX1 k) := by decide +kernel
def RX2 : String := "LostWords$Losses"
def TX2 : u_T := fun k => match k with
  | _ => ("LostWords$Losses", "outcomes", "[I", true)
def tyX2 : Nat → FieldType := fun k => match k with
  | _ => .array .int
abbrev wsX20 : List Cond := u_ws RX2 TX2 1
theorem nmX2 : ∀ a, a < 1 → ∀ b, b < 1 → a ≠ b → (TX2 a).2.1 ≠ (TX2 b).2.1 := by decide +kernel
theorem tyX2_ok : ∀ k, k < 1 → parseFieldDescriptor (TX2 k).2.2.1 = some (tyX2 k) := by decide +kernel
def RX3 : String := "LostWords$Mender"
def TX3 : u_T := fun k => match k with
  | 0 => ("LostWords$Mender", "left", "LLostWords$Line;", true)
  | 1 => ("LostWords$Mender", "trial", "LLostWords$Line;", true)
  | _ => ("LostWords$Mender", "found", "LLostWords$Line;", true)
def tyX3 : Nat → FieldType := fun k => match k with
  | 0 => .object "LostWords$Line"
  | 1 => .object "LostWords$Line"
  | _ => .object "LostWords$Line"
abbrev wsX30 : List Cond := u_ws RX3 TX3 3
theorem nmX3 : ∀ a, a < 3 → ∀ b, b < 3 → a ≠ b → (TX3 a).2.1 ≠ (TX3 b).2.1 := by decide +kernel
theorem tyX3_ok : ∀ k, k < 3 → parseFieldDescriptor (TX3 k).2.2.1 = some (tyX3 k) := by decide +kernel
def RX4 : String := "LostWords$Pairs"
def TX4 : u_T := fun k => match k with
  | 0 => ("LostWords$Pairs", "grid", "[I", true)
  | 1 => ("LostWords$Pairs", "lengths", "[I", true)
  | 2 => ("LostWords$Pairs", "counts", "[I", true)
  | 3 => ("LostWords$Pairs", "next", "[I", true)
  | 4 => ("LostWords$Pairs", "first", "LLostWords$Line;", false)
  | 5 => ("LostWords$Pairs", "second", "LLostWords$Line;", false)
  | _ => ("LostWords$Pairs", "third", "LLostWords$Line;", false)
def tyX4 : Nat → FieldType := fun k => match k with
  | 0 => .array .int
  | 1 => .array .int
  | 2 => .array .int
  | 3 => .array .int
  | 4 => .object "LostWords$Line"
  | 5 => .object "LostWords$Line"
  | _ => .object "LostWords$Line"
abbrev wsX40 : List Cond := u_ws RX4 TX4 7
theorem nmX4 : ∀ a, a < 7 → ∀ b, b < 7 → a ≠ b → (TX4 a).2.1 ≠ (TX4 b).2.1 := by decide +kernel
theorem tyX4_ok : ∀ k, k < 7 → parseFieldDescriptor (TX4 k).2.2.1 = some (tyX4 k) := by decide +kernel
def RX5 : String := "LostWords$Play"
def TX5 : u_T := fun k => match k with
  | 0 => ("LostWords$Play", "now", "LLostWords$State;", true)
  | 1 => ("LostWords$Play", "ahead", "LLostWords$State;", true)
  | 2 => ("LostWords$Play", "trail", "[LLostWords$State;", true)
  | 3 => ("LostWords$Play", "boxes", "[LLostWords$State;", true)
  | 4 => ("LostWords$Play", "isFilled", "[Z", true)
  | 5 => ("LostWords$Play", "here", "I", false)
  | _ => ("LostWords$Play", "end", "I", false)
def tyX5 : Nat → FieldType := fun k => match k with
  | 0 => .object "LostWords$State"
  | 1 => .object "LostWords$State"
  | 2 => .array (.object "LostWords$State")
  | 3 => .array (.object "LostWords$State")
  | 4 => .array .boolean
  | 5 => .int
  | _ => .int
abbrev wsX50 : List Cond := u_ws RX5 TX5 7
theorem nmX5 : ∀ a, a < 7 → ∀ b, b < 7 → a ≠ b → (TX5 a).2.1 ≠ (TX5 b).2.1 := by decide +kernel
theorem tyX5_ok : ∀ k, k < 7 → parseFieldDescriptor (TX5 k).2.2.1 = some (tyX5 k) := by decide +kernel
def RX6 : String := "LostWords$Reader"
def TX6 : u_T := fun k => match k with
  | 0 => ("LostWords$Reader", "tape", "LLostWords$Tape;", true)
  | 1 => ("LostWords$Reader", "draft", "LLostWords$Told;", false)
  | 2 => ("LostWords$Reader", "fault", "I", false)
  | _ => ("LostWords$Reader", "place", "I", false)
def tyX6 : Nat → FieldType := fun k => match k with
  | 0 => .object "LostWords$Tape"
  | 1 => .object "LostWords$Told"
  | 2 => .int
  | _ => .int
abbrev wsX60 : List Cond := u_ws RX6 TX6 4
theorem nmX6 : ∀ a, a < 4 → ∀ b, b < 4 → a ≠ b → (TX6 a).2.1 ≠ (TX6 b).2.1 := by decide +kernel
theorem tyX6_ok : ∀ k, k < 4 → parseFieldDescriptor (TX6 k).2.2.1 = some (tyX6 k) := by decide +kernel
def RX7 : String := "LostWords$Seating"
def TX7 : u_T := fun k => match k with
  | 0 => ("LostWords$Seating", "coming", "[I", true)
  | 1 => ("LostWords$Seating", "sooner", "[I", true)
  | 2 => ("LostWords$Seating", "after", "[I", true)
  | 3 => ("LostWords$Seating", "toldAt", "[I", true)
  | 4 => ("LostWords$Seating", "untoldAt", "[I", true)
  | 5 => ("LostWords$Seating", "mustBeAhead", "[I", true)
  | 6 => ("LostWords$Seating", "order", "[I", true)
  | 7 => ("LostWords$Seating", "tally", "[I", true)
  | 8 => ("LostWords$Seating", "firstOrder", "LLostWords$Line;", true)
  | 9 => ("LostWords$Seating", "slipCount", "I", false)
  | 10 => ("LostWords$Seating", "hintCount", "I", false)
  | 11 => ("LostWords$Seating", "time", "I", false)
  | _ => ("LostWords$Seating", "orders", "I", false)
def tyX7 : Nat → FieldType := fun k => match k with
  | 0 => .array .int
  | 1 => .array .int
  | 2 => .array .int
  | 3 => .array .int
  | 4 => .array .int
  | 5 => .array .int
  | 6 => .array .int
  | 7 => .array .int
  | 8 => .object "LostWords$Line"
  | 9 => .int
  | 10 => .int
  | 11 => .int
  | _ => .int
abbrev wsX70 : List Cond := u_ws RX7 TX7 13
theorem nmX7 : ∀ a, a < 13 → ∀ b, b < 13 → a ≠ b → (TX7 a).2.1 ≠ (TX7 b).2.1 := by decide +kernel
theorem tyX7_ok : ∀ k, k < 13 → parseFieldDescriptor (TX7 k).2.2.1 = some (tyX7 k) := by decide +kernel
def RX8 : String := "LostWords$State"
def TX8 : u_T := fun k => match k with
  | 0 => ("LostWords$State", "row", "LLostWords$Line;", true)
  | 1 => ("LostWords$State", "round", "I", false)
  | _ => ("LostWords$State", "seed", "I", false)
def tyX8 : Nat → FieldType := fun k => match k with
  | 0 => .object "LostWords$Line"
  | 1 => .int
  | _ => .int
abbrev wsX80 : List Cond := u_ws RX8 TX8 3
theorem nmX8 : ∀ a, a < 3 → ∀ b, b < 3 → a ≠ b → (TX8 a).2.1 ≠ (TX8 b).2.1 := by decide +kernel
theorem tyX8_ok : ∀ k, k < 3 → parseFieldDescriptor (TX8 k).2.2.1 = some (tyX8 k) := by decide +kernel
def RX9 : String := "LostWords$Tape"
def TX9 : u_T := fun k => match k with
  | 0 => ("LostWords$Tape", "text", "[B", true)
  | 1 => ("LostWords$Tape", "keys", "[J", true)
  | 2 => ("LostWords$Tape", "length", "I", false)
  | 3 => ("LostWords$Tape", "next", "I", false)
  | 4 => ("LostWords$Tape", "kind", "I", false)
  | 5 => ("LostWords$Tape", "start", "I", false)
  | 6 => ("LostWords$Tape", "number", "I", false)
  | _ => ("LostWords$Tape", "name", "J", false)
def tyX9 : Nat → FieldType := fun k => match k with
  | 0 => .array .byte
  | 1 => .array .long
  | 2 => .int
  | 3 => .int
  | 4 => .int
  | 5 => .int
  | 6 => .int
  | _ => .long
abbrev wsX90 : List Cond := u_ws RX9 TX9 8
theorem nmX9 : ∀ a, a < 8 → ∀ b, b < 8 → a ≠ b → (TX9 a).2.1 ≠ (TX9 b).2.1 := by decide +kernel
theorem tyX9_ok : ∀ k, k < 8 → parseFieldDescriptor (TX9 k).2.2.1 = some (tyX9 k) := by decide +kernel
def RX10 : String := "LostWords$Told"
def TX10 : u_T := fun k => match k with
  | 0 => ("LostWords$Told", "names", "[J", true)
  | 1 => ("LostWords$Told", "worths", "[I", true)
  | 2 => ("LostWords$Told", "weights", "[I", true)
  | 3 => ("LostWords$Told", "isPaired", "[Z", true)
  | 4 => ("LostWords$Told", "row", "LLostWords$Line;", true)
  | 5 => ("LostWords$Told", "slips", "[LLostWords$Line;", true)
  | 6 => ("LostWords$Told", "formula", "LLostWords$Formula;", true)
  | 7 => ("LostWords$Told", "wordCount", "I", false)
  | 8 => ("LostWords$Told", "pairCount", "I", false)
  | 9 => ("LostWords$Told", "slipCount", "I", false)
  | 10 => ("LostWords$Told", "draw", "I", false)
  | _ => ("LostWords$Told", "isDrawTold", "Z", false)
def tyX10 : Nat → FieldType := fun k => match k with
  | 0 => .array .long
  | 1 => .array .int
  | 2 => .array .int
  | 3 => .array .boolean
  | 4 => .object "LostWords$Line"
  | 5 => .array (.object "LostWords$Line")
  | 6 => .object "LostWords$Formula"
  | 7 => .int
  | 8 => .int
  | 9 => .int
  | 10 => .int
  | _ => .boolean
abbrev wsX100 : List Cond := u_ws RX10 TX10 12
theorem nmX10 : ∀ a, a < 12 → ∀ b, b < 12 → a ≠ b → (TX10 a).2.1 ≠ (TX10 b).2.1 := by decide +kernel
theorem tyX10_ok : ∀ k, k < 12 → parseFieldDescriptor (TX10 k).2.2.1 = some (tyX10 k) := by decide +kernel
def RX11 : String := "LostWords"
def TX11 : u_T := fun k => match k with
  | 0 => ("LostWords", "reader", "LLostWords$Reader;", true)
  | 1 => ("LostWords", "play", "LLostWords$Play;", true)
  | 2 => ("LostWords", "pairs", "LLostWords$Pairs;", true)
  | 3 => ("LostWords", "losses", "LLostWords$Losses;", true)
  | 4 => ("LostWords", "mender", "LLostWords$Mender;", true)
  | 5 => ("LostWords", "seating", "LLostWords$Seating;", true)
  | 6 => ("LostWords", "lying", "LLostWords$Line;", true)
  | 7 => ("LostWords", "nobody", "LLostWords$Line;", true)
  | _ => ("LostWords", "told", "LLostWords$Told;", false)
def tyX11 : Nat → FieldType := fun k => match k with
  | 0 => .object "LostWords$Reader"
  | 1 => .object "LostWords$Play"
  | 2 => .object "LostWords$Pairs"
  | 3 => .object "LostWords$Losses"
  | 4 => .object "LostWords$Mender"
  | 5 => .object "LostWords$Seating"
  | 6 => .object "LostWords$Line"
  | 7 => .object "LostWords$Line"
  | _ => .object "LostWords$Told"
abbrev wsX110 : List Cond := u_ws RX11 TX11 9
theorem nmX11 : ∀ a, a < 9 → ∀ b, b < 9 → a ≠ b → (TX11 a).2.1 ≠ (TX11 b).2.1 := by decide +kernel
theorem tyX11_ok : ∀ k, k < 9 → parseFieldDescriptor (TX11 k).2.2.1 = some (tyX11 k) := by decide +kernel
def RX12 : String := "LostWordsModel"
def TX12 : u_T := fun k => match k with
  | 0 => ("LostWordsModel", "tape", "[B", true)
  | 1 => ("LostWordsModel", "text", "[B", true)
  | 2 => ("LostWordsModel", "taped", "I", false)
  | 3 => ("LostWordsModel", "size", "I", false)
  | 4 => ("LostWordsModel", "faultKind", "I", false)
  | 5 => ("LostWordsModel", "faultPlace", "I", false)
  | 6 => ("LostWordsModel", "at", "I", false)
  | 7 => ("LostWordsModel", "end", "I", false)
  | 8 => ("LostWordsModel", "token", "I", false)
  | 9 => ("LostWordsModel", "number", "I", false)
  | 10 => ("LostWordsModel", "name", "J", false)
  | 11 => ("LostWordsModel", "words", "[I", true)
  | 12 => ("LostWordsModel", "besides", "[I", true)
  | 13 => ("LostWordsModel", "slips", "[I", true)
  | 14 => ("LostWordsModel", "units", "[I", true)
  | 15 => ("LostWordsModel", "draw", "[I", true)
  | 16 => ("LostWordsModel", "rowLong", "[I", true)
  | 17 => ("LostWordsModel", "worthOf", "[I", true)
  | 18 => ("LostWordsModel", "besideOf", "[I", true)
  | 19 => ("LostWordsModel", "isBeside", "[I", true)
  | 20 => ("LostWordsModel", "rowTold", "[I", true)
  | 21 => ("LostWordsModel", "slipLong", "[I", true)
  | 22 => ("LostWordsModel", "slipWord", "[I", true)
  | 23 => ("LostWordsModel", "ruleFrom", "[I", true)
  | 24 => ("LostWordsModel", "ruleTo", "[I", true)
  | 25 => ("LostWordsModel", "hasRow", "[Z", true)
  | 26 => ("LostWordsModel", "hasMiss", "[Z", true)
  | 27 => ("LostWordsModel", "isDraw", "[Z", true)
  | 28 => ("LostWordsModel", "wName", "[J", true)
  | 29 => ("LostWordsModel", "code", "[I", true)
  | 30 => ("LostWordsModel", "codeNumber", "[I", true)
  | 31 => ("LostWordsModel", "eWhat", "[I", true)
  | 32 => ("LostWordsModel", "eSign", "[I", true)
  | 33 => ("LostWordsModel", "pile", "[I", true)
  | 34 => ("LostWordsModel", "bank", "I", false)
  | 35 => ("LostWordsModel", "rb", "I", false)
  | 36 => ("LostWordsModel", "codes", "I", false)
  | 37 => ("LostWordsModel", "within", "I", false)
  | 38 => ("LostWordsModel", "piled", "I", false)
  | 39 => ("LostWordsModel", "unitsInRule", "I", false)
  | 40 => ("LostWordsModel", "askPlace", "I", false)
  | 41 => ("LostWordsModel", "all", "[I", true)
  | 42 => ("LostWordsModel", "one", "[I", true)
  | 43 => ("LostWordsModel", "two", "[I", true)
  | 44 => ("LostWordsModel", "third", "[I", true)
  | 45 => ("LostWordsModel", "oneLong", "I", false)
  | 46 => ("LostWordsModel", "twoLong", "I", false)
  | 47 => ("LostWordsModel", "thirdLong", "I", false)
  | 48 => ("LostWordsModel", "was", "[I", true)
  | 49 => ("LostWordsModel", "acts", "I", false)
  | 50 => ("LostWordsModel", "undone", "I", false)
  | 51 => ("LostWordsModel", "waysTo", "[I", true)
  | 52 => ("LostWordsModel", "need", "[I", true)
  | 53 => ("LostWordsModel", "paths", "[I", true)
  | 54 => ("LostWordsModel", "laidRow", "[I", true)
  | 55 => ("LostWordsModel", "laid", "I", false)
  | 56 => ("LostWordsModel", "shared", "[I", true)
  | 57 => ("LostWordsModel", "changes", "[I", true)
  | 58 => ("LostWordsModel", "comesTo", "[I", true)
  | 59 => ("LostWordsModel", "duelPlace", "I", false)
  | 60 => ("LostWordsModel", "kept", "[I", true)
  | 61 => ("LostWordsModel", "hOne", "[I", true)
  | 62 => ("LostWordsModel", "hOther", "[I", true)
  | 63 => ("LostWordsModel", "hIs", "[I", true)
  | 64 => ("LostWordsModel", "hTold", "[I", true)
  | 65 => ("LostWordsModel", "hUntold", "[I", true)
  | 66 => ("LostWordsModel", "order", "[I", true)
  | 67 => ("LostWordsModel", "seatOf", "[I", true)
  | 68 => ("LostWordsModel", "bySeat", "[I", true)
  | 69 => ("LostWordsModel", "hints", "I", false)
  | 70 => ("LostWordsModel", "time", "I", false)
  | 71 => ("LostWordsModel", "fitting", "I", false)
  | 72 => ("LostWordsModel", "boxAll", "[I", true)
  | _ => ("LostWordsModel", "isBoxed", "[Z", true)
def tyX12 : Nat → FieldType := fun k => match k with
  | 0 => .array .byte
  | 1 => .array .byte
  | 2 => .int
  | 3 => .int
  | 4 => .int
  | 5 => .int
  | 6 => .int
  | 7 => .int
  | 8 => .int
  | 9 => .int
  | 10 => .long
  | 11 => .array .int
  | 12 => .array .int
  | 13 => .array .int
  | 14 => .array .int
  | 15 => .array .int
  | 16 => .array .int
  | 17 => .array .int
  | 18 => .array .int
  | 19 => .array .int
  | 20 => .array .int
  | 21 => .array .int
  | 22 => .array .int
  | 23 => .array .int
  | 24 => .array .int
  | 25 => .array .boolean
  | 26 => .array .boolean
  | 27 => .array .boolean
  | 28 => .array .long
  | 29 => .array .int
  | 30 => .array .int
  | 31 => .array .int
  | 32 => .array .int
  | 33 => .array .int
  | 34 => .int
  | 35 => .int
  | 36 => .int
  | 37 => .int
  | 38 => .int
  | 39 => .int
  | 40 => .int
  | 41 => .array .int
  | 42 => .array .int
  | 43 => .array .int
  | 44 => .array .int
  | 45 => .int
  | 46 => .int
  | 47 => .int
  | 48 => .array .int
  | 49 => .int
  | 50 => .int
  | 51 => .array .int
  | 52 => .array .int
  | 53 => .array .int
  | 54 => .array .int
  | 55 => .int
  | 56 => .array .int
  | 57 => .array .int
  | 58 => .array .int
  | 59 => .int
  | 60 => .array .int
  | 61 => .array .int
  | 62 => .array .int
  | 63 => .array .int
  | 64 => .array .int
  | 65 => .array .int
  | 66 => .array .int
  | 67 => .array .int
  | 68 => .array .int
  | 69 => .int
  | 70 => .int
  | 71 => .int
  | 72 => .array .int
  | _ => .array .boolean
abbrev wsX120 : List Cond := u_ws RX12 TX12 74
theorem nmX12 : ∀ a, a < 74 → ∀ b, b < 74 → a ≠ b → (TX12 a).2.1 ≠ (TX12 b).2.1 := by decide +kernel
theorem tyX12_ok : ∀ k, k < 74 → parseFieldDescriptor (TX12 k).2.2.1 = some (tyX12 k) := by decide +kernel
def RJx145de : String := "java/io/Serializable"
def RJx9f9b0 : String := "java/lang/CharSequence"
def RJ11 : String := "java/lang/Character"
def RJxb160c : String := "java/lang/Comparable"
def RJ6 : String := "java/lang/Integer"
def RJ9 : String := "java/lang/Math"
def RJ0 : String := "java/lang/String"
def RJ1 : String := "java/lang/StringLatin1"
def RJ2 : String := "java/lang/StringUTF16"
def RJxfd54e : String := "java/lang/constant/Constable"
def RJx3cf43 : String := "java/lang/constant/ConstantDesc"
def RJ7 : String := "java/util/Arrays"
def RJ3 : String := "jdk/internal/util/Preconditions"
abbrev cX0_init : ByteArray := prog_2_method_1_code
def yX0_init : MethodName := ⟨RX0, "<init>", "()V"⟩
abbrev cX0_clear : ByteArray := prog_2_method_2_code
def yX0_clear : MethodName := ⟨RX0, "clear", "()V"⟩
abbrev cX0_add : ByteArray := prog_2_method_3_code
def yX0_add : MethodName := ⟨RX0, "add", "(II)V"⟩
abbrev cX0_know : ByteArray := prog_2_method_4_code
def yX0_know : MethodName := ⟨RX0, "know", "(II)V"⟩
abbrev cX0_result : ByteArray := prog_2_method_5_code
def yX0_result : MethodName := ⟨RX0, "result", "()I"⟩
abbrev cX0_push : ByteArray := prog_2_method_6_code
def yX0_push : MethodName := ⟨RX0, "push", "(I)V"⟩
abbrev cX0_pop : ByteArray := prog_2_method_7_code
def yX0_pop : MethodName := ⟨RX0, "pop", "()I"⟩
abbrev cX0_joined : ByteArray := prog_2_method_8_code
def yX0_joined : MethodName := ⟨RX0, "joined", "(III)I"⟩
abbrev cX0_truth : ByteArray := prog_2_method_9_code
def yX0_truth : MethodName := ⟨RX0, "truth", "(Z)I"⟩
abbrev cX1_init : ByteArray := prog_3_method_1_code
def yX1_init : MethodName := ⟨RX1, "<init>", "(I)V"⟩
abbrev cX1_has : ByteArray := prog_3_method_2_code
def yX1_has : MethodName := ⟨RX1, "has", "(I)Z"⟩
abbrev cX1_at : ByteArray := prog_3_method_3_code
def yX1_at : MethodName := ⟨RX1, "at", "(I)I"⟩
abbrev cX1_hasRoom : ByteArray := prog_3_method_4_code
def yX1_hasRoom : MethodName := ⟨RX1, "hasRoom", "()Z"⟩
abbrev cX1_clear : ByteArray := prog_3_method_5_code
def yX1_clear : MethodName := ⟨RX1, "clear", "()V"⟩
abbrev cX1_add : ByteArray := prog_3_method_6_code
def yX1_add : MethodName := ⟨RX1, "add", "(I)V"⟩
abbrev cX1_insert : ByteArray := prog_3_method_7_code
def yX1_insert : MethodName := ⟨RX1, "insert", "(II)V"⟩
abbrev cX1_drop : ByteArray := prog_3_method_8_code
def yX1_drop : MethodName := ⟨RX1, "drop", "(I)I"⟩
abbrev cX1_replace : ByteArray := prog_3_method_9_code
def yX1_replace : MethodName := ⟨RX1, "replace", "(II)I"⟩
abbrev cX1_copy : ByteArray := prog_3_method_10_code
def yX1_copy : MethodName := ⟨RX1, "copy", "(LLostWords$Line;)V"⟩
abbrev cX1_isLike : ByteArray := prog_3_method_11_code
def yX1_isLike : MethodName := ⟨RX1, "isLike", "(LLostWords$Line;)Z"⟩
abbrev cX1_countOf : ByteArray := prog_3_method_12_code
def yX1_countOf : MethodName := ⟨RX1, "countOf", "(I)I"⟩
abbrev cX1_find : ByteArray := prog_3_method_13_code
def yX1_find : MethodName := ⟨RX1, "find", "(II)I"⟩
abbrev cX1_bits : ByteArray := prog_3_method_14_code
def yX1_bits : MethodName := ⟨RX1, "bits", "()I"⟩
abbrev cX2_init : ByteArray := prog_4_method_1_code
def yX2_init : MethodName := ⟨RX2, "<init>", "()V"⟩
abbrev cX2_layBest : ByteArray := prog_4_method_2_code
def yX2_layBest : MethodName := ⟨RX2, "layBest", "(LLostWords$Told;LLostWords$Line;IZLLostWords$Line;)I"⟩
abbrev cX2_sumOfSenses : ByteArray := prog_4_method_3_code
def yX2_sumOfSenses : MethodName := ⟨RX2, "sumOfSenses", "(LLostWords$Told;LLostWords$Line;I)I"⟩
abbrev cX2_playDuel : ByteArray := prog_4_method_4_code
def yX2_playDuel : MethodName := ⟨RX2, "playDuel", "(LLostWords$Told;LLostWords$Line;I)V"⟩
abbrev cX2_duelSense : ByteArray := prog_4_method_5_code
def yX2_duelSense : MethodName := ⟨RX2, "duelSense", "()I"⟩
abbrev cX2_duelPlace : ByteArray := prog_4_method_6_code
def yX2_duelPlace : MethodName := ⟨RX2, "duelPlace", "(LLostWords$Line;)I"⟩
abbrev cX2_bestTurn : ByteArray := prog_4_method_7_code
def yX2_bestTurn : MethodName := ⟨RX2, "bestTurn", "(LLostWords$Line;IZ)I"⟩
abbrev cX2_senseWithout : ByteArray := prog_4_method_8_code
def yX2_senseWithout : MethodName := ⟨RX2, "senseWithout", "(LLostWords$Told;LLostWords$Line;I)I"⟩
abbrev cX2_layPlaces : ByteArray := prog_4_method_9_code
def yX2_layPlaces : MethodName := ⟨RX2, "layPlaces", "(LLostWords$Line;ILLostWords$Line;)V"⟩
abbrev cX2_lastSet : ByteArray := prog_4_method_10_code
def yX2_lastSet : MethodName := ⟨RX2, "lastSet", "(LLostWords$Line;)I"⟩
abbrev cX2_bitOf : ByteArray := prog_4_method_11_code
def yX2_bitOf : MethodName := ⟨RX2, "bitOf", "(LLostWords$Line;I)I"⟩
abbrev cX3_init : ByteArray := prog_5_method_1_code
def yX3_init : MethodName := ⟨RX3, "<init>", "()V"⟩
abbrev cX3_layMended : ByteArray := prog_5_method_2_code
def yX3_layMended : MethodName := ⟨RX3, "layMended", "(LLostWords$Told;LLostWords$Line;ILLostWords$Line;)I"⟩
abbrev cX3_safePlaces : ByteArray := prog_5_method_3_code
def yX3_safePlaces : MethodName := ⟨RX3, "safePlaces", "(LLostWords$Told;LLostWords$Line;)I"⟩
abbrev cX3_countMended : ByteArray := prog_5_method_4_code
def yX3_countMended : MethodName := ⟨RX3, "countMended", "(LLostWords$Told;LLostWords$Line;I)I"⟩
abbrev cX3_shiftedMark : ByteArray := prog_5_method_5_code
def yX3_shiftedMark : MethodName := ⟨RX3, "shiftedMark", "(LLostWords$Told;LLostWords$Line;)I"⟩
abbrev cX3_isFirstPlace : ByteArray := prog_5_method_6_code
def yX3_isFirstPlace : MethodName := ⟨RX3, "isFirstPlace", "(LLostWords$Line;II)Z"⟩
abbrev cX3_fits : ByteArray := prog_5_method_7_code
def yX3_fits : MethodName := ⟨RX3, "fits", "(LLostWords$Told;IIII)Z"⟩
abbrev cX3_keepFirst : ByteArray := prog_5_method_8_code
def yX3_keepFirst : MethodName := ⟨RX3, "keepFirst", "()V"⟩
abbrev cX4_init : ByteArray := prog_6_method_1_code
def yX4_init : MethodName := ⟨RX4, "<init>", "()V"⟩
abbrev cX4_isComing : ByteArray := prog_6_method_2_code
def yX4_isComing : MethodName := ⟨RX4, "isComing", "(LLostWords$Line;LLostWords$Line;)Z"⟩
abbrev cX4_countWays : ByteArray := prog_6_method_3_code
def yX4_countWays : MethodName := ⟨RX4, "countWays", "(LLostWords$Line;LLostWords$Line;)I"⟩
abbrev cX4_countEdits : ByteArray := prog_6_method_4_code
def yX4_countEdits : MethodName := ⟨RX4, "countEdits", "(LLostWords$Line;LLostWords$Line;)I"⟩
abbrev cX4_editsTo : ByteArray := prog_6_method_5_code
def yX4_editsTo : MethodName := ⟨RX4, "editsTo", "(LLostWords$Line;LLostWords$Line;II)I"⟩
abbrev cX4_lengthOfLongest : ByteArray := prog_6_method_6_code
def yX4_lengthOfLongest : MethodName := ⟨RX4, "lengthOfLongest", "(LLostWords$Line;LLostWords$Line;)I"⟩
abbrev cX4_longestFrom : ByteArray := prog_6_method_7_code
def yX4_longestFrom : MethodName := ⟨RX4, "longestFrom", "(LLostWords$Line;LLostWords$Line;II)I"⟩
abbrev cX4_layLongest : ByteArray := prog_6_method_8_code
def yX4_layLongest : MethodName := ⟨RX4, "layLongest", "(LLostWords$Line;LLostWords$Line;LLostWords$Line;)V"⟩
abbrev cX4_countShortest : ByteArray := prog_6_method_9_code
def yX4_countShortest : MethodName := ⟨RX4, "countShortest", "(LLostWords$Line;LLostWords$Line;LLostWords$Line;)I"⟩
abbrev cX4_layShortest : ByteArray := prog_6_method_10_code
def yX4_layShortest : MethodName := ⟨RX4, "layShortest", "(LLostWords$Line;LLostWords$Line;LLostWords$Line;LLostWords$Line;)V"⟩
abbrev cX4_fillShortest : ByteArray := prog_6_method_11_code
def yX4_fillShortest : MethodName := ⟨RX4, "fillShortest", "(LLostWords$Line;LLostWords$Line;LLostWords$Line;)V"⟩
abbrev cX4_fillCell : ByteArray := prog_6_method_12_code
def yX4_fillCell : MethodName := ⟨RX4, "fillCell", "(I)V"⟩
abbrev cX4_leastStep : ByteArray := prog_6_method_13_code
def yX4_leastStep : MethodName := ⟨RX4, "leastStep", "(II)I"⟩
abbrev cX4_findNext : ByteArray := prog_6_method_14_code
def yX4_findNext : MethodName := ⟨RX4, "findNext", "(I)V"⟩
abbrev cX4_isNewStep : ByteArray := prog_6_method_15_code
def yX4_isNewStep : MethodName := ⟨RX4, "isNewStep", "(I)Z"⟩
abbrev cX4_cellBehind : ByteArray := prog_6_method_16_code
def yX4_cellBehind : MethodName := ⟨RX4, "cellBehind", "(II)I"⟩
abbrev cX4_read : ByteArray := prog_6_method_17_code
def yX4_read : MethodName := ⟨RX4, "read", "(II)I"⟩
abbrev cX4_write : ByteArray := prog_6_method_18_code
def yX4_write : MethodName := ⟨RX4, "write", "(III)V"⟩
abbrev cX4_isInGrid : ByteArray := prog_6_method_19_code
def yX4_isInGrid : MethodName := ⟨RX4, "isInGrid", "(II)Z"⟩
abbrev cX5_init : ByteArray := prog_7_method_1_code
def yX5_init : MethodName := ⟨RX5, "<init>", "()V"⟩
abbrev cX5_open : ByteArray := prog_7_method_2_code
def yX5_open : MethodName := ⟨RX5, "open", "(LLostWords$Told;)V"⟩
abbrev cX5_passOn : ByteArray := prog_7_method_3_code
def yX5_passOn : MethodName := ⟨RX5, "passOn", "(LLostWords$Told;I)I"⟩
abbrev cX5_dropAt : ByteArray := prog_7_method_4_code
def yX5_dropAt : MethodName := ⟨RX5, "dropAt", "(I)I"⟩
abbrev cX5_insertAt : ByteArray := prog_7_method_5_code
def yX5_insertAt : MethodName := ⟨RX5, "insertAt", "(II)I"⟩
abbrev cX5_replaceAt : ByteArray := prog_7_method_6_code
def yX5_replaceAt : MethodName := ⟨RX5, "replaceAt", "(II)I"⟩
abbrev cX5_takeBack : ByteArray := prog_7_method_7_code
def yX5_takeBack : MethodName := ⟨RX5, "takeBack", "()Z"⟩
abbrev cX5_doAgain : ByteArray := prog_7_method_8_code
def yX5_doAgain : MethodName := ⟨RX5, "doAgain", "()Z"⟩
abbrev cX5_actsDone : ByteArray := prog_7_method_9_code
def yX5_actsDone : MethodName := ⟨RX5, "actsDone", "()I"⟩
abbrev cX5_actsTakenBack : ByteArray := prog_7_method_10_code
def yX5_actsTakenBack : MethodName := ⟨RX5, "actsTakenBack", "()I"⟩
abbrev cX5_keepIn : ByteArray := prog_7_method_11_code
def yX5_keepIn : MethodName := ⟨RX5, "keepIn", "(I)I"⟩
abbrev cX5_bringBack : ByteArray := prog_7_method_12_code
def yX5_bringBack : MethodName := ⟨RX5, "bringBack", "(I)I"⟩
abbrev cX5_rowAfter : ByteArray := prog_7_method_13_code
def yX5_rowAfter : MethodName := ⟨RX5, "rowAfter", "(LLostWords$Told;II)LLostWords$Line;"⟩
abbrev cX5_roundsUntil : ByteArray := prog_7_method_14_code
def yX5_roundsUntil : MethodName := ⟨RX5, "roundsUntil", "(LLostWords$Told;ILLostWords$Line;)I"⟩
abbrev cX5_hasBox : ByteArray := prog_7_method_15_code
def yX5_hasBox : MethodName := ⟨RX5, "hasBox", "(I)Z"⟩
abbrev cX5_forgetActs : ByteArray := prog_7_method_16_code
def yX5_forgetActs : MethodName := ⟨RX5, "forgetActs", "()V"⟩
abbrev cX5_noteAct : ByteArray := prog_7_method_17_code
def yX5_noteAct : MethodName := ⟨RX5, "noteAct", "()V"⟩
abbrev cX5_forgetOldest : ByteArray := prog_7_method_18_code
def yX5_forgetOldest : MethodName := ⟨RX5, "forgetOldest", "()V"⟩
abbrev cX5_takeFromTrail : ByteArray := prog_7_method_19_code
def yX5_takeFromTrail : MethodName := ⟨RX5, "takeFromTrail", "()V"⟩
abbrev cX6_init : ByteArray := prog_8_method_1_code
def yX6_init : MethodName := ⟨RX6, "<init>", "()V"⟩
abbrev cX6_readTable : ByteArray := prog_8_method_2_code
def yX6_readTable : MethodName := ⟨RX6, "readTable", "()Z"⟩
abbrev cX6_handOver : ByteArray := prog_8_method_3_code
def yX6_handOver : MethodName := ⟨RX6, "handOver", "(LLostWords$Told;)LLostWords$Told;"⟩
abbrev cX6_readWordLine : ByteArray := prog_8_method_4_code
def yX6_readWordLine : MethodName := ⟨RX6, "readWordLine", "()Z"⟩
abbrev cX6_readBesideLine : ByteArray := prog_8_method_5_code
def yX6_readBesideLine : MethodName := ⟨RX6, "readBesideLine", "()Z"⟩
abbrev cX6_readMissLine : ByteArray := prog_8_method_6_code
def yX6_readMissLine : MethodName := ⟨RX6, "readMissLine", "()Z"⟩
abbrev cX6_readDrawLine : ByteArray := prog_8_method_7_code
def yX6_readDrawLine : MethodName := ⟨RX6, "readDrawLine", "()Z"⟩
abbrev cX6_readWords : ByteArray := prog_8_method_8_code
def yX6_readWords : MethodName := ⟨RX6, "readWords", "(LLostWords$Line;I)Z"⟩
abbrev cX6_readEither : ByteArray := prog_8_method_9_code
def yX6_readEither : MethodName := ⟨RX6, "readEither", "(I)Z"⟩
abbrev cX6_readBoth : ByteArray := prog_8_method_10_code
def yX6_readBoth : MethodName := ⟨RX6, "readBoth", "(I)Z"⟩
abbrev cX6_readOne : ByteArray := prog_8_method_11_code
def yX6_readOne : MethodName := ⟨RX6, "readOne", "(I)Z"⟩
abbrev cX6_readNot : ByteArray := prog_8_method_12_code
def yX6_readNot : MethodName := ⟨RX6, "readNot", "(I)Z"⟩
abbrev cX6_readSum : ByteArray := prog_8_method_13_code
def yX6_readSum : MethodName := ⟨RX6, "readSum", "(I)Z"⟩
abbrev cX6_readTerm : ByteArray := prog_8_method_14_code
def yX6_readTerm : MethodName := ⟨RX6, "readTerm", "(I)Z"⟩
abbrev cX6_readUnit : ByteArray := prog_8_method_15_code
def yX6_readUnit : MethodName := ⟨RX6, "readUnit", "(I)Z"⟩
abbrev cX6_readBracket : ByteArray := prog_8_method_16_code
def yX6_readBracket : MethodName := ⟨RX6, "readBracket", "(I)Z"⟩
abbrev cX6_isTermSign : ByteArray := prog_8_method_17_code
def yX6_isTermSign : MethodName := ⟨RX6, "isTermSign", "(I)Z"⟩
abbrev cX6_canReadWord : ByteArray := prog_8_method_18_code
def yX6_canReadWord : MethodName := ⟨RX6, "canReadWord", "()Z"⟩
abbrev cX6_canReadNumber : ByteArray := prog_8_method_19_code
def yX6_canReadNumber : MethodName := ⟨RX6, "canReadNumber", "(II)Z"⟩
abbrev cX6_pass : ByteArray := prog_8_method_20_code
def yX6_pass : MethodName := ⟨RX6, "pass", "(I)Z"⟩
abbrev cX6_refuse : ByteArray := prog_8_method_21_code
def yX6_refuse : MethodName := ⟨RX6, "refuse", "()Z"⟩
abbrev cX6_fail : ByteArray := prog_8_method_22_code
def yX6_fail : MethodName := ⟨RX6, "fail", "(II)Z"⟩
abbrev cX7_init : ByteArray := prog_9_method_1_code
def yX7_init : MethodName := ⟨RX7, "<init>", "()V"⟩
abbrev cX7_open : ByteArray := prog_9_method_2_code
def yX7_open : MethodName := ⟨RX7, "open", "(LLostWords$Told;LLostWords$Pairs;)V"⟩
abbrev cX7_comingFrom : ByteArray := prog_9_method_3_code
def yX7_comingFrom : MethodName := ⟨RX7, "comingFrom", "(I)I"⟩
abbrev cX7_tell : ByteArray := prog_9_method_4_code
def yX7_tell : MethodName := ⟨RX7, "tell", "(II)I"⟩
abbrev cX7_untellNow : ByteArray := prog_9_method_5_code
def yX7_untellNow : MethodName := ⟨RX7, "untellNow", "(I)Z"⟩
abbrev cX7_goOn : ByteArray := prog_9_method_6_code
def yX7_goOn : MethodName := ⟨RX7, "goOn", "(I)I"⟩
abbrev cX7_countUnhinted : ByteArray := prog_9_method_7_code
def yX7_countUnhinted : MethodName := ⟨RX7, "countUnhinted", "()I"⟩
abbrev cX7_countKnown : ByteArray := prog_9_method_8_code
def yX7_countKnown : MethodName := ⟨RX7, "countKnown", "(I)I"⟩
abbrev cX7_surePlace : ByteArray := prog_9_method_9_code
def yX7_surePlace : MethodName := ⟨RX7, "surePlace", "(I)I"⟩
abbrev cX7_slipToAsk : ByteArray := prog_9_method_10_code
def yX7_slipToAsk : MethodName := ⟨RX7, "slipToAsk", "()I"⟩
abbrev cX7_mostLeft : ByteArray := prog_9_method_11_code
def yX7_mostLeft : MethodName := ⟨RX7, "mostLeft", "(I)I"⟩
abbrev cX7_isKnown : ByteArray := prog_9_method_12_code
def yX7_isKnown : MethodName := ⟨RX7, "isKnown", "(II)Z"⟩
abbrev cX7_countAt : ByteArray := prog_9_method_13_code
def yX7_countAt : MethodName := ⟨RX7, "countAt", "(II)I"⟩
abbrev cX7_seatFrom : ByteArray := prog_9_method_14_code
def yX7_seatFrom : MethodName := ⟨RX7, "seatFrom", "(II)V"⟩
abbrev cX7_canSit : ByteArray := prog_9_method_15_code
def yX7_canSit : MethodName := ⟨RX7, "canSit", "(III)Z"⟩
abbrev cX7_noteOrder : ByteArray := prog_9_method_16_code
def yX7_noteOrder : MethodName := ⟨RX7, "noteOrder", "()V"⟩
abbrev cX8_init : ByteArray := prog_10_method_1_code
def yX8_init : MethodName := ⟨RX8, "<init>", "()V"⟩
abbrev cX8_copy : ByteArray := prog_10_method_2_code
def yX8_copy : MethodName := ⟨RX8, "copy", "(LLostWords$State;)V"⟩
abbrev cX8_goRound : ByteArray := prog_10_method_3_code
def yX8_goRound : MethodName := ⟨RX8, "goRound", "(LLostWords$Told;I)I"⟩
abbrev cX9_init : ByteArray := prog_11_method_1_code
def yX9_init : MethodName := ⟨RX9, "<init>", "()V"⟩
abbrev cX9_hasRoom : ByteArray := prog_11_method_2_code
def yX9_hasRoom : MethodName := ⟨RX9, "hasRoom", "(I)Z"⟩
abbrev cX9_append : ByteArray := prog_11_method_3_code
def yX9_append : MethodName := ⟨RX9, "append", "(I)V"⟩
abbrev cX9_rewind : ByteArray := prog_11_method_4_code
def yX9_rewind : MethodName := ⟨RX9, "rewind", "()V"⟩
abbrev cX9_advance : ByteArray := prog_11_method_5_code
def yX9_advance : MethodName := ⟨RX9, "advance", "()V"⟩
abbrev cX9_skipBlanks : ByteArray := prog_11_method_6_code
def yX9_skipBlanks : MethodName := ⟨RX9, "skipBlanks", "()V"⟩
abbrev cX9_readLetters : ByteArray := prog_11_method_7_code
def yX9_readLetters : MethodName := ⟨RX9, "readLetters", "()V"⟩
abbrev cX9_kindOfName : ByteArray := prog_11_method_8_code
def yX9_kindOfName : MethodName := ⟨RX9, "kindOfName", "()I"⟩
abbrev cX9_readDigits : ByteArray := prog_11_method_9_code
def yX9_readDigits : MethodName := ⟨RX9, "readDigits", "()V"⟩
abbrev cX9_signAt : ByteArray := prog_11_method_10_code
def yX9_signAt : MethodName := ⟨RX9, "signAt", "(I)I"⟩
abbrev cX9_isBlank : ByteArray := prog_11_method_11_code
def yX9_isBlank : MethodName := ⟨RX9, "isBlank", "(I)Z"⟩
abbrev cX9_isLetter : ByteArray := prog_11_method_12_code
def yX9_isLetter : MethodName := ⟨RX9, "isLetter", "(I)Z"⟩
abbrev cX9_isDigit : ByteArray := prog_11_method_13_code
def yX9_isDigit : MethodName := ⟨RX9, "isDigit", "(I)Z"⟩
abbrev cX9_isKnownKey : ByteArray := prog_11_method_14_code
def yX9_isKnownKey : MethodName := ⟨RX9, "isKnownKey", "(I)Z"⟩
abbrev cX10_init : ByteArray := prog_12_method_1_code
def yX10_init : MethodName := ⟨RX10, "<init>", "()V"⟩
abbrev cX10_clear : ByteArray := prog_12_method_2_code
def yX10_clear : MethodName := ⟨RX10, "clear", "()V"⟩
abbrev cX10_hasWord : ByteArray := prog_12_method_3_code
def yX10_hasWord : MethodName := ⟨RX10, "hasWord", "(I)Z"⟩
abbrev cX10_wordNamed : ByteArray := prog_12_method_4_code
def yX10_wordNamed : MethodName := ⟨RX10, "wordNamed", "(J)I"⟩
abbrev cX10_addWord : ByteArray := prog_12_method_5_code
def yX10_addWord : MethodName := ⟨RX10, "addWord", "(JI)V"⟩
abbrev cX10_isPairTold : ByteArray := prog_12_method_6_code
def yX10_isPairTold : MethodName := ⟨RX10, "isPairTold", "(II)Z"⟩
abbrev cX10_addPair : ByteArray := prog_12_method_7_code
def yX10_addPair : MethodName := ⟨RX10, "addPair", "(III)V"⟩
abbrev cX10_addRow : ByteArray := prog_12_method_8_code
def yX10_addRow : MethodName := ⟨RX10, "addRow", "()LLostWords$Line;"⟩
abbrev cX10_addSlip : ByteArray := prog_12_method_9_code
def yX10_addSlip : MethodName := ⟨RX10, "addSlip", "()LLostWords$Line;"⟩
abbrev cX10_slipAt : ByteArray := prog_12_method_10_code
def yX10_slipAt : MethodName := ⟨RX10, "slipAt", "(I)LLostWords$Line;"⟩
abbrev cX10_worthOf : ByteArray := prog_12_method_11_code
def yX10_worthOf : MethodName := ⟨RX10, "worthOf", "(I)I"⟩
abbrev cX10_weightOf : ByteArray := prog_12_method_12_code
def yX10_weightOf : MethodName := ⟨RX10, "weightOf", "(II)I"⟩
abbrev cX10_senseOf : ByteArray := prog_12_method_13_code
def yX10_senseOf : MethodName := ⟨RX10, "senseOf", "(LLostWords$Line;)I"⟩
abbrev cX10_markOf : ByteArray := prog_12_method_14_code
def yX10_markOf : MethodName := ⟨RX10, "markOf", "(LLostWords$Line;)I"⟩
abbrev cX10_missOf : ByteArray := prog_12_method_15_code
def yX10_missOf : MethodName := ⟨RX10, "missOf", "(LLostWords$Line;I)I"⟩
abbrev cX10_placeMissed : ByteArray := prog_12_method_16_code
def yX10_placeMissed : MethodName := ⟨RX10, "placeMissed", "(LLostWords$Line;Z)I"⟩
abbrev cX11_init : ByteArray := prog_1_method_1_code
def yX11_init : MethodName := ⟨RX11, "<init>", "()V"⟩
abbrev cX11_feed : ByteArray := prog_1_method_2_code
def yX11_feed : MethodName := ⟨RX11, "feed", "(IIIII)I"⟩
abbrev cX11_end : ByteArray := prog_1_method_3_code
def yX11_end : MethodName := ⟨RX11, "end", "(I)I"⟩
abbrev cX11_table : ByteArray := prog_1_method_4_code
def yX11_table : MethodName := ⟨RX11, "table", "()I"⟩
abbrev cX11_fault : ByteArray := prog_1_method_5_code
def yX11_fault : MethodName := ⟨RX11, "fault", "(I)I"⟩
abbrev cX11_word : ByteArray := prog_1_method_6_code
def yX11_word : MethodName := ⟨RX11, "word", "(I)I"⟩
abbrev cX11_slip : ByteArray := prog_1_method_7_code
def yX11_slip : MethodName := ⟨RX11, "slip", "(II)I"⟩
abbrev cX11_size : ByteArray := prog_1_method_8_code
def yX11_size : MethodName := ⟨RX11, "size", "(I)I"⟩
abbrev cX11_worth : ByteArray := prog_1_method_9_code
def yX11_worth : MethodName := ⟨RX11, "worth", "(I)I"⟩
abbrev cX11_beside : ByteArray := prog_1_method_10_code
def yX11_beside : MethodName := ⟨RX11, "beside", "(II)I"⟩
abbrev cX11_sense : ByteArray := prog_1_method_11_code
def yX11_sense : MethodName := ⟨RX11, "sense", "(I)I"⟩
abbrev cX11_miss : ByteArray := prog_1_method_12_code
def yX11_miss : MethodName := ⟨RX11, "miss", "(I)I"⟩
abbrev cX11_missed : ByteArray := prog_1_method_13_code
def yX11_missed : MethodName := ⟨RX11, "missed", "(I)I"⟩
abbrev cX11_lacks : ByteArray := prog_1_method_14_code
def yX11_lacks : MethodName := ⟨RX11, "lacks", "(I)I"⟩
abbrev cX11_round : ByteArray := prog_1_method_15_code
def yX11_round : MethodName := ⟨RX11, "round", "(I)I"⟩
abbrev cX11_leave : ByteArray := prog_1_method_16_code
def yX11_leave : MethodName := ⟨RX11, "leave", "(I)I"⟩
abbrev cX11_put : ByteArray := prog_1_method_17_code
def yX11_put : MethodName := ⟨RX11, "put", "(II)I"⟩
abbrev cX11_change : ByteArray := prog_1_method_18_code
def yX11_change : MethodName := ⟨RX11, "change", "(II)I"⟩
abbrev cX11_undo : ByteArray := prog_1_method_19_code
def yX11_undo : MethodName := ⟨RX11, "undo", "()Z"⟩
abbrev cX11_redo : ByteArray := prog_1_method_20_code
def yX11_redo : MethodName := ⟨RX11, "redo", "()Z"⟩
abbrev cX11_ways : ByteArray := prog_1_method_21_code
def yX11_ways : MethodName := ⟨RX11, "ways", "(II)I"⟩
abbrev cX11_odds : ByteArray := prog_1_method_22_code
def yX11_odds : MethodName := ⟨RX11, "odds", "(II)I"⟩
abbrev cX11_source : ByteArray := prog_1_method_23_code
def yX11_source : MethodName := ⟨RX11, "source", "(II)I"⟩
abbrev cX11_sources : ByteArray := prog_1_method_24_code
def yX11_sources : MethodName := ⟨RX11, "sources", "(II)I"⟩
abbrev cX11_three : ByteArray := prog_1_method_25_code
def yX11_three : MethodName := ⟨RX11, "three", "(III)I"⟩
abbrev cX11_common : ByteArray := prog_1_method_26_code
def yX11_common : MethodName := ⟨RX11, "common", "(II)I"⟩
abbrev cX11_keep : ByteArray := prog_1_method_27_code
def yX11_keep : MethodName := ⟨RX11, "keep", "(II)I"⟩
abbrev cX11_mean : ByteArray := prog_1_method_28_code
def yX11_mean : MethodName := ⟨RX11, "mean", "(II)I"⟩
abbrev cX11_duel : ByteArray := prog_1_method_29_code
def yX11_duel : MethodName := ⟨RX11, "duel", "(II)I"⟩
abbrev cX11_apart : ByteArray := prog_1_method_30_code
def yX11_apart : MethodName := ⟨RX11, "apart", "(II)I"⟩
abbrev cX11_strange : ByteArray := prog_1_method_31_code
def yX11_strange : MethodName := ⟨RX11, "strange", "(I)I"⟩
abbrev cX11_becomes : ByteArray := prog_1_method_32_code
def yX11_becomes : MethodName := ⟨RX11, "becomes", "(II)I"⟩
abbrev cX11_will : ByteArray := prog_1_method_33_code
def yX11_will : MethodName := ⟨RX11, "will", "(II)I"⟩
abbrev cX11_last : ByteArray := prog_1_method_34_code
def yX11_last : MethodName := ⟨RX11, "last", "(I)I"⟩
abbrev cX11_mark : ByteArray := prog_1_method_35_code
def yX11_mark : MethodName := ⟨RX11, "mark", "(I)I"⟩
abbrev cX11_mended : ByteArray := prog_1_method_36_code
def yX11_mended : MethodName := ⟨RX11, "mended", "(II)I"⟩
abbrev cX11_safe : ByteArray := prog_1_method_37_code
def yX11_safe : MethodName := ⟨RX11, "safe", "()I"⟩
abbrev cX11_sittings : ByteArray := prog_1_method_38_code
def yX11_sittings : MethodName := ⟨RX11, "sittings", "()I"⟩
abbrev cX11_comes : ByteArray := prog_1_method_39_code
def yX11_comes : MethodName := ⟨RX11, "comes", "(I)I"⟩
abbrev cX11_lies : ByteArray := prog_1_method_40_code
def yX11_lies : MethodName := ⟨RX11, "lies", "(I)I"⟩
abbrev cX11_hint : ByteArray := prog_1_method_41_code
def yX11_hint : MethodName := ⟨RX11, "hint", "(IIZ)I"⟩
abbrev cX11_untell : ByteArray := prog_1_method_42_code
def yX11_untell : MethodName := ⟨RX11, "untell", "(I)Z"⟩
abbrev cX11_later : ByteArray := prog_1_method_43_code
def yX11_later : MethodName := ⟨RX11, "later", "(I)I"⟩
abbrev cX11_seats : ByteArray := prog_1_method_44_code
def yX11_seats : MethodName := ⟨RX11, "seats", "(I)I"⟩
abbrev cX11_sure : ByteArray := prog_1_method_45_code
def yX11_sure : MethodName := ⟨RX11, "sure", "(II)I"⟩
abbrev cX11_ask : ByteArray := prog_1_method_46_code
def yX11_ask : MethodName := ⟨RX11, "ask", "(II)I"⟩
abbrev cX11_image : ByteArray := prog_1_method_47_code
def yX11_image : MethodName := ⟨RX11, "image", "(I)I"⟩
abbrev cX11_back : ByteArray := prog_1_method_48_code
def yX11_back : MethodName := ⟨RX11, "back", "(I)I"⟩
abbrev cX11_about : ByteArray := prog_1_method_49_code
def yX11_about : MethodName := ⟨RX11, "about", "(I)I"⟩
abbrev cX11_layShortest : ByteArray := prog_1_method_50_code
def yX11_layShortest : MethodName := ⟨RX11, "layShortest", "(LLostWords$Line;LLostWords$Line;LLostWords$Line;)I"⟩
abbrev cX11_slipOf : ByteArray := prog_1_method_51_code
def yX11_slipOf : MethodName := ⟨RX11, "slipOf", "(I)LLostWords$Line;"⟩
abbrev cX11_lineOf : ByteArray := prog_1_method_52_code
def yX11_lineOf : MethodName := ⟨RX11, "lineOf", "(I)LLostWords$Line;"⟩
abbrev cX11_canLeaveOut : ByteArray := prog_1_method_53_code
def yX11_canLeaveOut : MethodName := ⟨RX11, "canLeaveOut", "(I)Z"⟩
abbrev cX11_isRule : ByteArray := prog_1_method_54_code
def yX11_isRule : MethodName := ⟨RX11, "isRule", "(I)Z"⟩
abbrev cX11_isPart : ByteArray := prog_1_method_55_code
def yX11_isPart : MethodName := ⟨RX11, "isPart", "(I)Z"⟩
abbrev cX11_lowest : ByteArray := prog_1_method_56_code
def yX11_lowest : MethodName := ⟨RX11, "lowest", "(III)I"⟩
abbrev cX11_greatestDivisor : ByteArray := prog_1_method_57_code
def yX11_greatestDivisor : MethodName := ⟨RX11, "greatestDivisor", "(II)I"⟩
abbrev cX11_choices : ByteArray := prog_1_method_58_code
def yX11_choices : MethodName := ⟨RX11, "choices", "(II)I"⟩
abbrev cX12_init : ByteArray := prog_14_method_1_code
def yX12_init : MethodName := ⟨RX12, "<init>", "()V"⟩
abbrev cX12_sign : ByteArray := prog_14_method_2_code
def yX12_sign : MethodName := ⟨RX12, "sign", "(I)I"⟩
abbrev cX12_isLetter : ByteArray := prog_14_method_3_code
def yX12_isLetter : MethodName := ⟨RX12, "isLetter", "(I)Z"⟩
abbrev cX12_isDigit : ByteArray := prog_14_method_4_code
def yX12_isDigit : MethodName := ⟨RX12, "isDigit", "(I)Z"⟩
abbrev cX12_fails : ByteArray := prog_14_method_5_code
def yX12_fails : MethodName := ⟨RX12, "fails", "(II)V"⟩
abbrev cX12_isGood : ByteArray := prog_14_method_6_code
def yX12_isGood : MethodName := ⟨RX12, "isGood", "()Z"⟩
abbrev cX12_isKept : ByteArray := prog_14_method_7_code
def yX12_isKept : MethodName := ⟨RX12, "isKept", "(J)Z"⟩
abbrev cX12_isSign : ByteArray := prog_14_method_8_code
def yX12_isSign : MethodName := ⟨RX12, "isSign", "(I)Z"⟩
abbrev cX12_goOn : ByteArray := prog_14_method_9_code
def yX12_goOn : MethodName := ⟨RX12, "goOn", "()V"⟩
abbrev cX12_isSignHere : ByteArray := prog_14_method_10_code
def yX12_isSignHere : MethodName := ⟨RX12, "isSignHere", "(I)Z"⟩
abbrev cX12_isWord : ByteArray := prog_14_method_11_code
def yX12_isWord : MethodName := ⟨RX12, "isWord", "(J)Z"⟩
abbrev cX12_misplaced : ByteArray := prog_14_method_12_code
def yX12_misplaced : MethodName := ⟨RX12, "misplaced", "()V"⟩
abbrev cX12_must : ByteArray := prog_14_method_13_code
def yX12_must : MethodName := ⟨RX12, "must", "(Z)V"⟩
abbrev cX12_numeral : ByteArray := prog_14_method_14_code
def yX12_numeral : MethodName := ⟨RX12, "numeral", "(II)I"⟩
abbrev cX12_after : ByteArray := prog_14_method_15_code
def yX12_after : MethodName := ⟨RX12, "after", "(JII)I"⟩
abbrev cX12_signed : ByteArray := prog_14_method_16_code
def yX12_signed : MethodName := ⟨RX12, "signed", "()I"⟩
abbrev cX12_clearBank : ByteArray := prog_14_method_17_code
def yX12_clearBank : MethodName := ⟨RX12, "clearBank", "()V"⟩
abbrev cX12_table : ByteArray := prog_14_method_18_code
def yX12_table : MethodName := ⟨RX12, "table", "()I"⟩
abbrev cX12_isFull : ByteArray := prog_14_method_19_code
def yX12_isFull : MethodName := ⟨RX12, "isFull", "()Z"⟩
abbrev cX12_readLine : ByteArray := prog_14_method_20_code
def yX12_readLine : MethodName := ⟨RX12, "readLine", "()V"⟩
abbrev cX12_wordNamed : ByteArray := prog_14_method_21_code
def yX12_wordNamed : MethodName := ⟨RX12, "wordNamed", "()I"⟩
abbrev cX12_known : ByteArray := prog_14_method_22_code
def yX12_known : MethodName := ⟨RX12, "known", "(I)I"⟩
abbrev cX12_readSaying : ByteArray := prog_14_method_23_code
def yX12_readSaying : MethodName := ⟨RX12, "readSaying", "()V"⟩
abbrev cX12_readBeside : ByteArray := prog_14_method_24_code
def yX12_readBeside : MethodName := ⟨RX12, "readBeside", "()V"⟩
abbrev cX12_readWords : ByteArray := prog_14_method_25_code
def yX12_readWords : MethodName := ⟨RX12, "readWords", "([III)I"⟩
abbrev cX12_readRule : ByteArray := prog_14_method_26_code
def yX12_readRule : MethodName := ⟨RX12, "readRule", "(I)V"⟩
abbrev cX12_emit : ByteArray := prog_14_method_27_code
def yX12_emit : MethodName := ⟨RX12, "emit", "(II)V"⟩
abbrev cX12_pushE : ByteArray := prog_14_method_28_code
def yX12_pushE : MethodName := ⟨RX12, "pushE", "(II)V"⟩
abbrev cX12_e : ByteArray := prog_14_method_29_code
def yX12_e : MethodName := ⟨RX12, "e", "()V"⟩
abbrev cX12_wordHere : ByteArray := prog_14_method_30_code
def yX12_wordHere : MethodName := ⟨RX12, "wordHere", "()I"⟩
abbrev cX12_unit : ByteArray := prog_14_method_31_code
def yX12_unit : MethodName := ⟨RX12, "unit", "()Z"⟩
abbrev cX12_rankHere : ByteArray := prog_14_method_32_code
def yX12_rankHere : MethodName := ⟨RX12, "rankHere", "()I"⟩
abbrev cX12_isCompared : ByteArray := prog_14_method_33_code
def yX12_isCompared : MethodName := ⟨RX12, "isCompared", "()Z"⟩
abbrev cX12_behindUnit : ByteArray := prog_14_method_34_code
def yX12_behindUnit : MethodName := ⟨RX12, "behindUnit", "()Z"⟩
abbrev cX12_two : ByteArray := prog_14_method_35_code
def yX12_two : MethodName := ⟨RX12, "two", "(III)I"⟩
abbrev cX12_besideTo : ByteArray := prog_14_method_36_code
def yX12_besideTo : MethodName := ⟨RX12, "besideTo", "(II)I"⟩
abbrev cX12_asked : ByteArray := prog_14_method_37_code
def yX12_asked : MethodName := ⟨RX12, "asked", "(II)I"⟩
abbrev cX12_reckoned : ByteArray := prog_14_method_38_code
def yX12_reckoned : MethodName := ⟨RX12, "reckoned", "()I"⟩
abbrev cX12_fault : ByteArray := prog_14_method_39_code
def yX12_fault : MethodName := ⟨RX12, "fault", "(I)I"⟩
abbrev cX12_isIn : ByteArray := prog_14_method_40_code
def yX12_isIn : MethodName := ⟨RX12, "isIn", "(III)Z"⟩
abbrev cX12_has : ByteArray := prog_14_method_41_code
def yX12_has : MethodName := ⟨RX12, "has", "(II)Z"⟩
abbrev cX12_bitsOf : ByteArray := prog_14_method_42_code
def yX12_bitsOf : MethodName := ⟨RX12, "bitsOf", "(I)I"⟩
abbrev cX12_divisor : ByteArray := prog_14_method_43_code
def yX12_divisor : MethodName := ⟨RX12, "divisor", "(II)I"⟩
abbrev cX12_timesOf : ByteArray := prog_14_method_44_code
def yX12_timesOf : MethodName := ⟨RX12, "timesOf", "(I)I"⟩
abbrev cX12_isPlace : ByteArray := prog_14_method_45_code
def yX12_isPlace : MethodName := ⟨RX12, "isPlace", "(I)Z"⟩
abbrev cX12_isSaying : ByteArray := prog_14_method_46_code
def yX12_isSaying : MethodName := ⟨RX12, "isSaying", "(I)Z"⟩
abbrev cX12_isSlip : ByteArray := prog_14_method_47_code
def yX12_isSlip : MethodName := ⟨RX12, "isSlip", "(I)Z"⟩
abbrev cX12_isSlipOrRow : ByteArray := prog_14_method_48_code
def yX12_isSlipOrRow : MethodName := ⟨RX12, "isSlipOrRow", "(I)Z"⟩
abbrev cX12_startAnew : ByteArray := prog_14_method_49_code
def yX12_startAnew : MethodName := ⟨RX12, "startAnew", "()V"⟩
abbrev cX12_missOf : ByteArray := prog_14_method_50_code
def yX12_missOf : MethodName := ⟨RX12, "missOf", "(I)I"⟩
abbrev cX12_longOf : ByteArray := prog_14_method_51_code
def yX12_longOf : MethodName := ⟨RX12, "longOf", "(I)I"⟩
abbrev cX12_wordOf : ByteArray := prog_14_method_52_code
def yX12_wordOf : MethodName := ⟨RX12, "wordOf", "(II)I"⟩
abbrev cX12_layOne : ByteArray := prog_14_method_53_code
def yX12_layOne : MethodName := ⟨RX12, "layOne", "(I)V"⟩
abbrev cX12_layTwo : ByteArray := prog_14_method_54_code
def yX12_layTwo : MethodName := ⟨RX12, "layTwo", "(I)V"⟩
abbrev cX12_senseOf : ByteArray := prog_14_method_55_code
def yX12_senseOf : MethodName := ⟨RX12, "senseOf", "([II)I"⟩
abbrev cX12_markOf : ByteArray := prog_14_method_56_code
def yX12_markOf : MethodName := ⟨RX12, "markOf", "([II)I"⟩
abbrev cX12_word : ByteArray := prog_14_method_57_code
def yX12_word : MethodName := ⟨RX12, "word", "(I)I"⟩
abbrev cX12_slip : ByteArray := prog_14_method_58_code
def yX12_slip : MethodName := ⟨RX12, "slip", "(II)I"⟩
abbrev cX12_size : ByteArray := prog_14_method_59_code
def yX12_size : MethodName := ⟨RX12, "size", "(I)I"⟩
abbrev cX12_worth : ByteArray := prog_14_method_60_code
def yX12_worth : MethodName := ⟨RX12, "worth", "(I)I"⟩
abbrev cX12_beside : ByteArray := prog_14_method_61_code
def yX12_beside : MethodName := ⟨RX12, "beside", "(II)I"⟩
abbrev cX12_sense : ByteArray := prog_14_method_62_code
def yX12_sense : MethodName := ⟨RX12, "sense", "(I)I"⟩
abbrev cX12_miss : ByteArray := prog_14_method_63_code
def yX12_miss : MethodName := ⟨RX12, "miss", "(I)I"⟩
abbrev cX12_missedBy : ByteArray := prog_14_method_64_code
def yX12_missedBy : MethodName := ⟨RX12, "missedBy", "(I)I"⟩
abbrev cX12_missed : ByteArray := prog_14_method_65_code
def yX12_missed : MethodName := ⟨RX12, "missed", "(I)I"⟩
abbrev cX12_lacks : ByteArray := prog_14_method_66_code
def yX12_lacks : MethodName := ⟨RX12, "lacks", "(I)I"⟩
abbrev cX12_keepAct : ByteArray := prog_14_method_67_code
def yX12_keepAct : MethodName := ⟨RX12, "keepAct", "()V"⟩
abbrev cX12_exchange : ByteArray := prog_14_method_68_code
def yX12_exchange : MethodName := ⟨RX12, "exchange", "()V"⟩
abbrev cX12_drop : ByteArray := prog_14_method_69_code
def yX12_drop : MethodName := ⟨RX12, "drop", "(I)V"⟩
abbrev cX12_goRound : ByteArray := prog_14_method_70_code
def yX12_goRound : MethodName := ⟨RX12, "goRound", "(I)I"⟩
abbrev cX12_isRule : ByteArray := prog_14_method_71_code
def yX12_isRule : MethodName := ⟨RX12, "isRule", "(I)Z"⟩
abbrev cX12_round : ByteArray := prog_14_method_72_code
def yX12_round : MethodName := ⟨RX12, "round", "(I)I"⟩
abbrev cX12_leave : ByteArray := prog_14_method_73_code
def yX12_leave : MethodName := ⟨RX12, "leave", "(I)I"⟩
abbrev cX12_put : ByteArray := prog_14_method_74_code
def yX12_put : MethodName := ⟨RX12, "put", "(II)I"⟩
abbrev cX12_change : ByteArray := prog_14_method_75_code
def yX12_change : MethodName := ⟨RX12, "change", "(II)I"⟩
abbrev cX12_undo : ByteArray := prog_14_method_76_code
def yX12_undo : MethodName := ⟨RX12, "undo", "()Z"⟩
abbrev cX12_redo : ByteArray := prog_14_method_77_code
def yX12_redo : MethodName := ⟨RX12, "redo", "()Z"⟩
abbrev cX12_countWays : ByteArray := prog_14_method_78_code
def yX12_countWays : MethodName := ⟨RX12, "countWays", "()I"⟩
abbrev cX12_ways : ByteArray := prog_14_method_79_code
def yX12_ways : MethodName := ⟨RX12, "ways", "(II)I"⟩
abbrev cX12_choices : ByteArray := prog_14_method_80_code
def yX12_choices : MethodName := ⟨RX12, "choices", "(II)I"⟩
abbrev cX12_odds : ByteArray := prog_14_method_81_code
def yX12_odds : MethodName := ⟨RX12, "odds", "(II)I"⟩
abbrev cX12_lies : ByteArray := prog_14_method_82_code
def yX12_lies : MethodName := ⟨RX12, "lies", "(I)I"⟩
abbrev cX12_place : ByteArray := prog_14_method_83_code
def yX12_place : MethodName := ⟨RX12, "place", "(III)I"⟩
abbrev cX12_stepBy : ByteArray := prog_14_method_84_code
def yX12_stepBy : MethodName := ⟨RX12, "stepBy", "(IIII)I"⟩
abbrev cX12_layNeed : ByteArray := prog_14_method_85_code
def yX12_layNeed : MethodName := ⟨RX12, "layNeed", "(III)V"⟩
abbrev cX12_layNeeds : ByteArray := prog_14_method_86_code
def yX12_layNeeds : MethodName := ⟨RX12, "layNeeds", "()V"⟩
abbrev cX12_showSource : ByteArray := prog_14_method_87_code
def yX12_showSource : MethodName := ⟨RX12, "showSource", "()I"⟩
abbrev cX12_layBoth : ByteArray := prog_14_method_88_code
def yX12_layBoth : MethodName := ⟨RX12, "layBoth", "(II)Z"⟩
abbrev cX12_source : ByteArray := prog_14_method_89_code
def yX12_source : MethodName := ⟨RX12, "source", "(II)I"⟩
abbrev cX12_sources : ByteArray := prog_14_method_90_code
def yX12_sources : MethodName := ⟨RX12, "sources", "(II)I"⟩
abbrev cX12_three : ByteArray := prog_14_method_91_code
def yX12_three : MethodName := ⟨RX12, "three", "(III)I"⟩
abbrev cX12_layShared : ByteArray := prog_14_method_92_code
def yX12_layShared : MethodName := ⟨RX12, "layShared", "()V"⟩
abbrev cX12_firstOf : ByteArray := prog_14_method_93_code
def yX12_firstOf : MethodName := ⟨RX12, "firstOf", "(I[III)I"⟩
abbrev cX12_common : ByteArray := prog_14_method_94_code
def yX12_common : MethodName := ⟨RX12, "common", "(II)I"⟩
abbrev cX12_strange : ByteArray := prog_14_method_95_code
def yX12_strange : MethodName := ⟨RX12, "strange", "(I)I"⟩
abbrev cX12_apart : ByteArray := prog_14_method_96_code
def yX12_apart : MethodName := ⟨RX12, "apart", "(II)I"⟩
abbrev cX12_canLeave : ByteArray := prog_14_method_97_code
def yX12_canLeave : MethodName := ⟨RX12, "canLeave", "(I)Z"⟩
abbrev cX12_layWithout : ByteArray := prog_14_method_98_code
def yX12_layWithout : MethodName := ⟨RX12, "layWithout", "(I)V"⟩
abbrev cX12_isAhead : ByteArray := prog_14_method_99_code
def yX12_isAhead : MethodName := ⟨RX12, "isAhead", "(II)Z"⟩
abbrev cX12_keep : ByteArray := prog_14_method_100_code
def yX12_keep : MethodName := ⟨RX12, "keep", "(II)I"⟩
abbrev cX12_mean : ByteArray := prog_14_method_101_code
def yX12_mean : MethodName := ⟨RX12, "mean", "(II)I"⟩
abbrev cX12_duelOf : ByteArray := prog_14_method_102_code
def yX12_duelOf : MethodName := ⟨RX12, "duelOf", "(I)I"⟩
abbrev cX12_duel : ByteArray := prog_14_method_103_code
def yX12_duel : MethodName := ⟨RX12, "duel", "(II)I"⟩
abbrev cX12_keepNow : ByteArray := prog_14_method_104_code
def yX12_keepNow : MethodName := ⟨RX12, "keepNow", "()V"⟩
abbrev cX12_bringBack : ByteArray := prog_14_method_105_code
def yX12_bringBack : MethodName := ⟨RX12, "bringBack", "()V"⟩
abbrev cX12_isAsSlip : ByteArray := prog_14_method_106_code
def yX12_isAsSlip : MethodName := ⟨RX12, "isAsSlip", "(I)Z"⟩
abbrev cX12_becomes : ByteArray := prog_14_method_107_code
def yX12_becomes : MethodName := ⟨RX12, "becomes", "(II)I"⟩
abbrev cX12_will : ByteArray := prog_14_method_108_code
def yX12_will : MethodName := ⟨RX12, "will", "(II)I"⟩
abbrev cX12_last : ByteArray := prog_14_method_109_code
def yX12_last : MethodName := ⟨RX12, "last", "(I)I"⟩
abbrev cX12_mark : ByteArray := prog_14_method_110_code
def yX12_mark : MethodName := ⟨RX12, "mark", "(I)I"⟩
abbrev cX12_layPutIn : ByteArray := prog_14_method_111_code
def yX12_layPutIn : MethodName := ⟨RX12, "layPutIn", "(II)V"⟩
abbrev cX12_isAheadOfLaid : ByteArray := prog_14_method_112_code
def yX12_isAheadOfLaid : MethodName := ⟨RX12, "isAheadOfLaid", "(I)Z"⟩
abbrev cX12_countMended : ByteArray := prog_14_method_113_code
def yX12_countMended : MethodName := ⟨RX12, "countMended", "(IZ)I"⟩
abbrev cX12_mended : ByteArray := prog_14_method_114_code
def yX12_mended : MethodName := ⟨RX12, "mended", "(II)I"⟩
abbrev cX12_safe : ByteArray := prog_14_method_115_code
def yX12_safe : MethodName := ⟨RX12, "safe", "()I"⟩
abbrev cX12_doesCome : ByteArray := prog_14_method_116_code
def yX12_doesCome : MethodName := ⟨RX12, "doesCome", "(II)Z"⟩
abbrev cX12_comes : ByteArray := prog_14_method_117_code
def yX12_comes : MethodName := ⟨RX12, "comes", "(I)I"⟩
abbrev cX12_layOrder : ByteArray := prog_14_method_118_code
def yX12_layOrder : MethodName := ⟨RX12, "layOrder", "(I)Z"⟩
abbrev cX12_doesFit : ByteArray := prog_14_method_119_code
def yX12_doesFit : MethodName := ⟨RX12, "doesFit", "(I)Z"⟩
abbrev cX12_rowsOfSlips : ByteArray := prog_14_method_120_code
def yX12_rowsOfSlips : MethodName := ⟨RX12, "rowsOfSlips", "()I"⟩
abbrev cX12_sittings : ByteArray := prog_14_method_121_code
def yX12_sittings : MethodName := ⟨RX12, "sittings", "()I"⟩
abbrev cX12_hint : ByteArray := prog_14_method_122_code
def yX12_hint : MethodName := ⟨RX12, "hint", "(IIZ)I"⟩
abbrev cX12_untell : ByteArray := prog_14_method_123_code
def yX12_untell : MethodName := ⟨RX12, "untell", "(I)Z"⟩
abbrev cX12_later : ByteArray := prog_14_method_124_code
def yX12_later : MethodName := ⟨RX12, "later", "(I)I"⟩
abbrev cX12_laySeats : ByteArray := prog_14_method_125_code
def yX12_laySeats : MethodName := ⟨RX12, "laySeats", "(I)V"⟩
abbrev cX12_seats : ByteArray := prog_14_method_126_code
def yX12_seats : MethodName := ⟨RX12, "seats", "(I)I"⟩
abbrev cX12_sure : ByteArray := prog_14_method_127_code
def yX12_sure : MethodName := ⟨RX12, "sure", "(II)I"⟩
abbrev cX12_ask : ByteArray := prog_14_method_128_code
def yX12_ask : MethodName := ⟨RX12, "ask", "(II)I"⟩
abbrev cX12_image : ByteArray := prog_14_method_129_code
def yX12_image : MethodName := ⟨RX12, "image", "(I)I"⟩
abbrev cX12_back : ByteArray := prog_14_method_130_code
def yX12_back : MethodName := ⟨RX12, "back", "(I)I"⟩
abbrev cX12_about : ByteArray := prog_14_method_131_code
def yX12_about : MethodName := ⟨RX12, "about", "(I)I"⟩
abbrev cX12_feed : ByteArray := prog_14_method_132_code
def yX12_feed : MethodName := ⟨RX12, "feed", "(IIIII)I"⟩
abbrev cX12_end : ByteArray := prog_14_method_133_code
def yX12_end : MethodName := ⟨RX12, "end", "(I)I"⟩
abbrev cJ11_isValidCodePoint_9a6ad : ByteArray := prog_15_method_11_code
def yJ11_isValidCodePoint_9a6ad : MethodName := ⟨RJ11, "isValidCodePoint", "(I)Z"⟩
abbrev cJ11_highSurrogate_5068e : ByteArray := prog_15_method_28_code
def yJ11_highSurrogate_5068e : MethodName := ⟨RJ11, "highSurrogate", "(I)C"⟩
abbrev cJ11_lowSurrogate_5068e : ByteArray := prog_15_method_29_code
def yJ11_lowSurrogate_5068e : MethodName := ⟨RJ11, "lowSurrogate", "(I)C"⟩
abbrev cJ6_bitCount_0f7a4 : ByteArray := prog_16_method_49_code
def yJ6_bitCount_0f7a4 : MethodName := ⟨RJ6, "bitCount", "(I)I"⟩
abbrev cJ9_abs_0f7a4 : ByteArray := prog_17_method_59_code
def yJ9_abs_0f7a4 : MethodName := ⟨RJ9, "abs", "(I)I"⟩
abbrev cJ9_max_7cf53 : ByteArray := prog_17_method_65_code
def yJ9_max_7cf53 : MethodName := ⟨RJ9, "max", "(II)I"⟩
abbrev cJ9_min_7cf53 : ByteArray := prog_17_method_69_code
def yJ9_min_7cf53 : MethodName := ⟨RJ9, "min", "(II)I"⟩
abbrev cJ0_length_8abf5 : ByteArray := prog_18_method_54_code
def yJ0_length_8abf5 : MethodName := ⟨RJ0, "length", "()I"⟩
abbrev cJ0_charAt_5068e : ByteArray := prog_18_method_56_code
def yJ0_charAt_5068e : MethodName := ⟨RJ0, "charAt", "(I)C"⟩
abbrev cJ0_indexOf_0f7a4 : ByteArray := prog_18_method_79_code
def yJ0_indexOf_0f7a4 : MethodName := ⟨RJ0, "indexOf", "(I)I"⟩
abbrev cJ0_indexOf_7cf53 : ByteArray := prog_18_method_80_code
def yJ0_indexOf_7cf53 : MethodName := ⟨RJ0, "indexOf", "(II)I"⟩
abbrev cJ0_coder_7d493 : ByteArray := prog_18_method_152_code
def yJ0_coder_7d493 : MethodName := ⟨RJ0, "coder", "()B"⟩
abbrev cJ0_isLatin1_aae02 : ByteArray := prog_18_method_154_code
def yJ0_isLatin1_aae02 : MethodName := ⟨RJ0, "isLatin1", "()Z"⟩
abbrev cJ0_checkIndex_df160 : ByteArray := prog_18_method_155_code
def yJ0_checkIndex_df160 : MethodName := ⟨RJ0, "checkIndex", "(II)V"⟩
abbrev cJ0_checkBoundsBeginEnd_23922 : ByteArray := prog_18_method_158_code
def yJ0_checkBoundsBeginEnd_23922 : MethodName := ⟨RJ0, "checkBoundsBeginEnd", "(III)V"⟩
abbrev cJ1_charAt_3b067 : ByteArray := prog_19_method_2_code
def yJ1_charAt_3b067 : MethodName := ⟨RJ1, "charAt", "([BI)C"⟩
abbrev cJ1_canEncode_9a6ad : ByteArray := prog_19_method_4_code
def yJ1_canEncode_9a6ad : MethodName := ⟨RJ1, "canEncode", "(I)Z"⟩
abbrev cJ1_indexOf_4cfef : ByteArray := prog_19_method_22_code
def yJ1_indexOf_4cfef : MethodName := ⟨RJ1, "indexOf", "([BIII)I"⟩
abbrev cJ1_indexOfChar_4cfef : ByteArray := prog_19_method_23_code
def yJ1_indexOfChar_4cfef : MethodName := ⟨RJ1, "indexOfChar", "([BIII)I"⟩
abbrev cJ2_getChar_3b067 : ByteArray := prog_20_method_5_code
def yJ2_getChar_3b067 : MethodName := ⟨RJ2, "getChar", "([BI)C"⟩
abbrev cJ2_length_9d52b : ByteArray := prog_20_method_6_code
def yJ2_length_9d52b : MethodName := ⟨RJ2, "length", "([B)I"⟩
abbrev cJ2_indexOf_4cfef : ByteArray := prog_20_method_40_code
def yJ2_indexOf_4cfef : MethodName := ⟨RJ2, "indexOf", "([BIII)I"⟩
abbrev cJ2_indexOfChar_4cfef : ByteArray := prog_20_method_47_code
def yJ2_indexOfChar_4cfef : MethodName := ⟨RJ2, "indexOfChar", "([BIII)I"⟩
abbrev cJ2_indexOfCharUnsafe_4cfef : ByteArray := prog_20_method_48_code
def yJ2_indexOfCharUnsafe_4cfef : MethodName := ⟨RJ2, "indexOfCharUnsafe", "([BIII)I"⟩
abbrev cJ2_indexOfSupplementary_4cfef : ByteArray := prog_20_method_49_code
def yJ2_indexOfSupplementary_4cfef : MethodName := ⟨RJ2, "indexOfSupplementary", "([BIII)I"⟩
abbrev cJ2_charAt_3b067 : ByteArray := prog_20_method_83_code
def yJ2_charAt_3b067 : MethodName := ⟨RJ2, "charAt", "([BI)C"⟩
abbrev cJ2_checkIndex_2214a : ByteArray := prog_20_method_91_code
def yJ2_checkIndex_2214a : MethodName := ⟨RJ2, "checkIndex", "(I[B)V"⟩
abbrev cJ2_checkBoundsBeginEnd_d044e : ByteArray := prog_20_method_93_code
def yJ2_checkBoundsBeginEnd_d044e : MethodName := ⟨RJ2, "checkBoundsBeginEnd", "(II[B)V"⟩
abbrev cJ7_fill_53178 : ByteArray := prog_21_method_103_code
def yJ7_fill_53178 : MethodName := ⟨RJ7, "fill", "([II)V"⟩
abbrev cJ3_checkIndex_8e157 : ByteArray := prog_22_method_11_code
def yJ3_checkIndex_8e157 : MethodName := ⟨RJ3, "checkIndex", "(IILjava/util/function/BiFunction;)I"⟩
abbrev cJ3_checkFromToIndex_8c36e : ByteArray := prog_22_method_12_code
def yJ3_checkFromToIndex_8c36e : MethodName := ⟨RJ3, "checkFromToIndex", "(IIILjava/util/function/BiFunction;)I"⟩

abbrev tys (cy : Nat → ClassId) : List (ClassId × FieldType) := [(cy 0, .int), (cy 1, .long), (cy 2, .byte), (cy 3, .boolean), (cy 4, .object "LostWords$Line"), (cy 5, .object "LostWords$State")]
abbrev classes : List vw_C := [(RX0, TX0, 8), (RX1, TX1, 2), (RX2, TX2, 1), (RX3, TX3, 3), (RX4, TX4, 7), (RX5, TX5, 7), (RX6, TX6, 4), (RX7, TX7, 13), (RX8, TX8, 3), (RX9, TX9, 8), (RX10, TX10, 12), (RX11, TX11, 9), (RX12, TX12, 74)]
def nestW : List Cond := [.fieldLinkNest RX11 83 "LostWords$Tape" "length" "I" "LostWords", .fieldLinkNest RX6 38 "LostWords$Tape" "kind" "I" "LostWords", .fieldLinkNest RX6 82 "LostWords$Tape" "start" "I" "LostWords", .fieldLinkNest RX6 96 "LostWords$Tape" "number" "I" "LostWords", .fieldLinkNest RX6 74 "LostWords$Tape" "name" "J" "LostWords", .fieldLinkNest RX4 39 "LostWords$Line" "count" "I" "LostWords", .fieldLinkNest RX8 31 "LostWords$Line" "count" "I" "LostWords", .fieldLinkNest RX5 58 "LostWords$Line" "count" "I" "LostWords", .fieldLinkNest RX3 40 "LostWords$Line" "count" "I" "LostWords", .fieldLinkNest RX2 37 "LostWords$Line" "count" "I" "LostWords", .fieldLinkNest RX10 77 "LostWords$Line" "count" "I" "LostWords", .fieldLinkNest RX11 134 "LostWords$Line" "count" "I" "LostWords", .fieldLinkNest RX6 165 "LostWords$Formula" "units" "I" "LostWords", .fieldLinkNest RX11 328 "LostWords$Formula" "units" "I" "LostWords", .fieldLinkNest RX6 120 "LostWords$Formula" "isTold" "Z" "LostWords", .fieldLinkNest RX10 91 "LostWords$Formula" "isTold" "Z" "LostWords", .fieldLinkNest RX5 36 "LostWords$Told" "row" "LLostWords$Line;" "LostWords", .fieldLinkNest RX6 116 "LostWords$Told" "formula" "LLostWords$Formula;" "LostWords", .fieldLinkNest RX11 324 "LostWords$Told" "formula" "LLostWords$Formula;" "LostWords", .fieldLinkNest RX6 68 "LostWords$Told" "wordCount" "I" "LostWords", .fieldLinkNest RX3 55 "LostWords$Told" "wordCount" "I" "LostWords", .fieldLinkNest RX11 300 "LostWords$Told" "wordCount" "I" "LostWords", .fieldLinkNest RX6 103 "LostWords$Told" "pairCount" "I" "LostWords", .fieldLinkNest RX11 309 "LostWords$Told" "pairCount" "I" "LostWords", .fieldLinkNest RX7 45 "LostWords$Told" "slipCount" "I" "LostWords", .fieldLinkNest RX11 105 "LostWords$Told" "slipCount" "I" "LostWords", .fieldLinkNest RX5 49 "LostWords$Told" "draw" "I" "LostWords", .fieldLinkNest RX6 132 "LostWords$Told" "draw" "I" "LostWords", .fieldLinkNest RX6 129 "LostWords$Told" "isDrawTold" "Z" "LostWords", .fieldLinkNest RX11 70 "LostWords$Reader" "tape" "LLostWords$Tape;" "LostWords", .fieldLinkNest RX11 108 "LostWords$Reader" "fault" "I" "LostWords", .fieldLinkNest RX11 111 "LostWords$Reader" "place" "I" "LostWords", .fieldLinkNest RX5 32 "LostWords$State" "row" "LLostWords$Line;" "LostWords", .fieldLinkNest RX11 118 "LostWords$State" "row" "LLostWords$Line;" "LostWords", .fieldLinkNest RX5 45 "LostWords$State" "round" "I" "LostWords", .fieldLinkNest RX11 303 "LostWords$State" "round" "I" "LostWords", .fieldLinkNest RX5 52 "LostWords$State" "seed" "I" "LostWords", .fieldLinkNest RX11 306 "LostWords$State" "seed" "I" "LostWords", .fieldLinkNest RX11 114 "LostWords$Play" "now" "LLostWords$State;" "LostWords", .fieldLinkNest RX11 263 "LostWords$Seating" "firstOrder" "LLostWords$Line;" "LostWords", .fieldLinkNest RX11 318 "LostWords$Seating" "hintCount" "I" "LostWords", .fieldLinkNest RX11 321 "LostWords$Seating" "time" "I" "LostWords"]
def isNestW : Cond → Bool
  | .fieldLinkNest _ _ _ _ _ _ => true
  | _ => false
theorem nestW_ok : ∀ w ∈ nestW, isNestW w = true := by decide +kernel
def NW (U : State) : Prop := ∀ w ∈ nestW, va_Nw w U
theorem NW.moved {s U : State} (hW : s.WarmedH U.vm) (h : NW s) : NW U := by
  intro w hw
  have h1 := nestW_ok w hw
  have h2 := h w hw
  cases w <;> first | exact va_Nw.warmF hW h2 | exact absurd h1 (by simp [isNestW])
theorem NW.same {s U : State} (e : s.vm = U.vm) (h : NW s) : NW U := by
  intro w hw
  have h1 := nestW_ok w hw
  have h2 := h w hw
  cases w <;> first | exact va_Nw.same (w := .fieldLinkNest _ _ _ _ _ _) rfl e h2 | exact absurd h1 (by simp [isNestW])
def EV (dC : Nat → ClassId) (dI : Nat → Nat → Nat) (cy : Nat → ClassId) (U : State) : Prop := va_K (dC, dI) classes (tys cy) U ∧ NW U ∧ va_AO RX1 U ∧ va_AO RX8 U
theorem EV.moved {dC : Nat → ClassId} {dI : Nat → Nat → Nat} {cy : Nat → ClassId} {s U : State} (hW : s.WarmedH U.vm) (h : EV dC dI cy s) : EV dC dI cy U := ⟨va_K.moved hW.alike h.1, h.2.1.moved hW, va_AO.moved hW.alike h.2.2.1, va_AO.moved hW.alike h.2.2.2⟩
theorem EV.same {dC : Nat → ClassId} {dI : Nat → Nat → Nat} {cy : Nat → ClassId} {s U : State} (e : s.vm = U.vm) (h : EV dC dI cy s) : EV dC dI cy U := ⟨va_K.moved (e ▸ Vm.Alike.refl s.vm) h.1, h.2.1.same e, va_AO.moved (e ▸ Vm.Alike.refl s.vm) h.2.2.1, va_AO.moved (e ▸ Vm.Alike.refl s.vm) h.2.2.2⟩
theorem EV.call {dC : Nat → ClassId} {dI : Nat → Nat → Nat} {cy : Nat → ClassId} {U : State} {g : JFrame} {mk : MethodId} {a : Array Value} (h : EV dC dI cy U) : EV dC dI cy (U.calling g mk a) := EV.same (s := U) rfl h
theorem xa_upd0 {f : Nat → Int32} {k : Nat} {x : Int32} (h : f k = x) : upd f k x = f := by
  funext j
  unfold upd
  split
  · rename_i e; rw [e]; exact h.symm
  · rfl
theorem xa_ra {U : State} {cA : ClassId} {ty : FieldType} (h : va_RA U cA ty) : U.vm.findClass ("[" ++ ty.toString) = some cA := by
  cases ty with
  | object C => obtain ⟨_, _, _, _, _, h4⟩ := h; exact h4
  | _ => exact h
theorem xl_step {a x z b : Int32} {n : Nat} (h0 : a ≤ x) (c : x < b) (e : z = x + Int32.ofInt 1) (hm : (b.toInt - x.toInt).toNat < n + 1) : a ≤ z ∧ (b.toInt - z.toInt).toNat < n := by
  have hz : z.toInt = x.toInt + 1 := by
    rw [e, Int32.toInt_add]
    rw [Int32.lt_iff_toInt_lt] at c
    have h1 := Int32.toInt_lt b
    have h2 := Int32.le_toInt x
    have h3 : (Int32.ofInt 1).toInt = 1 := by decide +kernel
    rw [h3]
    have : (x.toInt + 1).bmod (2 ^ 32) = x.toInt + 1 := by
      rw [Int.bmod_eq_of_le] <;> omega
    exact this
  rw [Int32.lt_iff_toInt_lt] at c
  rw [Int32.le_iff_toInt_le] at h0 ⊢
  constructor <;> omega
section XA
variable {p : Program} {l : Launch} {e : Env} {R : Room} {s : State} {m : MethodId} {args : Array Value} {below : List Frame} {meth : Method} {c : Code} {H H0 : Heap} {locs : List Loc} {cells slots : Nat} {Q : State → Prop} {cc : ByteArray} {pc : Nat} {ls : Array Slot} {rest : List Value} {D : va_G} {cl : List vw_C} {ts : List (ClassId × FieldType)} {ws : va_W} {A : Nat → Prop}
theorem xa_same {c0 cA : ClassId} {ty : FieldType} {t0 : Nat} (hK : va_K D cl ts s) (ht : ts[t0]? = some (c0, ty)) (hK' : va_K D cl (ts ++ [(cA, ty)]) s) : cA = c0 := by
  have h1 := xa_ra (hK.2 t0 _ ht).2
  have h2 := xa_ra (hK'.2 ts.length (cA, ty) (by simp)).2
  exact Option.some.inj (h2.symm.trans h1)
theorem xa_newa (hexec : p.tables.exec = Jvm.exec) (hb : c.code = cc) {atype : ArrayType} (harr : (Cond.arrayClass (newarray.typeOf atype)).before args s = true) {ty : FieldType} (hty : newarray.typeOf atype = ty) (hK : va_K D cl ts s) {c0 : ClassId} (t0 : Nat) (ht : ts[t0]? = some (c0, ty)) (hP : va_P D cl ws H) (hD : va_D A ws) (hS : va_S A H0 H locs) (hA : ∀ q, H0.size ≤ q → A q)
    {n : Int32} {N' : Nat} {a0 : vp_A} (ha : ∀ cA : ClassId, vp_cell cA a0 = arrV cA N' (fun _ => defaultValue ty)) (hn : ¬ n < 0) (hN : n.toNatClampNeg = N') (hbytes : N' * componentBytes ty ≤ 536870912) (hcells : cells + 1 ≤ R.cells) (hslots : slots + N' ≤ R.slots) (hdg : decode cc pc = .ok (.newarray atype, 2))
    (kk : ∀ (q : Nat) (H1 : Heap), va_P D cl (ws ++ [(q, .inl (c0, a0))]) H1 → va_D A (ws ++ [(q, .inl (c0, a0))]) → va_S A H0 H1 locs →
      W p l e R s m args below meth c H1 locs (cells + 1) (slots + N') Q (F0 m (pc + 2) ls (.ref q :: rest))) : W p l e R s m args below meth c H locs cells slots Q (F0 m pc ls (.int n :: rest)) := by
  refine va_newa hexec hb harr hty hK hP hD hS hA ha hn hN hbytes hcells hslots hdg (fun q cA H1 hK' hP hD hS => ?_)
  have e1 := xa_same hK ht hK'
  subst e1
  exact kk q H1 hP hD hS
theorem xa_newq (hexec : p.tables.exec = Jvm.exec) (hb : c.code = cc) {own C : String} {index : Nat} (hown : s.vm.findClass own = some m.cls) (hclink : (Cond.classLink own index C).before args s = true) (hover : va_AO C s) (hK : va_K D cl ts s) {c0 : ClassId} (t0 : Nat) (ht : ts[t0]? = some (c0, .object C)) (hP : va_P D cl ws H) (hD : va_D A ws) (hS : va_S A H0 H locs) (hA : ∀ q, H0.size ≤ q → A q)
    {n : Int32} {N' : Nat} (hn : ¬ n < 0) (hN : n.toNatClampNeg = N') (hbytes : N' * 4 ≤ 536870912) (hcells : cells + 1 ≤ R.cells) (hslots : slots + N' ≤ R.slots) (hdg : decode cc pc = .ok (.anewarray index, 3))
    (kk : ∀ (q : Nat) (H1 : Heap), va_P D cl (ws ++ [(q, .inl (c0, N', .inr (.inr (.inr (.inr (fun _ => none))))))]) H1 → va_D A (ws ++ [(q, .inl (c0, N', .inr (.inr (.inr (.inr (fun _ => none))))))]) → va_S A H0 H1 locs →
      W p l e R s m args below meth c H1 locs (cells + 1) (slots + N') Q (F0 m (pc + 3) ls (.ref q :: rest))) : W p l e R s m args below meth c H locs cells slots Q (F0 m pc ls (.int n :: rest)) := by
  refine va_newq hexec hb hown hclink hover hK hP hD hS hA hn hN hbytes hcells hslots hdg (fun q cA H1 hK' hP hD hS => ?_)
  have e1 := xa_same hK ht hK'
  subst e1
  exact kk q H1 hP hD hS
end XA
def KEYT : String := "word beside row slip miss draw or and not worth place size times left right"
def SV (kq vq : Nat) (bf : Nat → Int32) (A : Nat → Prop) (U : State) : Prop := va_Z "java/lang/String" "COMPACT_STRINGS" "Z" (.int 1) A U U.heap ∧ va_Zq "jdk/internal/util/Preconditions" "SIOOBE_FORMATTER" "Ljava/util/function/BiFunction;" A U U.heap ∧ vk_R RX9 19 KEYT kq U ∧ va_O "java/lang/String" kq A U U.heap ∧ va_OF "java/lang/String" "coder" "B" (.int 0) kq A U U.heap ∧ va_OF "java/lang/String" "value" "[B" (.ref vq) kq A U U.heap ∧ va_T .byte vq 75 (fun j => .int (bf j)) A U U.heap
theorem SV.step {kq vq : Nat} {bf : Nat → Int32} {A B : Nat → Prop} {s U : State} (h : SV kq vq bf A s) (hW : s.WarmedH U.vm) (hq : ∀ a : Nat, a < s.heap.size → ¬ A a → U.heap[a]? = s.heap[a]?) (hAB : ∀ q, B q → A q) : SV kq vq bf B U :=
  ⟨((h.1.kept hq).moved hW.alike).narrow hAB, ((h.2.1.kept hq).moved hW.alike).narrow hAB, h.2.2.1.warm hW, ((h.2.2.2.1.kept hq).moved hW.alike).narrow hAB, ((h.2.2.2.2.1.kept hq).moved hW.alike).narrow hAB, ((h.2.2.2.2.2.1.kept hq).moved hW.alike).narrow hAB, ((h.2.2.2.2.2.2.kept hq).moved hW.alike).narrow hAB⟩
theorem SV.call {kq vq : Nat} {bf : Nat → Int32} {A : Nat → Prop} {U : State} {g : JFrame} {mk : MethodId} {a : Array Value} (h : SV kq vq bf A U) : SV kq vq bf A (U.calling g mk a) :=
  ⟨h.1.moved (U := U.calling g mk a) (Vm.Alike.refl U.vm), h.2.1.moved (U := U.calling g mk a) (Vm.Alike.refl U.vm), vk_R.same (u := U) (U := U.calling g mk a) rfl h.2.2.1, h.2.2.2.1.moved (U := U.calling g mk a) (Vm.Alike.refl U.vm), h.2.2.2.2.1.moved (U := U.calling g mk a) (Vm.Alike.refl U.vm), h.2.2.2.2.2.1.moved (U := U.calling g mk a) (Vm.Alike.refl U.vm), h.2.2.2.2.2.2.moved (U := U.calling g mk a) (Vm.Alike.refl U.vm)⟩
theorem SV.recv {kq vq : Nat} {bf : Nat → Int32} {A : Nat → Prop} {s : State} (h : SV kq vq bf A s) {H : Heap} (hq : ∀ a : Nat, a < s.heap.size → ¬ A a → H[a]? = s.heap[a]?) : ∃ cell : Cell, H[kq]? = some cell ∧ cell.vm.isStatics = false ∧ s.vm.findClass RJ0 = some cell.cls := by
  obtain ⟨cell, h1, h2, h3, _⟩ := h.2.2.2.1.kept hq
  exact ⟨cell, h1, h2, h3⟩
theorem xa_vin75 {i : Int32} (h0 : 0 ≤ i) (h1 : i < 75) : vp_in i 75 := by
  simp only [Int32.lt_iff_toInt_lt, Int32.le_iff_toInt_le, show ((0 : Int32)).toInt = 0 from by decide +kernel, show ((75 : Int32)).toInt = 75 from by decide +kernel] at h0 h1
  rw [vp_in_iff]
  omega
theorem xa_key {k x z : Int32} (h0 : 0 ≤ k) (h1 : k ≤ x) (c : x < 75) (e : z = k + Int32.ofInt 1) : 0 ≤ z ∧ z ≤ x + Int32.ofInt 1 ∧ k ≤ x + Int32.ofInt 1 := by
  have h3 : (Int32.ofInt 1).toInt = 1 := by decide +kernel
  simp only [Int32.lt_iff_toInt_lt, Int32.le_iff_toInt_le, show ((0 : Int32)).toInt = 0 from by decide +kernel, show ((75 : Int32)).toInt = 75 from by decide +kernel] at h0 h1 c ⊢
  have hz : z.toInt = k.toInt + 1 := by
    rw [e, Int32.toInt_add, h3]
    rw [Int.bmod_eq_of_le] <;> omega
  have hx : (x + Int32.ofInt 1).toInt = x.toInt + 1 := by
    rw [Int32.toInt_add, h3]
    rw [Int.bmod_eq_of_le] <;> omega
  rw [hz, hx]
  refine ⟨?_, ?_, ?_⟩ <;> omega
theorem xa_vin15 {i : Int32} (h0 : 0 ≤ i) (h1 : ¬ 15 ≤ i) : vp_in i 15 := by
  simp only [Int32.le_iff_toInt_le, show ((0 : Int32)).toInt = 0 from by decide +kernel, show ((15 : Int32)).toInt = 15 from by decide +kernel] at h0 h1
  rw [vp_in_iff]
  omega
theorem xa_zI (n : Nat) : ∀ cA : ClassId, vp_cell cA (n, .inl (fun _ => 0)) = arrV cA n (fun _ => defaultValue .int) := fun _ => rfl
theorem xa_zB (n : Nat) : ∀ cA : ClassId, vp_cell cA (n, .inl (fun _ => 0)) = arrV cA n (fun _ => defaultValue .byte) := fun _ => rfl
theorem xa_zZ (n : Nat) : ∀ cA : ClassId, vp_cell cA (n, .inl (fun _ => 0)) = arrV cA n (fun _ => defaultValue .boolean) := fun _ => rfl
theorem xa_zJ (n : Nat) : ∀ cA : ClassId, vp_cell cA (n, .inr (.inl (fun _ => 0))) = arrV cA n (fun _ => defaultValue .long) := fun _ => rfl
theorem xl_dec {x z b : Int32} (c : x < b) (e : z = x + Int32.ofInt 1) : (b.toInt - z.toInt).toNat + 1 = (b.toInt - x.toInt).toNat := by
  have hz : z.toInt = x.toInt + 1 := by
    rw [e, Int32.toInt_add]
    rw [Int32.lt_iff_toInt_lt] at c
    have h1 := Int32.toInt_lt b
    have h2 := Int32.le_toInt x
    have h3 : (Int32.ofInt 1).toInt = 1 := by decide +kernel
    rw [h3]
    rw [Int.bmod_eq_of_le] <;> omega
  rw [Int32.lt_iff_toInt_lt] at c
  omega
theorem xa_vin41 {i : Int32} (h0 : 1 ≤ i) (h1 : i < 41) : vp_in i 41 := by
  simp only [Int32.lt_iff_toInt_lt, Int32.le_iff_toInt_le, show ((1 : Int32)).toInt = 1 from by decide +kernel, show ((41 : Int32)).toInt = 41 from by decide +kernel] at h0 h1
  rw [vp_in_iff]
  omega
theorem xa_cl {x : Int32} (h : 1 ≤ x) : (0 : Nat) ≠ x.toNatClampNeg := by
  rw [Int32.le_iff_toInt_le, show ((1 : Int32)).toInt = 1 from by decide +kernel] at h
  have : x.toNatClampNeg = x.toInt.toNat := rfl
  omega
