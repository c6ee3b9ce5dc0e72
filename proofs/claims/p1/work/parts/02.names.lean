-- by program (wip/gen/gen1.py) out of the claim: names, field tables, links by their places in lw_tbl
theorem goodIn_r {big : List Cond} (ws : List Cond) (ps : List Nat) (hp : ws = ps.filterMap (fun i => big[i]?)) (h : ws.all goodWord = true) : GoodIn big ws := by
  intro w hw
  have h1 := List.all_eq_true.mp h w hw
  rw [hp] at hw
  obtain ⟨i, -, hi⟩ := List.mem_filterMap.mp hw
  have hm : w ∈ big := by first | exact List.mem_of_getElem? hi | exact List.getElem?_mem hi
  exact ⟨hm, good_of_word h1⟩
theorem goodIn_app {big a b : List Cond} (ha : GoodIn big a) (hb : GoodIn big b) : GoodIn big (a ++ b) := fun w h => (List.mem_append.mp h).elim (ha w) (hb w)
theorem goodIn_ca {big a b : List Cond} {c : Cond} (ha : GoodIn big (c :: a)) (hb : GoodIn big b) : GoodIn big (c :: (a ++ b)) := fun w h => (List.mem_cons.mp h).elim (fun e => ha w (List.mem_cons.mpr (Or.inl e))) (fun h => (List.mem_append.mp h).elim (fun h => ha w (List.mem_cons.mpr (Or.inr h))) (hb w))
theorem goodIn_sub {big ws : List Cond} (hm : ∀ w ∈ ws, w ∈ big) (h : ws.all goodWord = true) : GoodIn big ws := fun w hw => ⟨hm w hw, good_of_word (List.all_eq_true.mp h w hw)⟩
def RX0 : String := "SpoutNews$Book"
def TX0 : u_T := fun k => match k with
  | 0 => ("SpoutNews$Book", "day", "[I", true)
  | 1 => ("SpoutNews$Book", "what", "[I", true)
  | 2 => ("SpoutNews$Book", "which", "[I", true)
  | _ => ("SpoutNews$Book", "word", "[I", true)
def tyX0 : Nat → FieldType := fun k => match k with
  | 0 => .array .int
  | 1 => .array .int
  | 2 => .array .int
  | _ => .array .int
theorem nmX0 : ∀ a, a < 4 → ∀ b, b < 4 → a ≠ b → (TX0 a).2.1 ≠ (TX0 b).2.1 := by decide +kernel
theorem tyX0_ok : ∀ k, k < 4 → parseFieldDescriptor (TX0 k).2.2.1 = some (tyX0 k) := by decide +kernel
def RX1 : String := "SpoutNews$Cathedral"
def TX1 : u_T := fun k => match k with
  | 0 => ("SpoutNews$Cathedral", "world", "LSpoutNews$World;", true)
  | 1 => ("SpoutNews$Cathedral", "book", "LSpoutNews$Book;", true)
  | 2 => ("SpoutNews$Cathedral", "texts", "LSpoutNews$Texts;", true)
  | _ => ("SpoutNews$Cathedral", "told", "LSpoutNews$Told;", true)
def tyX1 : Nat → FieldType := fun k => match k with
  | 0 => .object "SpoutNews$World"
  | 1 => .object "SpoutNews$Book"
  | 2 => .object "SpoutNews$Texts"
  | _ => .object "SpoutNews$Told"
theorem nmX1 : ∀ a, a < 4 → ∀ b, b < 4 → a ≠ b → (TX1 a).2.1 ≠ (TX1 b).2.1 := by decide +kernel
theorem tyX1_ok : ∀ k, k < 4 → parseFieldDescriptor (TX1 k).2.2.1 = some (tyX1 k) := by decide +kernel
def RX2 : String := "SpoutNews$DayRun"
def TX2 : u_T := fun k => match k with
  | 0 => ("SpoutNews$DayRun", "waitingWord", "[I", true)
  | 1 => ("SpoutNews$DayRun", "waitingInto", "[I", true)
  | _ => ("SpoutNews$DayRun", "waiting", "I", false)
def tyX2 : Nat → FieldType := fun k => match k with
  | 0 => .array .int
  | 1 => .array .int
  | _ => .int
theorem nmX2 : ∀ a, a < 3 → ∀ b, b < 3 → a ≠ b → (TX2 a).2.1 ≠ (TX2 b).2.1 := by decide +kernel
theorem tyX2_ok : ∀ k, k < 3 → parseFieldDescriptor (TX2 k).2.2.1 = some (tyX2 k) := by decide +kernel
def RX3 : String := "SpoutNews$Law"
def TX3 : u_T := fun k => match k with
  | 0 => ("SpoutNews$Law", "step", "[I", true)
  | 1 => ("SpoutNews$Law", "number", "[I", true)
  | 2 => ("SpoutNews$Law", "steps", "I", false)
  | 3 => ("SpoutNews$Law", "kind", "[I", true)
  | 4 => ("SpoutNews$Law", "from", "[I", true)
  | 5 => ("SpoutNews$Law", "when", "[I", true)
  | 6 => ("SpoutNews$Law", "behind", "[I", true)
  | 7 => ("SpoutNews$Law", "lines", "I", false)
  | 8 => ("SpoutNews$Law", "stack", "[I", true)
  | _ => ("SpoutNews$Law", "facts", "[I", true)
def tyX3 : Nat → FieldType := fun k => match k with
  | 0 => .array .int
  | 1 => .array .int
  | 2 => .int
  | 3 => .array .int
  | 4 => .array .int
  | 5 => .array .int
  | 6 => .array .int
  | 7 => .int
  | 8 => .array .int
  | _ => .array .int
theorem nmX3 : ∀ a, a < 10 → ∀ b, b < 10 → a ≠ b → (TX3 a).2.1 ≠ (TX3 b).2.1 := by decide +kernel
theorem tyX3_ok : ∀ k, k < 10 → parseFieldDescriptor (TX3 k).2.2.1 = some (tyX3 k) := by decide +kernel
def RX4 : String := "SpoutNews$LawReader"
def TX4 : u_T := fun k => match k with
  | 0 => ("SpoutNews$LawReader", "waiting", "[I", true)
  | 1 => ("SpoutNews$LawReader", "waits", "I", false)
  | 2 => ("SpoutNews$LawReader", "open", "I", false)
  | _ => ("SpoutNews$LawReader", "parens", "I", false)
def tyX4 : Nat → FieldType := fun k => match k with
  | 0 => .array .int
  | 1 => .int
  | 2 => .int
  | _ => .int
theorem nmX4 : ∀ a, a < 4 → ∀ b, b < 4 → a ≠ b → (TX4 a).2.1 ≠ (TX4 b).2.1 := by decide +kernel
theorem tyX4_ok : ∀ k, k < 4 → parseFieldDescriptor (TX4 k).2.2.1 = some (tyX4 k) := by decide +kernel
def RX5 : String := "SpoutNews$Past"
def TX5 : u_T := fun k => match k with
  | 0 => ("SpoutNews$Past", "ring", "[LSpoutNews$World;", true)
  | 1 => ("SpoutNews$Past", "count", "I", false)
  | _ => ("SpoutNews$Past", "next", "I", false)
def tyX5 : Nat → FieldType := fun k => match k with
  | 0 => .array (.object "SpoutNews$World")
  | 1 => .int
  | _ => .int
theorem nmX5 : ∀ a, a < 3 → ∀ b, b < 3 → a ≠ b → (TX5 a).2.1 ≠ (TX5 b).2.1 := by decide +kernel
theorem tyX5_ok : ∀ k, k < 3 → parseFieldDescriptor (TX5 k).2.2.1 = some (tyX5 k) := by decide +kernel
def RX6 : String := "SpoutNews$Texts"
def TX6 : u_T := fun k => match k with
  | 0 => ("SpoutNews$Texts", "law", "LSpoutNews$Law;", true)
  | 1 => ("SpoutNews$Texts", "into", "[I", true)
  | 2 => ("SpoutNews$Texts", "gutterLines", "I", false)
  | 3 => ("SpoutNews$Texts", "weatherDay", "[I", true)
  | 4 => ("SpoutNews$Texts", "weatherRain", "[I", true)
  | 5 => ("SpoutNews$Texts", "weatherLines", "I", false)
  | 6 => ("SpoutNews$Texts", "planDay", "[I", true)
  | 7 => ("SpoutNews$Texts", "planDeed", "[I", true)
  | 8 => ("SpoutNews$Texts", "planWho", "[I", true)
  | 9 => ("SpoutNews$Texts", "planWhat", "[I", true)
  | _ => ("SpoutNews$Texts", "planLines", "I", false)
def tyX6 : Nat → FieldType := fun k => match k with
  | 0 => .object "SpoutNews$Law"
  | 1 => .array .int
  | 2 => .int
  | 3 => .array .int
  | 4 => .array .int
  | 5 => .int
  | 6 => .array .int
  | 7 => .array .int
  | 8 => .array .int
  | 9 => .array .int
  | _ => .int
theorem nmX6 : ∀ a, a < 11 → ∀ b, b < 11 → a ≠ b → (TX6 a).2.1 ≠ (TX6 b).2.1 := by decide +kernel
theorem tyX6_ok : ∀ k, k < 11 → parseFieldDescriptor (TX6 k).2.2.1 = some (tyX6 k) := by decide +kernel
def RX7 : String := "SpoutNews$Thought"
def TX7 : u_T := fun k => match k with
  | 0 => ("SpoutNews$Thought", "maySit", "[I", true)
  | 1 => ("SpoutNews$Thought", "sits", "[I", true)
  | 2 => ("SpoutNews$Thought", "waysWith", "[I", true)
  | 3 => ("SpoutNews$Thought", "wayCount", "I", false)
  | 4 => ("SpoutNews$Thought", "colour", "[I", true)
  | 5 => ("SpoutNews$Thought", "groups", "I", false)
  | 6 => ("SpoutNews$Thought", "onFirstSide", "I", false)
  | 7 => ("SpoutNews$Thought", "words", "[I", true)
  | 8 => ("SpoutNews$Thought", "stoneOf", "[I", true)
  | 9 => ("SpoutNews$Thought", "masonOf", "[I", true)
  | 10 => ("SpoutNews$Thought", "refused", "[I", true)
  | 11 => ("SpoutNews$Thought", "offers", "I", false)
  | _ => ("SpoutNews$Thought", "least", "[I", true)
def tyX7 : Nat → FieldType := fun k => match k with
  | 0 => .array .int
  | 1 => .array .int
  | 2 => .array .int
  | 3 => .int
  | 4 => .array .int
  | 5 => .int
  | 6 => .int
  | 7 => .array .int
  | 8 => .array .int
  | 9 => .array .int
  | 10 => .array .int
  | 11 => .int
  | _ => .array .int
theorem nmX7 : ∀ a, a < 13 → ∀ b, b < 13 → a ≠ b → (TX7 a).2.1 ≠ (TX7 b).2.1 := by decide +kernel
theorem tyX7_ok : ∀ k, k < 13 → parseFieldDescriptor (TX7 k).2.2.1 = some (tyX7 k) := by decide +kernel
def RX8 : String := "SpoutNews$Tokens"
def TX8 : u_T := fun k => match k with
  | 0 => ("SpoutNews$Tokens", "kind", "[I", true)
  | 1 => ("SpoutNews$Tokens", "value", "[I", true)
  | 2 => ("SpoutNews$Tokens", "place", "[I", true)
  | 3 => ("SpoutNews$Tokens", "count", "I", false)
  | 4 => ("SpoutNews$Tokens", "at", "I", false)
  | 5 => ("SpoutNews$Tokens", "faultKind", "I", false)
  | _ => ("SpoutNews$Tokens", "faultPlace", "I", false)
def tyX8 : Nat → FieldType := fun k => match k with
  | 0 => .array .int
  | 1 => .array .int
  | 2 => .array .int
  | 3 => .int
  | 4 => .int
  | 5 => .int
  | _ => .int
theorem nmX8 : ∀ a, a < 7 → ∀ b, b < 7 → a ≠ b → (TX8 a).2.1 ≠ (TX8 b).2.1 := by decide +kernel
theorem tyX8_ok : ∀ k, k < 7 → parseFieldDescriptor (TX8 k).2.2.1 = some (tyX8 k) := by decide +kernel
def RX9 : String := "SpoutNews$Told"
def TX9 : u_T := fun k => match k with
  | 0 => ("SpoutNews$Told", "seatWho", "[I", true)
  | 1 => ("SpoutNews$Told", "seatBelow", "[I", true)
  | 2 => ("SpoutNews$Told", "seats", "I", false)
  | 3 => ("SpoutNews$Told", "quarrelOne", "[I", true)
  | 4 => ("SpoutNews$Told", "quarrelOther", "[I", true)
  | 5 => ("SpoutNews$Told", "quarrels", "I", false)
  | 6 => ("SpoutNews$Told", "latinOf", "[I", true)
  | 7 => ("SpoutNews$Told", "masonRows", "[I", true)
  | 8 => ("SpoutNews$Told", "stoneRows", "[I", true)
  | 9 => ("SpoutNews$Told", "droughtRain", "[I", true)
  | 10 => ("SpoutNews$Told", "droughtDays", "I", false)
  | 11 => ("SpoutNews$Told", "chapterMinutes", "[I", true)
  | _ => ("SpoutNews$Told", "chapters", "I", false)
def tyX9 : Nat → FieldType := fun k => match k with
  | 0 => .array .int
  | 1 => .array .int
  | 2 => .int
  | 3 => .array .int
  | 4 => .array .int
  | 5 => .int
  | 6 => .array .int
  | 7 => .array .int
  | 8 => .array .int
  | 9 => .array .int
  | 10 => .int
  | 11 => .array .int
  | _ => .int
theorem nmX9 : ∀ a, a < 13 → ∀ b, b < 13 → a ≠ b → (TX9 a).2.1 ≠ (TX9 b).2.1 := by decide +kernel
theorem tyX9_ok : ∀ k, k < 13 → parseFieldDescriptor (TX9 k).2.2.1 = some (tyX9 k) := by decide +kernel
def RX10 : String := "SpoutNews$World"
def TX10 : u_T := fun k => match k with
  | 0 => ("SpoutNews$World", "thinks", "Z", true)
  | 1 => ("SpoutNews$World", "stone", "[I", true)
  | 2 => ("SpoutNews$World", "side", "[I", true)
  | 3 => ("SpoutNews$World", "lean", "[I", true)
  | 4 => ("SpoutNews$World", "mouth", "[I", true)
  | 5 => ("SpoutNews$World", "dry", "[I", true)
  | 6 => ("SpoutNews$World", "heardCount", "[I", true)
  | 7 => ("SpoutNews$World", "heard", "[I", true)
  | 8 => ("SpoutNews$World", "spouts", "I", false)
  | 9 => ("SpoutNews$World", "knows", "[I", true)
  | 10 => ("SpoutNews$World", "sitterAt", "[I", true)
  | 11 => ("SpoutNews$World", "sitters", "I", false)
  | 12 => ("SpoutNews$World", "jarAt", "[I", true)
  | 13 => ("SpoutNews$World", "caught", "[I", true)
  | 14 => ("SpoutNews$World", "rain", "I", false)
  | 15 => ("SpoutNews$World", "said", "I", false)
  | 16 => ("SpoutNews$World", "wrong", "I", false)
  | 17 => ("SpoutNews$World", "day", "I", false)
  | 18 => ("SpoutNews$World", "draws", "I", false)
  | _ => ("SpoutNews$World", "bookLines", "I", false)
def tyX10 : Nat → FieldType := fun k => match k with
  | 0 => .boolean
  | 1 => .array .int
  | 2 => .array .int
  | 3 => .array .int
  | 4 => .array .int
  | 5 => .array .int
  | 6 => .array .int
  | 7 => .array .int
  | 8 => .int
  | 9 => .array .int
  | 10 => .array .int
  | 11 => .int
  | 12 => .array .int
  | 13 => .array .int
  | 14 => .int
  | 15 => .int
  | 16 => .int
  | 17 => .int
  | 18 => .int
  | _ => .int
theorem nmX10 : ∀ a, a < 20 → ∀ b, b < 20 → a ≠ b → (TX10 a).2.1 ≠ (TX10 b).2.1 := by decide +kernel
theorem tyX10_ok : ∀ k, k < 20 → parseFieldDescriptor (TX10 k).2.2.1 = some (tyX10 k) := by decide +kernel
def RX11 : String := "SpoutNews"
def TX11 : u_T := fun k => match k with
  | 0 => ("SpoutNews", "now", "LSpoutNews$Cathedral;", true)
  | 1 => ("SpoutNews", "kept", "LSpoutNews$Cathedral;", true)
  | 2 => ("SpoutNews", "hasImage", "Z", false)
  | 3 => ("SpoutNews", "past", "LSpoutNews$Past;", true)
  | 4 => ("SpoutNews", "inThought", "LSpoutNews$World;", true)
  | 5 => ("SpoutNews", "dayRun", "LSpoutNews$DayRun;", true)
  | 6 => ("SpoutNews", "thought", "LSpoutNews$Thought;", true)
  | 7 => ("SpoutNews", "tape", "[I", true)
  | 8 => ("SpoutNews", "tapeLength", "I", false)
  | 9 => ("SpoutNews", "tokens", "LSpoutNews$Tokens;", true)
  | 10 => ("SpoutNews", "draft", "LSpoutNews$Texts;", true)
  | _ => ("SpoutNews", "lawReader", "LSpoutNews$LawReader;", true)
def tyX11 : Nat → FieldType := fun k => match k with
  | 0 => .object "SpoutNews$Cathedral"
  | 1 => .object "SpoutNews$Cathedral"
  | 2 => .boolean
  | 3 => .object "SpoutNews$Past"
  | 4 => .object "SpoutNews$World"
  | 5 => .object "SpoutNews$DayRun"
  | 6 => .object "SpoutNews$Thought"
  | 7 => .array .int
  | 8 => .int
  | 9 => .object "SpoutNews$Tokens"
  | 10 => .object "SpoutNews$Texts"
  | _ => .object "SpoutNews$LawReader"
theorem nmX11 : ∀ a, a < 12 → ∀ b, b < 12 → a ≠ b → (TX11 a).2.1 ≠ (TX11 b).2.1 := by decide +kernel
theorem tyX11_ok : ∀ k, k < 12 → parseFieldDescriptor (TX11 k).2.2.1 = some (tyX11 k) := by decide +kernel
def RX12 : String := "SpoutNewsModel"
def TX12 : u_T := fun k => match k with
  | 0 => ("SpoutNewsModel", "said", "I", false)
  | 1 => ("SpoutNewsModel", "now", "[I", true)
  | 2 => ("SpoutNewsModel", "rows", "[I", true)
  | 3 => ("SpoutNewsModel", "undoable", "I", false)
  | 4 => ("SpoutNewsModel", "waiting", "[I", true)
  | 5 => ("SpoutNewsModel", "isThought", "Z", false)
  | 6 => ("SpoutNewsModel", "spouts", "I", false)
  | 7 => ("SpoutNewsModel", "sitters", "I", false)
  | 8 => ("SpoutNewsModel", "stone", "[I", true)
  | 9 => ("SpoutNewsModel", "side", "[I", true)
  | 10 => ("SpoutNewsModel", "lean", "[I", true)
  | 11 => ("SpoutNewsModel", "book", "[I", true)
  | 12 => ("SpoutNewsModel", "tape", "[I", true)
  | 13 => ("SpoutNewsModel", "taped", "I", false)
  | 14 => ("SpoutNewsModel", "spot", "I", false)
  | 15 => ("SpoutNewsModel", "from", "I", false)
  | 16 => ("SpoutNewsModel", "token", "I", false)
  | 17 => ("SpoutNewsModel", "value", "I", false)
  | 18 => ("SpoutNewsModel", "words", "[I", true)
  | 19 => ("SpoutNewsModel", "lineMany", "[I", true)
  | 20 => ("SpoutNewsModel", "lineWord", "[I", true)
  | 21 => ("SpoutNewsModel", "lineFrom", "[I", true)
  | 22 => ("SpoutNewsModel", "lineWhen", "[I", true)
  | 23 => ("SpoutNewsModel", "lineTo", "[I", true)
  | 24 => ("SpoutNewsModel", "op", "[I", true)
  | 25 => ("SpoutNewsModel", "arg", "[I", true)
  | 26 => ("SpoutNewsModel", "which", "I", false)
  | 27 => ("SpoutNewsModel", "codes", "I", false)
  | 28 => ("SpoutNewsModel", "open", "I", false)
  | 29 => ("SpoutNewsModel", "pending", "[I", true)
  | 30 => ("SpoutNewsModel", "pendings", "I", false)
  | 31 => ("SpoutNewsModel", "readFault", "I", false)
  | 32 => ("SpoutNewsModel", "readPlace", "I", false)
  | 33 => ("SpoutNewsModel", "faultKind", "I", false)
  | 34 => ("SpoutNewsModel", "faultPlace", "I", false)
  | 35 => ("SpoutNewsModel", "gutterMany", "I", false)
  | 36 => ("SpoutNewsModel", "intoUp", "[I", true)
  | 37 => ("SpoutNewsModel", "weatherMany", "I", false)
  | 38 => ("SpoutNewsModel", "rains", "[I", true)
  | 39 => ("SpoutNewsModel", "deedMany", "I", false)
  | 40 => ("SpoutNewsModel", "deeds", "[I", true)
  | 41 => ("SpoutNewsModel", "asked", "[I", true)
  | 42 => ("SpoutNewsModel", "stack", "[I", true)
  | 43 => ("SpoutNewsModel", "ledMany", "I", false)
  | 44 => ("SpoutNewsModel", "ledTo", "[I", true)
  | 45 => ("SpoutNewsModel", "ledWord", "[I", true)
  | 46 => ("SpoutNewsModel", "seatMany", "I", false)
  | 47 => ("SpoutNewsModel", "seatCan", "[I", true)
  | 48 => ("SpoutNewsModel", "seatTold", "[I", true)
  | 49 => ("SpoutNewsModel", "seated", "[I", true)
  | 50 => ("SpoutNewsModel", "quarrelMany", "I", false)
  | 51 => ("SpoutNewsModel", "quarrels", "[I", true)
  | 52 => ("SpoutNewsModel", "latinBut", "[I", true)
  | 53 => ("SpoutNewsModel", "masonBut", "[I", true)
  | 54 => ("SpoutNewsModel", "keptBy", "[I", true)
  | 55 => ("SpoutNewsModel", "offered", "[I", true)
  | 56 => ("SpoutNewsModel", "droughtMany", "I", false)
  | 57 => ("SpoutNewsModel", "droughts", "[I", true)
  | 58 => ("SpoutNewsModel", "chapterMany", "I", false)
  | 59 => ("SpoutNewsModel", "chapters", "[I", true)
  | 60 => ("SpoutNewsModel", "readFrom", "[I", true)
  | 61 => ("SpoutNewsModel", "isTaking", "Z", false)
  | 62 => ("SpoutNewsModel", "hasImage", "Z", false)
  | 63 => ("SpoutNewsModel", "keptAt", "I", false)
  | _ => ("SpoutNewsModel", "images", "[I", true)
def tyX12 : Nat → FieldType := fun k => match k with
  | 0 => .int
  | 1 => .array .int
  | 2 => .array .int
  | 3 => .int
  | 4 => .array .int
  | 5 => .boolean
  | 6 => .int
  | 7 => .int
  | 8 => .array .int
  | 9 => .array .int
  | 10 => .array .int
  | 11 => .array .int
  | 12 => .array .int
  | 13 => .int
  | 14 => .int
  | 15 => .int
  | 16 => .int
  | 17 => .int
  | 18 => .array .int
  | 19 => .array .int
  | 20 => .array .int
  | 21 => .array .int
  | 22 => .array .int
  | 23 => .array .int
  | 24 => .array .int
  | 25 => .array .int
  | 26 => .int
  | 27 => .int
  | 28 => .int
  | 29 => .array .int
  | 30 => .int
  | 31 => .int
  | 32 => .int
  | 33 => .int
  | 34 => .int
  | 35 => .int
  | 36 => .array .int
  | 37 => .int
  | 38 => .array .int
  | 39 => .int
  | 40 => .array .int
  | 41 => .array .int
  | 42 => .array .int
  | 43 => .int
  | 44 => .array .int
  | 45 => .array .int
  | 46 => .int
  | 47 => .array .int
  | 48 => .array .int
  | 49 => .array .int
  | 50 => .int
  | 51 => .array .int
  | 52 => .array .int
  | 53 => .array .int
  | 54 => .array .int
  | 55 => .array .int
  | 56 => .int
  | 57 => .array .int
  | 58 => .int
  | 59 => .array .int
  | 60 => .array .int
  | 61 => .boolean
  | 62 => .boolean
  | 63 => .int
  | _ => .array .int
theorem nmX12 : ∀ a, a < 65 → ∀ b, b < 65 → a ≠ b → (TX12 a).2.1 ≠ (TX12 b).2.1 := by decide +kernel
theorem tyX12_ok : ∀ k, k < 65 → parseFieldDescriptor (TX12 k).2.2.1 = some (tyX12 k) := by decide +kernel
abbrev sx_cl : List vw_C := [(RX0, TX0, 4), (RX1, TX1, 4), (RX2, TX2, 3), (RX3, TX3, 10), (RX4, TX4, 4), (RX5, TX5, 3), (RX6, TX6, 11), (RX7, TX7, 13), (RX8, TX8, 7), (RX9, TX9, 13), (RX10, TX10, 20), (RX11, TX11, 12), (RX12, TX12, 65)]
def sx_N (c : Nat) : Nat := (bif Nat.ble 6 c then (bif Nat.ble 9 c then (bif Nat.ble 11 c then (bif Nat.ble 12 c then (bif Nat.beq c 12 then 65 else 0) else (bif Nat.beq c 11 then 12 else 0)) else (bif Nat.ble 10 c then (bif Nat.beq c 10 then 20 else 0) else (bif Nat.beq c 9 then 13 else 0))) else (bif Nat.ble 7 c then (bif Nat.ble 8 c then (bif Nat.beq c 8 then 7 else 0) else (bif Nat.beq c 7 then 13 else 0)) else (bif Nat.beq c 6 then 11 else 0))) else (bif Nat.ble 3 c then (bif Nat.ble 4 c then (bif Nat.ble 5 c then (bif Nat.beq c 5 then 3 else 0) else (bif Nat.beq c 4 then 4 else 0)) else (bif Nat.beq c 3 then 10 else 0)) else (bif Nat.ble 1 c then (bif Nat.ble 2 c then (bif Nat.beq c 2 then 3 else 0) else (bif Nat.beq c 1 then 4 else 0)) else (bif Nat.beq c 0 then 4 else 0))))
def sx_T (c : Nat) : u_T := (bif Nat.ble 6 c then (bif Nat.ble 9 c then (bif Nat.ble 11 c then (bif Nat.ble 12 c then (bif Nat.beq c 12 then TX12 else TX0) else (bif Nat.beq c 11 then TX11 else TX0)) else (bif Nat.ble 10 c then (bif Nat.beq c 10 then TX10 else TX0) else (bif Nat.beq c 9 then TX9 else TX0))) else (bif Nat.ble 7 c then (bif Nat.ble 8 c then (bif Nat.beq c 8 then TX8 else TX0) else (bif Nat.beq c 7 then TX7 else TX0)) else (bif Nat.beq c 6 then TX6 else TX0))) else (bif Nat.ble 3 c then (bif Nat.ble 4 c then (bif Nat.ble 5 c then (bif Nat.beq c 5 then TX5 else TX0) else (bif Nat.beq c 4 then TX4 else TX0)) else (bif Nat.beq c 3 then TX3 else TX0)) else (bif Nat.ble 1 c then (bif Nat.ble 2 c then (bif Nat.beq c 2 then TX2 else TX0) else (bif Nat.beq c 1 then TX1 else TX0)) else (bif Nat.beq c 0 then TX0 else TX0))))
def sx_ty (c : Nat) : Nat → FieldType := (bif Nat.ble 6 c then (bif Nat.ble 9 c then (bif Nat.ble 11 c then (bif Nat.ble 12 c then (bif Nat.beq c 12 then tyX12 else tyX0) else (bif Nat.beq c 11 then tyX11 else tyX0)) else (bif Nat.ble 10 c then (bif Nat.beq c 10 then tyX10 else tyX0) else (bif Nat.beq c 9 then tyX9 else tyX0))) else (bif Nat.ble 7 c then (bif Nat.ble 8 c then (bif Nat.beq c 8 then tyX8 else tyX0) else (bif Nat.beq c 7 then tyX7 else tyX0)) else (bif Nat.beq c 6 then tyX6 else tyX0))) else (bif Nat.ble 3 c then (bif Nat.ble 4 c then (bif Nat.ble 5 c then (bif Nat.beq c 5 then tyX5 else tyX0) else (bif Nat.beq c 4 then tyX4 else tyX0)) else (bif Nat.beq c 3 then tyX3 else tyX0)) else (bif Nat.ble 1 c then (bif Nat.ble 2 c then (bif Nat.beq c 2 then tyX2 else tyX0) else (bif Nat.beq c 1 then tyX1 else tyX0)) else (bif Nat.beq c 0 then tyX0 else tyX0))))
def sx_isI (c k : Nat) : Bool := (bif Nat.ble 6 c then (bif Nat.ble 9 c then (bif Nat.ble 11 c then (bif Nat.ble 12 c then (bif Nat.beq c 12 then (bif Nat.ble 31 k then (bif Nat.ble 43 k then (bif Nat.ble 58 k then (bif Nat.ble 62 k then (bif Nat.ble 63 k then (bif Nat.beq k 63 then true else false) else (bif Nat.beq k 62 then true else false)) else (bif Nat.ble 61 k then (bif Nat.beq k 61 then true else false) else (bif Nat.beq k 58 then true else false))) else (bif Nat.ble 50 k then (bif Nat.ble 56 k then (bif Nat.beq k 56 then true else false) else (bif Nat.beq k 50 then true else false)) else (bif Nat.ble 46 k then (bif Nat.beq k 46 then true else false) else (bif Nat.beq k 43 then true else false)))) else (bif Nat.ble 34 k then (bif Nat.ble 37 k then (bif Nat.ble 39 k then (bif Nat.beq k 39 then true else false) else (bif Nat.beq k 37 then true else false)) else (bif Nat.ble 35 k then (bif Nat.beq k 35 then true else false) else (bif Nat.beq k 34 then true else false))) else (bif Nat.ble 32 k then (bif Nat.ble 33 k then (bif Nat.beq k 33 then true else false) else (bif Nat.beq k 32 then true else false)) else (bif Nat.beq k 31 then true else false)))) else (bif Nat.ble 15 k then (bif Nat.ble 26 k then (bif Nat.ble 28 k then (bif Nat.ble 30 k then (bif Nat.beq k 30 then true else false) else (bif Nat.beq k 28 then true else false)) else (bif Nat.ble 27 k then (bif Nat.beq k 27 then true else false) else (bif Nat.beq k 26 then true else false))) else (bif Nat.ble 16 k then (bif Nat.ble 17 k then (bif Nat.beq k 17 then true else false) else (bif Nat.beq k 16 then true else false)) else (bif Nat.beq k 15 then true else false))) else (bif Nat.ble 6 k then (bif Nat.ble 13 k then (bif Nat.ble 14 k then (bif Nat.beq k 14 then true else false) else (bif Nat.beq k 13 then true else false)) else (bif Nat.ble 7 k then (bif Nat.beq k 7 then true else false) else (bif Nat.beq k 6 then true else false))) else (bif Nat.ble 3 k then (bif Nat.ble 5 k then (bif Nat.beq k 5 then true else false) else (bif Nat.beq k 3 then true else false)) else (bif Nat.beq k 0 then true else false))))) else false) else (bif Nat.beq c 11 then (bif Nat.ble 8 k then (bif Nat.beq k 8 then true else false) else (bif Nat.beq k 2 then true else false)) else false)) else (bif Nat.ble 10 c then (bif Nat.beq c 10 then (bif Nat.ble 15 k then (bif Nat.ble 17 k then (bif Nat.ble 18 k then (bif Nat.ble 19 k then (bif Nat.beq k 19 then true else false) else (bif Nat.beq k 18 then true else false)) else (bif Nat.beq k 17 then true else false)) else (bif Nat.ble 16 k then (bif Nat.beq k 16 then true else false) else (bif Nat.beq k 15 then true else false))) else (bif Nat.ble 11 k then (bif Nat.ble 14 k then (bif Nat.beq k 14 then true else false) else (bif Nat.beq k 11 then true else false)) else (bif Nat.ble 8 k then (bif Nat.beq k 8 then true else false) else (bif Nat.beq k 0 then true else false)))) else false) else (bif Nat.beq c 9 then (bif Nat.ble 10 k then (bif Nat.ble 12 k then (bif Nat.beq k 12 then true else false) else (bif Nat.beq k 10 then true else false)) else (bif Nat.ble 5 k then (bif Nat.beq k 5 then true else false) else (bif Nat.beq k 2 then true else false))) else false))) else (bif Nat.ble 7 c then (bif Nat.ble 8 c then (bif Nat.beq c 8 then (bif Nat.ble 5 k then (bif Nat.ble 6 k then (bif Nat.beq k 6 then true else false) else (bif Nat.beq k 5 then true else false)) else (bif Nat.ble 4 k then (bif Nat.beq k 4 then true else false) else (bif Nat.beq k 3 then true else false))) else false) else (bif Nat.beq c 7 then (bif Nat.ble 6 k then (bif Nat.ble 11 k then (bif Nat.beq k 11 then true else false) else (bif Nat.beq k 6 then true else false)) else (bif Nat.ble 5 k then (bif Nat.beq k 5 then true else false) else (bif Nat.beq k 3 then true else false))) else false)) else (bif Nat.beq c 6 then (bif Nat.ble 5 k then (bif Nat.ble 10 k then (bif Nat.beq k 10 then true else false) else (bif Nat.beq k 5 then true else false)) else (bif Nat.beq k 2 then true else false)) else false))) else (bif Nat.ble 3 c then (bif Nat.ble 4 c then (bif Nat.ble 5 c then (bif Nat.beq c 5 then (bif Nat.ble 2 k then (bif Nat.beq k 2 then true else false) else (bif Nat.beq k 1 then true else false)) else false) else (bif Nat.beq c 4 then (bif Nat.ble 2 k then (bif Nat.ble 3 k then (bif Nat.beq k 3 then true else false) else (bif Nat.beq k 2 then true else false)) else (bif Nat.beq k 1 then true else false)) else false)) else (bif Nat.beq c 3 then (bif Nat.ble 7 k then (bif Nat.beq k 7 then true else false) else (bif Nat.beq k 2 then true else false)) else false)) else (bif Nat.ble 1 c then (bif Nat.ble 2 c then (bif Nat.beq c 2 then (bif Nat.beq k 2 then true else false) else false) else (bif Nat.beq c 1 then false else false)) else (bif Nat.beq c 0 then false else false))))
def sx_isZ (c k : Nat) : Bool := (bif Nat.ble 6 c then (bif Nat.ble 9 c then (bif Nat.ble 11 c then (bif Nat.ble 12 c then (bif Nat.beq c 12 then (bif Nat.ble 61 k then (bif Nat.ble 62 k then (bif Nat.beq k 62 then true else false) else (bif Nat.beq k 61 then true else false)) else (bif Nat.beq k 5 then true else false)) else false) else (bif Nat.beq c 11 then (bif Nat.beq k 2 then true else false) else false)) else (bif Nat.ble 10 c then (bif Nat.beq c 10 then (bif Nat.beq k 0 then true else false) else false) else (bif Nat.beq c 9 then false else false))) else (bif Nat.ble 7 c then (bif Nat.ble 8 c then (bif Nat.beq c 8 then false else false) else (bif Nat.beq c 7 then false else false)) else (bif Nat.beq c 6 then false else false))) else (bif Nat.ble 3 c then (bif Nat.ble 4 c then (bif Nat.ble 5 c then (bif Nat.beq c 5 then false else false) else (bif Nat.beq c 4 then false else false)) else (bif Nat.beq c 3 then false else false)) else (bif Nat.ble 1 c then (bif Nat.ble 2 c then (bif Nat.beq c 2 then false else false) else (bif Nat.beq c 1 then false else false)) else (bif Nat.beq c 0 then false else false))))
def sx_isF (c k : Nat) : Bool := (bif Nat.ble 6 c then (bif Nat.ble 9 c then (bif Nat.ble 11 c then (bif Nat.ble 12 c then (bif Nat.beq c 12 then (bif Nat.ble 38 k then (bif Nat.ble 51 k then (bif Nat.ble 55 k then (bif Nat.ble 59 k then (bif Nat.ble 60 k then (bif Nat.ble 64 k then (bif Nat.beq k 64 then true else false) else (bif Nat.beq k 60 then true else false)) else (bif Nat.beq k 59 then true else false)) else (bif Nat.ble 57 k then (bif Nat.beq k 57 then true else false) else (bif Nat.beq k 55 then true else false))) else (bif Nat.ble 53 k then (bif Nat.ble 54 k then (bif Nat.beq k 54 then true else false) else (bif Nat.beq k 53 then true else false)) else (bif Nat.ble 52 k then (bif Nat.beq k 52 then true else false) else (bif Nat.beq k 51 then true else false)))) else (bif Nat.ble 44 k then (bif Nat.ble 47 k then (bif Nat.ble 48 k then (bif Nat.ble 49 k then (bif Nat.beq k 49 then true else false) else (bif Nat.beq k 48 then true else false)) else (bif Nat.beq k 47 then true else false)) else (bif Nat.ble 45 k then (bif Nat.beq k 45 then true else false) else (bif Nat.beq k 44 then true else false))) else (bif Nat.ble 41 k then (bif Nat.ble 42 k then (bif Nat.beq k 42 then true else false) else (bif Nat.beq k 41 then true else false)) else (bif Nat.ble 40 k then (bif Nat.beq k 40 then true else false) else (bif Nat.beq k 38 then true else false))))) else (bif Nat.ble 19 k then (bif Nat.ble 23 k then (bif Nat.ble 25 k then (bif Nat.ble 29 k then (bif Nat.ble 36 k then (bif Nat.beq k 36 then true else false) else (bif Nat.beq k 29 then true else false)) else (bif Nat.beq k 25 then true else false)) else (bif Nat.ble 24 k then (bif Nat.beq k 24 then true else false) else (bif Nat.beq k 23 then true else false))) else (bif Nat.ble 21 k then (bif Nat.ble 22 k then (bif Nat.beq k 22 then true else false) else (bif Nat.beq k 21 then true else false)) else (bif Nat.ble 20 k then (bif Nat.beq k 20 then true else false) else (bif Nat.beq k 19 then true else false)))) else (bif Nat.ble 9 k then (bif Nat.ble 11 k then (bif Nat.ble 12 k then (bif Nat.ble 18 k then (bif Nat.beq k 18 then true else false) else (bif Nat.beq k 12 then true else false)) else (bif Nat.beq k 11 then true else false)) else (bif Nat.ble 10 k then (bif Nat.beq k 10 then true else false) else (bif Nat.beq k 9 then true else false))) else (bif Nat.ble 4 k then (bif Nat.ble 8 k then (bif Nat.beq k 8 then true else false) else (bif Nat.beq k 4 then true else false)) else (bif Nat.ble 2 k then (bif Nat.beq k 2 then true else false) else (bif Nat.beq k 1 then true else false)))))) else false) else (bif Nat.beq c 11 then (bif Nat.ble 6 k then (bif Nat.ble 9 k then (bif Nat.ble 10 k then (bif Nat.ble 11 k then (bif Nat.beq k 11 then true else false) else (bif Nat.beq k 10 then true else false)) else (bif Nat.beq k 9 then true else false)) else (bif Nat.ble 7 k then (bif Nat.beq k 7 then true else false) else (bif Nat.beq k 6 then true else false))) else (bif Nat.ble 3 k then (bif Nat.ble 4 k then (bif Nat.ble 5 k then (bif Nat.beq k 5 then true else false) else (bif Nat.beq k 4 then true else false)) else (bif Nat.beq k 3 then true else false)) else (bif Nat.ble 1 k then (bif Nat.beq k 1 then true else false) else (bif Nat.beq k 0 then true else false)))) else false)) else (bif Nat.ble 10 c then (bif Nat.beq c 10 then (bif Nat.ble 6 k then (bif Nat.ble 10 k then (bif Nat.ble 12 k then (bif Nat.ble 13 k then (bif Nat.beq k 13 then true else false) else (bif Nat.beq k 12 then true else false)) else (bif Nat.beq k 10 then true else false)) else (bif Nat.ble 7 k then (bif Nat.ble 9 k then (bif Nat.beq k 9 then true else false) else (bif Nat.beq k 7 then true else false)) else (bif Nat.beq k 6 then true else false))) else (bif Nat.ble 3 k then (bif Nat.ble 4 k then (bif Nat.ble 5 k then (bif Nat.beq k 5 then true else false) else (bif Nat.beq k 4 then true else false)) else (bif Nat.beq k 3 then true else false)) else (bif Nat.ble 1 k then (bif Nat.ble 2 k then (bif Nat.beq k 2 then true else false) else (bif Nat.beq k 1 then true else false)) else (bif Nat.beq k 0 then true else false)))) else false) else (bif Nat.beq c 9 then (bif Nat.ble 6 k then (bif Nat.ble 8 k then (bif Nat.ble 9 k then (bif Nat.ble 11 k then (bif Nat.beq k 11 then true else false) else (bif Nat.beq k 9 then true else false)) else (bif Nat.beq k 8 then true else false)) else (bif Nat.ble 7 k then (bif Nat.beq k 7 then true else false) else (bif Nat.beq k 6 then true else false))) else (bif Nat.ble 3 k then (bif Nat.ble 4 k then (bif Nat.beq k 4 then true else false) else (bif Nat.beq k 3 then true else false)) else (bif Nat.ble 1 k then (bif Nat.beq k 1 then true else false) else (bif Nat.beq k 0 then true else false)))) else false))) else (bif Nat.ble 7 c then (bif Nat.ble 8 c then (bif Nat.beq c 8 then (bif Nat.ble 1 k then (bif Nat.ble 2 k then (bif Nat.beq k 2 then true else false) else (bif Nat.beq k 1 then true else false)) else (bif Nat.beq k 0 then true else false)) else false) else (bif Nat.beq c 7 then (bif Nat.ble 7 k then (bif Nat.ble 9 k then (bif Nat.ble 10 k then (bif Nat.ble 12 k then (bif Nat.beq k 12 then true else false) else (bif Nat.beq k 10 then true else false)) else (bif Nat.beq k 9 then true else false)) else (bif Nat.ble 8 k then (bif Nat.beq k 8 then true else false) else (bif Nat.beq k 7 then true else false))) else (bif Nat.ble 2 k then (bif Nat.ble 4 k then (bif Nat.beq k 4 then true else false) else (bif Nat.beq k 2 then true else false)) else (bif Nat.ble 1 k then (bif Nat.beq k 1 then true else false) else (bif Nat.beq k 0 then true else false)))) else false)) else (bif Nat.beq c 6 then (bif Nat.ble 6 k then (bif Nat.ble 8 k then (bif Nat.ble 9 k then (bif Nat.beq k 9 then true else false) else (bif Nat.beq k 8 then true else false)) else (bif Nat.ble 7 k then (bif Nat.beq k 7 then true else false) else (bif Nat.beq k 6 then true else false))) else (bif Nat.ble 3 k then (bif Nat.ble 4 k then (bif Nat.beq k 4 then true else false) else (bif Nat.beq k 3 then true else false)) else (bif Nat.ble 1 k then (bif Nat.beq k 1 then true else false) else (bif Nat.beq k 0 then true else false)))) else false))) else (bif Nat.ble 3 c then (bif Nat.ble 4 c then (bif Nat.ble 5 c then (bif Nat.beq c 5 then (bif Nat.beq k 0 then true else false) else false) else (bif Nat.beq c 4 then (bif Nat.beq k 0 then true else false) else false)) else (bif Nat.beq c 3 then (bif Nat.ble 5 k then (bif Nat.ble 8 k then (bif Nat.ble 9 k then (bif Nat.beq k 9 then true else false) else (bif Nat.beq k 8 then true else false)) else (bif Nat.ble 6 k then (bif Nat.beq k 6 then true else false) else (bif Nat.beq k 5 then true else false))) else (bif Nat.ble 3 k then (bif Nat.ble 4 k then (bif Nat.beq k 4 then true else false) else (bif Nat.beq k 3 then true else false)) else (bif Nat.ble 1 k then (bif Nat.beq k 1 then true else false) else (bif Nat.beq k 0 then true else false)))) else false)) else (bif Nat.ble 1 c then (bif Nat.ble 2 c then (bif Nat.beq c 2 then (bif Nat.ble 1 k then (bif Nat.beq k 1 then true else false) else (bif Nat.beq k 0 then true else false)) else false) else (bif Nat.beq c 1 then (bif Nat.ble 2 k then (bif Nat.ble 3 k then (bif Nat.beq k 3 then true else false) else (bif Nat.beq k 2 then true else false)) else (bif Nat.ble 1 k then (bif Nat.beq k 1 then true else false) else (bif Nat.beq k 0 then true else false))) else false)) else (bif Nat.beq c 0 then (bif Nat.ble 2 k then (bif Nat.ble 3 k then (bif Nat.beq k 3 then true else false) else (bif Nat.beq k 2 then true else false)) else (bif Nat.ble 1 k then (bif Nat.beq k 1 then true else false) else (bif Nat.beq k 0 then true else false))) else false))))
def sx_cn (c : Nat) : String := (bif Nat.ble 11 c then (bif Nat.ble 16 c then (bif Nat.ble 19 c then (bif Nat.ble 20 c then (bif Nat.ble 21 c then (bif Nat.beq c 21 then "jdk/internal/util/Preconditions" else "") else (bif Nat.beq c 20 then "java/util/Arrays" else "")) else (bif Nat.beq c 19 then "java/lang/StringUTF16" else "")) else (bif Nat.ble 17 c then (bif Nat.ble 18 c then (bif Nat.beq c 18 then "java/lang/StringLatin1" else "") else (bif Nat.beq c 17 then "java/lang/String" else "")) else (bif Nat.beq c 16 then "java/lang/Object" else ""))) else (bif Nat.ble 13 c then (bif Nat.ble 14 c then (bif Nat.ble 15 c then (bif Nat.beq c 15 then "java/lang/Math" else "") else (bif Nat.beq c 14 then "java/lang/Integer" else "")) else (bif Nat.beq c 13 then "SpoutNewsLaw" else "")) else (bif Nat.ble 12 c then (bif Nat.beq c 12 then RX12 else "") else (bif Nat.beq c 11 then RX11 else "")))) else (bif Nat.ble 5 c then (bif Nat.ble 8 c then (bif Nat.ble 9 c then (bif Nat.ble 10 c then (bif Nat.beq c 10 then RX10 else "") else (bif Nat.beq c 9 then RX9 else "")) else (bif Nat.beq c 8 then RX8 else "")) else (bif Nat.ble 6 c then (bif Nat.ble 7 c then (bif Nat.beq c 7 then RX7 else "") else (bif Nat.beq c 6 then RX6 else "")) else (bif Nat.beq c 5 then RX5 else ""))) else (bif Nat.ble 2 c then (bif Nat.ble 3 c then (bif Nat.ble 4 c then (bif Nat.beq c 4 then RX4 else "") else (bif Nat.beq c 3 then RX3 else "")) else (bif Nat.beq c 2 then RX2 else "")) else (bif Nat.ble 1 c then (bif Nat.beq c 1 then RX1 else "") else (bif Nat.beq c 0 then RX0 else "")))))
def sx_tb : List Cond := lw_tbl.filter goodWord
theorem sx_tb_in {w : Cond} (i : Nat) (h : lw_tbl[i]? = some w) (hg : goodWord w = true) : w ∈ sx_tb := List.mem_filter.mpr ⟨List.mem_of_getElem? h, hg⟩
set_option maxRecDepth 100000 in
theorem inX0 : ∀ w ∈ u_ws RX0 TX0 4, w ∈ sx_tb := by
  have h : ∀ e ∈ ([(302, 0), (304, 1), (306, 2), (308, 3)] : List (Nat × Nat)), lw_tbl[e.1]? = some (u_lay RX0 TX0 e.2) := by decide +kernel
  intro w hw
  obtain ⟨k, hk, rfl⟩ := List.mem_map.mp hw
  have hk := List.mem_range.mp hk
  have h2 : ∃ p, (p, k) ∈ ([(302, 0), (304, 1), (306, 2), (308, 3)] : List (Nat × Nat)) := by
    have h3 : ∀ k, k < 4 → ([(302, 0), (304, 1), (306, 2), (308, 3)] : List (Nat × Nat)).any (fun e => e.2 == k) = true := by decide +kernel
    obtain ⟨e, he, hq⟩ := List.any_eq_true.mp (h3 k hk)
    exact ⟨e.1, by rw [← (beq_iff_eq.mp hq)]; exact he⟩
  obtain ⟨p, hp⟩ := h2
  exact sx_tb_in p (h _ hp) (by unfold u_lay; split <;> rfl)
set_option maxRecDepth 100000 in
theorem inX1 : ∀ w ∈ u_ws RX1 TX1 4, w ∈ sx_tb := by
  have h : ∀ e ∈ ([(478, 0), (480, 1), (482, 2), (484, 3)] : List (Nat × Nat)), lw_tbl[e.1]? = some (u_lay RX1 TX1 e.2) := by decide +kernel
  intro w hw
  obtain ⟨k, hk, rfl⟩ := List.mem_map.mp hw
  have hk := List.mem_range.mp hk
  have h2 : ∃ p, (p, k) ∈ ([(478, 0), (480, 1), (482, 2), (484, 3)] : List (Nat × Nat)) := by
    have h3 : ∀ k, k < 4 → ([(478, 0), (480, 1), (482, 2), (484, 3)] : List (Nat × Nat)).any (fun e => e.2 == k) = true := by decide +kernel
    obtain ⟨e, he, hq⟩ := List.any_eq_true.mp (h3 k hk)
    exact ⟨e.1, by rw [← (beq_iff_eq.mp hq)]; exact he⟩
  obtain ⟨p, hp⟩ := h2
  exact sx_tb_in p (h _ hp) (by unfold u_lay; split <;> rfl)
set_option maxRecDepth 100000 in
theorem inX2 : ∀ w ∈ u_ws RX2 TX2 3, w ∈ sx_tb := by
  have h : ∀ e ∈ ([(518, 0), (520, 1), (522, 2)] : List (Nat × Nat)), lw_tbl[e.1]? = some (u_lay RX2 TX2 e.2) := by decide +kernel
  intro w hw
  obtain ⟨k, hk, rfl⟩ := List.mem_map.mp hw
  have hk := List.mem_range.mp hk
  have h2 : ∃ p, (p, k) ∈ ([(518, 0), (520, 1), (522, 2)] : List (Nat × Nat)) := by
    have h3 : ∀ k, k < 3 → ([(518, 0), (520, 1), (522, 2)] : List (Nat × Nat)).any (fun e => e.2 == k) = true := by decide +kernel
    obtain ⟨e, he, hq⟩ := List.any_eq_true.mp (h3 k hk)
    exact ⟨e.1, by rw [← (beq_iff_eq.mp hq)]; exact he⟩
  obtain ⟨p, hp⟩ := h2
  exact sx_tb_in p (h _ hp) (by unfold u_lay; split <;> rfl)
set_option maxRecDepth 100000 in
theorem inX3 : ∀ w ∈ u_ws RX3 TX3 10, w ∈ sx_tb := by
  have h : ∀ e ∈ ([(335, 0), (337, 1), (339, 2), (341, 3), (343, 4), (345, 5), (347, 6), (349, 7), (351, 8), (353, 9)] : List (Nat × Nat)), lw_tbl[e.1]? = some (u_lay RX3 TX3 e.2) := by decide +kernel
  intro w hw
  obtain ⟨k, hk, rfl⟩ := List.mem_map.mp hw
  have hk := List.mem_range.mp hk
  have h2 : ∃ p, (p, k) ∈ ([(335, 0), (337, 1), (339, 2), (341, 3), (343, 4), (345, 5), (347, 6), (349, 7), (351, 8), (353, 9)] : List (Nat × Nat)) := by
    have h3 : ∀ k, k < 10 → ([(335, 0), (337, 1), (339, 2), (341, 3), (343, 4), (345, 5), (347, 6), (349, 7), (351, 8), (353, 9)] : List (Nat × Nat)).any (fun e => e.2 == k) = true := by decide +kernel
    obtain ⟨e, he, hq⟩ := List.any_eq_true.mp (h3 k hk)
    exact ⟨e.1, by rw [← (beq_iff_eq.mp hq)]; exact he⟩
  obtain ⟨p, hp⟩ := h2
  exact sx_tb_in p (h _ hp) (by unfold u_lay; split <;> rfl)
set_option maxRecDepth 100000 in
theorem inX4 : ∀ w ∈ u_ws RX4 TX4 4, w ∈ sx_tb := by
  have h : ∀ e ∈ ([(618, 0), (620, 1), (622, 2), (624, 3)] : List (Nat × Nat)), lw_tbl[e.1]? = some (u_lay RX4 TX4 e.2) := by decide +kernel
  intro w hw
  obtain ⟨k, hk, rfl⟩ := List.mem_map.mp hw
  have hk := List.mem_range.mp hk
  have h2 : ∃ p, (p, k) ∈ ([(618, 0), (620, 1), (622, 2), (624, 3)] : List (Nat × Nat)) := by
    have h3 : ∀ k, k < 4 → ([(618, 0), (620, 1), (622, 2), (624, 3)] : List (Nat × Nat)).any (fun e => e.2 == k) = true := by decide +kernel
    obtain ⟨e, he, hq⟩ := List.any_eq_true.mp (h3 k hk)
    exact ⟨e.1, by rw [← (beq_iff_eq.mp hq)]; exact he⟩
  obtain ⟨p, hp⟩ := h2
  exact sx_tb_in p (h _ hp) (by unfold u_lay; split <;> rfl)
set_option maxRecDepth 100000 in
theorem inX5 : ∀ w ∈ u_ws RX5 TX5 3, w ∈ sx_tb := by
  have h : ∀ e ∈ ([(500, 0), (502, 1), (504, 2)] : List (Nat × Nat)), lw_tbl[e.1]? = some (u_lay RX5 TX5 e.2) := by decide +kernel
  intro w hw
  obtain ⟨k, hk, rfl⟩ := List.mem_map.mp hw
  have hk := List.mem_range.mp hk
  have h2 : ∃ p, (p, k) ∈ ([(500, 0), (502, 1), (504, 2)] : List (Nat × Nat)) := by
    have h3 : ∀ k, k < 3 → ([(500, 0), (502, 1), (504, 2)] : List (Nat × Nat)).any (fun e => e.2 == k) = true := by decide +kernel
    obtain ⟨e, he, hq⟩ := List.any_eq_true.mp (h3 k hk)
    exact ⟨e.1, by rw [← (beq_iff_eq.mp hq)]; exact he⟩
  obtain ⟨p, hp⟩ := h2
  exact sx_tb_in p (h _ hp) (by unfold u_lay; split <;> rfl)
set_option maxRecDepth 100000 in
theorem inX6 : ∀ w ∈ u_ws RX6 TX6 11, w ∈ sx_tb := by
  have h : ∀ e ∈ ([(378, 0), (380, 1), (382, 2), (384, 3), (386, 4), (388, 5), (390, 6), (392, 7), (394, 8), (396, 9), (398, 10)] : List (Nat × Nat)), lw_tbl[e.1]? = some (u_lay RX6 TX6 e.2) := by decide +kernel
  intro w hw
  obtain ⟨k, hk, rfl⟩ := List.mem_map.mp hw
  have hk := List.mem_range.mp hk
  have h2 : ∃ p, (p, k) ∈ ([(378, 0), (380, 1), (382, 2), (384, 3), (386, 4), (388, 5), (390, 6), (392, 7), (394, 8), (396, 9), (398, 10)] : List (Nat × Nat)) := by
    have h3 : ∀ k, k < 11 → ([(378, 0), (380, 1), (382, 2), (384, 3), (386, 4), (388, 5), (390, 6), (392, 7), (394, 8), (396, 9), (398, 10)] : List (Nat × Nat)).any (fun e => e.2 == k) = true := by decide +kernel
    obtain ⟨e, he, hq⟩ := List.any_eq_true.mp (h3 k hk)
    exact ⟨e.1, by rw [← (beq_iff_eq.mp hq)]; exact he⟩
  obtain ⟨p, hp⟩ := h2
  exact sx_tb_in p (h _ hp) (by unfold u_lay; split <;> rfl)
set_option maxRecDepth 100000 in
theorem inX7 : ∀ w ∈ u_ws RX7 TX7 13, w ∈ sx_tb := by
  have h : ∀ e ∈ ([(549, 0), (551, 1), (553, 2), (555, 3), (557, 4), (559, 5), (561, 6), (563, 7), (565, 8), (567, 9), (569, 10), (571, 11), (573, 12)] : List (Nat × Nat)), lw_tbl[e.1]? = some (u_lay RX7 TX7 e.2) := by decide +kernel
  intro w hw
  obtain ⟨k, hk, rfl⟩ := List.mem_map.mp hw
  have hk := List.mem_range.mp hk
  have h2 : ∃ p, (p, k) ∈ ([(549, 0), (551, 1), (553, 2), (555, 3), (557, 4), (559, 5), (561, 6), (563, 7), (565, 8), (567, 9), (569, 10), (571, 11), (573, 12)] : List (Nat × Nat)) := by
    have h3 : ∀ k, k < 13 → ([(549, 0), (551, 1), (553, 2), (555, 3), (557, 4), (559, 5), (561, 6), (563, 7), (565, 8), (567, 9), (569, 10), (571, 11), (573, 12)] : List (Nat × Nat)).any (fun e => e.2 == k) = true := by decide +kernel
    obtain ⟨e, he, hq⟩ := List.any_eq_true.mp (h3 k hk)
    exact ⟨e.1, by rw [← (beq_iff_eq.mp hq)]; exact he⟩
  obtain ⟨p, hp⟩ := h2
  exact sx_tb_in p (h _ hp) (by unfold u_lay; split <;> rfl)
set_option maxRecDepth 100000 in
theorem inX8 : ∀ w ∈ u_ws RX8 TX8 7, w ∈ sx_tb := by
  have h : ∀ e ∈ ([(591, 0), (593, 1), (595, 2), (597, 3), (599, 4), (601, 5), (603, 6)] : List (Nat × Nat)), lw_tbl[e.1]? = some (u_lay RX8 TX8 e.2) := by decide +kernel
  intro w hw
  obtain ⟨k, hk, rfl⟩ := List.mem_map.mp hw
  have hk := List.mem_range.mp hk
  have h2 : ∃ p, (p, k) ∈ ([(591, 0), (593, 1), (595, 2), (597, 3), (599, 4), (601, 5), (603, 6)] : List (Nat × Nat)) := by
    have h3 : ∀ k, k < 7 → ([(591, 0), (593, 1), (595, 2), (597, 3), (599, 4), (601, 5), (603, 6)] : List (Nat × Nat)).any (fun e => e.2 == k) = true := by decide +kernel
    obtain ⟨e, he, hq⟩ := List.any_eq_true.mp (h3 k hk)
    exact ⟨e.1, by rw [← (beq_iff_eq.mp hq)]; exact he⟩
  obtain ⟨p, hp⟩ := h2
  exact sx_tb_in p (h _ hp) (by unfold u_lay; split <;> rfl)
set_option maxRecDepth 100000 in
theorem inX9 : ∀ w ∈ u_ws RX9 TX9 13, w ∈ sx_tb := by
  have h : ∀ e ∈ ([(443, 0), (445, 1), (447, 2), (449, 3), (451, 4), (453, 5), (455, 6), (457, 7), (459, 8), (461, 9), (463, 10), (465, 11), (467, 12)] : List (Nat × Nat)), lw_tbl[e.1]? = some (u_lay RX9 TX9 e.2) := by decide +kernel
  intro w hw
  obtain ⟨k, hk, rfl⟩ := List.mem_map.mp hw
  have hk := List.mem_range.mp hk
  have h2 : ∃ p, (p, k) ∈ ([(443, 0), (445, 1), (447, 2), (449, 3), (451, 4), (453, 5), (455, 6), (457, 7), (459, 8), (461, 9), (463, 10), (465, 11), (467, 12)] : List (Nat × Nat)) := by
    have h3 : ∀ k, k < 13 → ([(443, 0), (445, 1), (447, 2), (449, 3), (451, 4), (453, 5), (455, 6), (457, 7), (459, 8), (461, 9), (463, 10), (465, 11), (467, 12)] : List (Nat × Nat)).any (fun e => e.2 == k) = true := by decide +kernel
    obtain ⟨e, he, hq⟩ := List.any_eq_true.mp (h3 k hk)
    exact ⟨e.1, by rw [← (beq_iff_eq.mp hq)]; exact he⟩
  obtain ⟨p, hp⟩ := h2
  exact sx_tb_in p (h _ hp) (by unfold u_lay; split <;> rfl)
set_option maxRecDepth 100000 in
theorem inX10 : ∀ w ∈ u_ws RX10 TX10 20, w ∈ sx_tb := by
  have h : ∀ e ∈ ([(246, 0), (248, 1), (250, 2), (252, 3), (254, 4), (256, 5), (258, 6), (260, 7), (262, 8), (264, 9), (266, 10), (268, 11), (270, 12), (272, 13), (274, 14), (276, 15), (278, 16), (280, 17), (282, 18), (284, 19)] : List (Nat × Nat)), lw_tbl[e.1]? = some (u_lay RX10 TX10 e.2) := by decide +kernel
  intro w hw
  obtain ⟨k, hk, rfl⟩ := List.mem_map.mp hw
  have hk := List.mem_range.mp hk
  have h2 : ∃ p, (p, k) ∈ ([(246, 0), (248, 1), (250, 2), (252, 3), (254, 4), (256, 5), (258, 6), (260, 7), (262, 8), (264, 9), (266, 10), (268, 11), (270, 12), (272, 13), (274, 14), (276, 15), (278, 16), (280, 17), (282, 18), (284, 19)] : List (Nat × Nat)) := by
    have h3 : ∀ k, k < 20 → ([(246, 0), (248, 1), (250, 2), (252, 3), (254, 4), (256, 5), (258, 6), (260, 7), (262, 8), (264, 9), (266, 10), (268, 11), (270, 12), (272, 13), (274, 14), (276, 15), (278, 16), (280, 17), (282, 18), (284, 19)] : List (Nat × Nat)).any (fun e => e.2 == k) = true := by decide +kernel
    obtain ⟨e, he, hq⟩ := List.any_eq_true.mp (h3 k hk)
    exact ⟨e.1, by rw [← (beq_iff_eq.mp hq)]; exact he⟩
  obtain ⟨p, hp⟩ := h2
  exact sx_tb_in p (h _ hp) (by unfold u_lay; split <;> rfl)
set_option maxRecDepth 100000 in
theorem inX11 : ∀ w ∈ u_ws RX11 TX11 12, w ∈ sx_tb := by
  have h : ∀ e ∈ ([(639, 0), (641, 1), (643, 2), (645, 3), (647, 4), (649, 5), (651, 6), (653, 7), (655, 8), (657, 9), (659, 10), (661, 11)] : List (Nat × Nat)), lw_tbl[e.1]? = some (u_lay RX11 TX11 e.2) := by decide +kernel
  intro w hw
  obtain ⟨k, hk, rfl⟩ := List.mem_map.mp hw
  have hk := List.mem_range.mp hk
  have h2 : ∃ p, (p, k) ∈ ([(639, 0), (641, 1), (643, 2), (645, 3), (647, 4), (649, 5), (651, 6), (653, 7), (655, 8), (657, 9), (659, 10), (661, 11)] : List (Nat × Nat)) := by
    have h3 : ∀ k, k < 12 → ([(639, 0), (641, 1), (643, 2), (645, 3), (647, 4), (649, 5), (651, 6), (653, 7), (655, 8), (657, 9), (659, 10), (661, 11)] : List (Nat × Nat)).any (fun e => e.2 == k) = true := by decide +kernel
    obtain ⟨e, he, hq⟩ := List.any_eq_true.mp (h3 k hk)
    exact ⟨e.1, by rw [← (beq_iff_eq.mp hq)]; exact he⟩
  obtain ⟨p, hp⟩ := h2
  exact sx_tb_in p (h _ hp) (by unfold u_lay; split <;> rfl)
set_option maxRecDepth 100000 in
theorem inX12 : ∀ w ∈ u_ws RX12 TX12 65, w ∈ sx_tb := by
  have h : ∀ e ∈ ([(1479, 0), (1481, 1), (1483, 2), (1485, 3), (1487, 4), (1489, 5), (1491, 6), (1493, 7), (1495, 8), (1497, 9), (1499, 10), (1501, 11), (1503, 12), (1505, 13), (1507, 14), (1509, 15), (1511, 16), (1513, 17), (1515, 18), (1517, 19), (1519, 20), (1521, 21), (1523, 22), (1525, 23), (1527, 24), (1529, 25), (1531, 26), (1533, 27), (1535, 28), (1537, 29), (1539, 30), (1541, 31), (1543, 32), (1545, 33), (1547, 34), (1549, 35), (1551, 36), (1553, 37), (1555, 38), (1557, 39), (1559, 40), (1561, 41), (1563, 42), (1565, 43), (1567, 44), (1569, 45), (1571, 46), (1573, 47), (1575, 48), (1577, 49), (1579, 50), (1581, 51), (1583, 52), (1585, 53), (1587, 54), (1589, 55), (1591, 56), (1593, 57), (1595, 58), (1597, 59), (1599, 60), (1601, 61), (1603, 62), (1605, 63), (1607, 64)] : List (Nat × Nat)), lw_tbl[e.1]? = some (u_lay RX12 TX12 e.2) := by decide +kernel
  intro w hw
  obtain ⟨k, hk, rfl⟩ := List.mem_map.mp hw
  have hk := List.mem_range.mp hk
  have h2 : ∃ p, (p, k) ∈ ([(1479, 0), (1481, 1), (1483, 2), (1485, 3), (1487, 4), (1489, 5), (1491, 6), (1493, 7), (1495, 8), (1497, 9), (1499, 10), (1501, 11), (1503, 12), (1505, 13), (1507, 14), (1509, 15), (1511, 16), (1513, 17), (1515, 18), (1517, 19), (1519, 20), (1521, 21), (1523, 22), (1525, 23), (1527, 24), (1529, 25), (1531, 26), (1533, 27), (1535, 28), (1537, 29), (1539, 30), (1541, 31), (1543, 32), (1545, 33), (1547, 34), (1549, 35), (1551, 36), (1553, 37), (1555, 38), (1557, 39), (1559, 40), (1561, 41), (1563, 42), (1565, 43), (1567, 44), (1569, 45), (1571, 46), (1573, 47), (1575, 48), (1577, 49), (1579, 50), (1581, 51), (1583, 52), (1585, 53), (1587, 54), (1589, 55), (1591, 56), (1593, 57), (1595, 58), (1597, 59), (1599, 60), (1601, 61), (1603, 62), (1605, 63), (1607, 64)] : List (Nat × Nat)) := by
    have h3 : ∀ k, k < 65 → ([(1479, 0), (1481, 1), (1483, 2), (1485, 3), (1487, 4), (1489, 5), (1491, 6), (1493, 7), (1495, 8), (1497, 9), (1499, 10), (1501, 11), (1503, 12), (1505, 13), (1507, 14), (1509, 15), (1511, 16), (1513, 17), (1515, 18), (1517, 19), (1519, 20), (1521, 21), (1523, 22), (1525, 23), (1527, 24), (1529, 25), (1531, 26), (1533, 27), (1535, 28), (1537, 29), (1539, 30), (1541, 31), (1543, 32), (1545, 33), (1547, 34), (1549, 35), (1551, 36), (1553, 37), (1555, 38), (1557, 39), (1559, 40), (1561, 41), (1563, 42), (1565, 43), (1567, 44), (1569, 45), (1571, 46), (1573, 47), (1575, 48), (1577, 49), (1579, 50), (1581, 51), (1583, 52), (1585, 53), (1587, 54), (1589, 55), (1591, 56), (1593, 57), (1595, 58), (1597, 59), (1599, 60), (1601, 61), (1603, 62), (1605, 63), (1607, 64)] : List (Nat × Nat)).any (fun e => e.2 == k) = true := by decide +kernel
    obtain ⟨e, he, hq⟩ := List.any_eq_true.mp (h3 k hk)
    exact ⟨e.1, by rw [← (beq_iff_eq.mp hq)]; exact he⟩
  obtain ⟨p, hp⟩ := h2
  exact sx_tb_in p (h _ hp) (by unfold u_lay; split <;> rfl)
def sx_fl : List (Nat × Nat × Nat) := [(179, 1000045, 10000), (180, 30, 10000), (181, 1000009, 10001), (182, 300070, 10001), (183, 1100247, 10001), (184, 1000015, 10002), (185, 300073, 10002), (186, 1100250, 10002), (187, 1000018, 10003), (188, 1100111, 10003), (189, 300076, 10003), (190, 700179, 10003), (191, 1000021, 10004), (192, 200065, 10004), (193, 300079, 10004), (194, 1100253, 10004), (195, 1000024, 10005), (196, 200078, 10005), (197, 1100114, 10005), (198, 300085, 10005), (199, 1000027, 10006), (200, 200114, 10006), (201, 300082, 10006), (202, 1100236, 10006), (203, 700209, 10006), (204, 1000030, 10007), (205, 1000061, 10008), (206, 200059, 10008), (207, 1100084, 10008), (208, 700064, 10008), (209, 600086, 10008), (210, 1000033, 10009), (211, 700045, 10009), (212, 200071, 10009), (213, 1100117, 10009), (214, 1000036, 10010), (215, 700048, 10010), (216, 200068, 10010), (217, 1100259, 10010), (218, 700039, 10011), (219, 1000065, 10011), (220, 200062, 10011), (221, 1100095, 10011), (222, 1000039, 10012), (223, 1100262, 10012), (224, 1000042, 10013), (225, 1100265, 10013), (226, 200049, 10014), (227, 1000068, 10014), (228, 1100108, 10014), (229, 300049, 10014), (230, 1000071, 10015), (231, 200134, 10015), (232, 1100135, 10015), (233, 1000074, 10016), (234, 200131, 10016), (235, 1100289, 10016), (236, 200027, 10017), (237, 34, 10017), (238, 1000077, 10017), (239, 1100132, 10017), (240, 300088, 10017), (241, 1100077, 10018), (242, 1000080, 10018), (243, 24, 10019), (244, 1000083, 10019), (245, 1100271, 10019), (294, 9, 0), (295, 1100274, 0), (296, 15, 1), (297, 1100278, 1), (298, 18, 2), (299, 1100281, 2), (300, 21, 3), (301, 1100284, 3), (323, 300009, 3000), (324, 300015, 3001), (325, 300036, 3002), (326, 400034, 3002), (327, 300018, 3003), (328, 300021, 3004), (329, 300024, 3005), (330, 300027, 3006), (331, 300040, 3007), (332, 1100191, 3007), (333, 300030, 3008), (334, 300033, 3009), (357, 600012, 6000), (358, 200087, 6000), (359, 1100177, 6000), (360, 600018, 6001), (361, 600070, 6002), (362, 1100204, 6002), (363, 600022, 6003), (364, 600025, 6004), (365, 600046, 6005), (366, 1100216, 6005), (367, 600028, 6006), (368, 200024, 6006), (369, 600031, 6007), (370, 200032, 6007), (371, 600034, 6008), (372, 200035, 6008), (373, 600037, 6009), (374, 200038, 6009), (375, 200018, 6010), (376, 600073, 6010), (377, 1100227, 6010), (407, 900009, 9000), (408, 700084, 9000), (409, 1100328, 9000), (410, 900015, 9001), (411, 700087, 9001), (412, 1100331, 9001), (413, 900045, 9002), (414, 700079, 9002), (415, 1100323, 9002), (416, 900018, 9003), (417, 700112, 9003), (418, 1100350, 9003), (419, 900021, 9004), (420, 700122, 9004), (421, 1100353, 9004), (422, 900049, 9005), (423, 700109, 9005), (424, 1100347, 9005), (425, 900024, 9006), (426, 700136, 9006), (427, 1100369, 9006), (428, 900027, 9007), (429, 700153, 9007), (430, 1100386, 9007), (431, 900030, 9008), (432, 700164, 9008), (433, 1100383, 9008), (434, 900033, 9009), (435, 1100404, 9009), (436, 900052, 9010), (437, 1100401, 9010), (438, 900036, 9011), (439, 1100419, 9011), (440, 900055, 9012), (441, 700182, 9012), (442, 1100416, 9012), (470, 100012, 1000), (471, 1100074, 1000), (472, 100021, 1001), (473, 1100141, 1001), (474, 100028, 1002), (475, 1100138, 1002), (476, 100035, 1003), (477, 1100319, 1003), (496, 500011, 5000), (497, 500028, 5001), (498, 1100450, 5001), (499, 500020, 5002), (515, 200009, 2000), (516, 200015, 2001), (517, 200107, 2002), (531, 700009, 7000), (532, 700015, 7001), (533, 700018, 7002), (534, 700076, 7003), (535, 1100338, 7003), (536, 700021, 7004), (537, 700103, 7005), (538, 1100362, 7005), (539, 700106, 7006), (540, 1100359, 7006), (541, 700024, 7007), (542, 700027, 7008), (543, 1100395, 7008), (544, 700030, 7009), (545, 700033, 7010), (546, 700146, 7011), (547, 1100392, 7011), (548, 700036, 7012), (582, 800009, 8000), (583, 800015, 8001), (584, 800018, 8002), (585, 800025, 8003), (586, 800028, 8004), (587, 800031, 8005), (588, 1100230, 8005), (589, 800021, 8006), (590, 1100233, 8006), (614, 400011, 4000), (615, 400059, 4001), (616, 400062, 4002), (617, 400065, 4003), (627, 1100012, 11000), (628, 1100016, 11001), (629, 1100446, 11002), (630, 1100022, 11003), (631, 1100031, 11004), (632, 1100038, 11005), (633, 1100045, 11006), (634, 1100049, 11007), (635, 1100149, 11008), (636, 1100056, 11009), (637, 1100063, 11010), (638, 1100070, 11011), (1414, 1200122, 12000), (1415, 1200007, 12001), (1416, 1200013, 12002), (1417, 1200125, 12003), (1418, 1200016, 12004), (1419, 1200128, 12005), (1420, 1200134, 12006), (1421, 1200137, 12007), (1422, 1200019, 12008), (1423, 1200022, 12009), (1424, 1200025, 12010), (1425, 1200028, 12011), (1426, 1200031, 12012), (1427, 1200159, 12013), (1428, 1200166, 12014), (1429, 1200173, 12015), (1430, 1200176, 12016), (1431, 1200179, 12017), (1432, 1200034, 12018), (1433, 1200037, 12019), (1434, 1200040, 12020), (1435, 1200043, 12021), (1436, 1200046, 12022), (1437, 1200049, 12023), (1438, 1200052, 12024), (1439, 1200055, 12025), (1440, 1200254, 12026), (1441, 1200200, 12027), (1442, 1200232, 12028), (1443, 1200058, 12029), (1444, 1200229, 12030), (1445, 1200194, 12031), (1446, 1200197, 12032), (1447, 1200300, 12033), (1448, 1200061, 12034), (1449, 1200291, 12035), (1450, 1200065, 12036), (1451, 1200294, 12037), (1452, 1200068, 12038), (1453, 1200297, 12039), (1454, 1200071, 12040), (1455, 1200074, 12041), (1456, 1200077, 12042), (1457, 1200374, 12043), (1458, 1200080, 12044), (1459, 1200083, 12045), (1460, 1200418, 12046), (1461, 1200086, 12047), (1462, 1200089, 12048), (1463, 1200092, 12049), (1464, 1200437, 12050), (1465, 1200095, 12051), (1466, 1200098, 12052), (1467, 1200101, 12053), (1468, 1200104, 12054), (1469, 1200107, 12055), (1470, 1200484, 12056), (1471, 1200110, 12057), (1472, 1200490, 12058), (1473, 1200113, 12059), (1474, 1200116, 12060), (1475, 1200502, 12061), (1476, 1200508, 12062), (1477, 1200499, 12063), (1478, 1200119, 12064)]
def sx_ml : List (Nat × Nat × Nat) := [(158, 1300009, 0), (161, 1100003, 9999), (166, 1100011, 2), (169, 100001, 9999), (172, 100009, 3), (175, 1000003, 9999), (176, 1000049, 4), (290, 100020, 5), (293, 3, 9999), (313, 100027, 6), (316, 600003, 9999), (319, 600011, 7), (322, 300003, 9999), (356, 600040, 4), (403, 100034, 8), (406, 900003, 9999), (489, 1100021, 9), (492, 500003, 9999), (495, 500017, 3), (508, 1100028, 3), (511, 1100037, 10), (514, 200003, 9999), (527, 1100044, 11), (530, 700003, 9999), (578, 1100055, 12), (581, 800003, 9999), (607, 1100062, 6), (610, 1100069, 13), (613, 400003, 9999), (664, 1300013, 14), (668, 1100081, 15), (672, 1300018, 16), (676, 1100087, 17), (680, 1300023, 18), (684, 1100091, 19), (688, 1100098, 20), (692, 1300027, 21), (696, 1100102, 22), (700, 1100105, 23), (704, 1300032, 24), (708, 1100120, 25), (712, 1000086, 26), (716, 1000090, 27), (720, 1100124, 28), (724, 500024, 29), (728, 1000055, 9998), (731, 500031, 30), (734, 1100128, 31), (738, 1000093, 25), (739, 1300036, 32), (743, 1100145, 33), (747, 200041, 31), (748, 200045, 34), (752, 200052, 35), (756, 200074, 36), (760, 200091, 37), (764, 300054, 38), (768, 300058, 39), (772, 300091, 40), (775, 300062, 30), (776, 300067, 41), (779, 200097, 42), (783, 1000105, 43), (787, 1000101, 44), (791, 1000097, 22), (792, 200101, 45), (796, 200081, 30), (797, 200056, 46), (801, 200110, 47), (805, 200117, 48), (809, 200125, 44), (810, 200128, 49), (816, 200137, 50), (820, 200141, 51), (824, 200144, 52), (828, 200121, 53), (832, 1300040, 54), (836, 1100152, 55), (840, 1300045, 56), (844, 1300050, 57), (848, 1100156, 58), (853, 1100173, 59), (857, 800034, 60), (861, 800037, 61), (864, 800041, 62), (867, 800044, 63), (870, 800059, 64), (874, 1700335, 65), (880, 800065, 66), (884, 1700492, 67), (888, 1700495, 68), (891, 1800009, 69), (896, 1701059, 70), (899, 1700498, 71), (902, 1900067, 72), (905, 1900048, 73), (908, 1900414, 69), (909, 1900071, 74), (918, 800069, 75), (921, 800048, 76), (925, 800052, 77), (928, 800056, 78), (931, 1100181, 79), (935, 400015, 80), (939, 400020, 81), (943, 400026, 82), (947, 400030, 83), (951, 400038, 84), (955, 800073, 85), (959, 800077, 83), (960, 800083, 86), (964, 800080, 87), (968, 400042, 88), (972, 400098, 89), (976, 400107, 90), (980, 400094, 91), (984, 400046, 87), (985, 400087, 85), (986, 400101, 92), (990, 400104, 93), (994, 400049, 94), (998, 400068, 95), (1002, 400083, 96), (1006, 400072, 97), (1010, 400075, 98), (1014, 400090, 99), (1018, 400079, 100), (1022, 400052, 86), (1023, 400055, 101), (1027, 1100185, 102), (1031, 300043, 9998), (1032, 1100159, 103), (1037, 1100196, 104), (1041, 600076, 81), (1042, 600082, 84), (1043, 600091, 105), (1047, 800086, 90), (1048, 600095, 86), (1049, 600098, 90), (1050, 600102, 83), (1051, 1100200, 106), (1055, 600064, 9998), (1056, 1100162, 107), (1061, 1100209, 108), (1065, 1100213, 109), (1069, 1100165, 110), (1074, 1100221, 111), (1078, 600106, 112), (1082, 600110, 82), (1083, 600113, 87), (1084, 600116, 26), (1085, 600119, 27), (1086, 1100224, 113), (1090, 1100168, 60), (1092, 1300054, 114), (1096, 1300058, 115), (1100, 1100239, 44), (1101, 1100243, 37), (1102, 1100256, 51), (1103, 1300063, 116), (1107, 1300067, 117), (1111, 1300071, 118), (1115, 1100268, 34), (1116, 1300075, 119), (1120, 1300079, 120), (1124, 1100287, 29), (1125, 1100292, 121), (1129, 1300083, 122), (1133, 1100296, 123), (1136, 1100299, 124), (1140, 700051, 125), (1144, 700055, 51), (1145, 1300087, 126), (1149, 1100303, 127), (1153, 700061, 128), (1157, 1100307, 129), (1161, 1300091, 130), (1165, 1100310, 131), (1169, 700067, 127), (1170, 1100314, 132), (1176, 1300095, 133), (1180, 1300099, 134), (1184, 1100334, 135), (1188, 700070, 4), (1189, 700090, 136), (1193, 700094, 137), (1197, 1100341, 138), (1201, 1100344, 139), (1205, 700097, 41), (1206, 1300103, 140), (1210, 1300107, 141), (1214, 1100356, 142), (1218, 700115, 143), (1222, 700119, 144), (1226, 1300111, 145), (1230, 1100365, 146), (1234, 700125, 43), (1235, 700128, 132), (1236, 700133, 147), (1240, 1300115, 148), (1244, 1300120, 149), (1248, 1100372, 150), (1252, 700139, 151), (1256, 700143, 152), (1259, 1100376, 151), (1260, 1300124, 153), (1264, 1100380, 154), (1267, 1300129, 155), (1271, 1100389, 156), (1275, 700149, 157), (1279, 700156, 158), (1283, 700160, 159), (1286, 1300133, 160), (1290, 1100398, 161), (1296, 700173, 162), (1300, 1300137, 163), (1304, 1300141, 164), (1308, 1100407, 165), (1312, 900058, 166), (1316, 1100410, 166), (1317, 1300145, 167), (1321, 1100413, 168), (1324, 1300149, 169), (1328, 1300153, 170), (1332, 1100422, 171), (1336, 700185, 172), (1339, 700188, 173), (1343, 700191, 174), (1347, 700195, 30), (1348, 1100426, 175), (1352, 1100429, 176), (1356, 700198, 175), (1357, 1300157, 177), (1361, 1100432, 178), (1364, 700201, 179), (1367, 700205, 22), (1368, 1100436, 179), (1369, 1300161, 180), (1373, 1100439, 181), (1377, 1300166, 182), (1381, 1100443, 183), (1385, 100039, 29), (1386, 100043, 184), (1390, 36, 9998), (1391, 100046, 185), (1395, 600050, 102), (1396, 600054, 106), (1397, 600058, 109), (1398, 600061, 113), (1399, 100049, 186), (1403, 900039, 9998), (1404, 1300171, 187), (1410, 1300012, 188), (1413, 1200001, 9999), (1610, 1300165, 189), (1614, 1300017, 190), (1618, 1300022, 191), (1622, 1200144, 192), (1626, 1300026, 193), (1631, 1300031, 194), (1635, 1200156, 195), (1639, 1200149, 196), (1643, 1200153, 197), (1647, 1300044, 198), (1651, 1200162, 199), (1655, 1300049, 200), (1659, 1300053, 201), (1663, 1200303, 202), (1667, 1200213, 203), (1671, 1200169, 204), (1675, 1200182, 205), (1679, 1200185, 206), (1683, 1200188, 207), (1687, 1200191, 208), (1691, 1200279, 209), (1695, 1200235, 210), (1699, 1200206, 211), (1703, 1200267, 212), (1707, 1200260, 213), (1711, 1200257, 214), (1715, 1200264, 215), (1719, 1200220, 216), (1723, 1200282, 217), (1727, 1200285, 218), (1731, 1200276, 219), (1735, 1200270, 220), (1739, 1200273, 221), (1743, 1200288, 222), (1747, 1200247, 223), (1751, 1200226, 224), (1755, 1200223, 225), (1759, 1200216, 226), (1763, 1200203, 227), (1767, 1200209, 228), (1771, 1200251, 229), (1775, 1200238, 230), (1779, 1200241, 231), (1783, 1200244, 232), (1787, 1200306, 233), (1791, 1200309, 234), (1795, 1300057, 235), (1799, 1300035, 236), (1803, 1200330, 237), (1807, 1200333, 238), (1811, 1200336, 239), (1815, 1300039, 240), (1819, 1200394, 241), (1823, 1200386, 242), (1827, 1200389, 243), (1831, 1200377, 244), (1835, 1200380, 245), (1839, 1200324, 246), (1843, 1200327, 247), (1847, 1200318, 248), (1851, 1200315, 249), (1855, 1200312, 250), (1859, 1200321, 251), (1863, 1200359, 252), (1867, 1200383, 253), (1871, 1200140, 254), (1875, 1200368, 255), (1879, 1200362, 256), (1883, 1200365, 257), (1889, 1200353, 258), (1893, 1200371, 259), (1897, 1200350, 260), (1901, 1200340, 261), (1905, 1200343, 262), (1909, 1200391, 263), (1913, 1200356, 264), (1917, 1200347, 265), (1921, 1300062, 266), (1925, 1300066, 267), (1929, 1300070, 268), (1933, 1300074, 269), (1937, 1300078, 270), (1941, 1300082, 271), (1945, 1200397, 272), (1949, 1200400, 273), (1953, 1300086, 274), (1957, 1200403, 275), (1961, 1300090, 276), (1965, 1200406, 277), (1969, 1200409, 278), (1973, 1300094, 279), (1977, 1200412, 280), (1981, 1200415, 281), (1985, 1300098, 282), (1989, 1300102, 283), (1993, 1200431, 284), (1998, 1200425, 285), (2002, 1200421, 286), (2006, 1200428, 287), (2010, 1200434, 288), (2014, 1300106, 289), (2018, 1300110, 290), (2022, 1200443, 291), (2026, 1200440, 292), (2030, 1300114, 293), (2034, 1300119, 294), (2038, 1300123, 295), (2042, 1200450, 296), (2046, 1200453, 297), (2050, 1200456, 298), (2054, 1200447, 299), (2058, 1300128, 300), (2062, 1200462, 301), (2066, 1200459, 302), (2070, 1300132, 303), (2074, 1200474, 304), (2078, 1200468, 305), (2082, 1200465, 306), (2086, 1200471, 307), (2090, 1300136, 308), (2094, 1200481, 309), (2099, 1200478, 310), (2103, 1300140, 311), (2107, 1300144, 312), (2111, 1300148, 313), (2115, 1200487, 314), (2119, 1300152, 315), (2123, 1300156, 316), (2127, 1200496, 317), (2131, 1200493, 318), (2135, 1300160, 319), (2139, 1300170, 320), (2143, 1200505, 321), (2147, 1200511, 322), (2151, 1200514, 323), (2155, 1200517, 324), (2159, 1300174, 325)]
def sx_kl : List (Nat × Nat × Nat) := [(156, 1300007, 11), (164, 1100009, 1), (170, 100007, 10), (288, 100018, 0), (311, 100025, 6), (317, 600009, 3), (401, 100032, 9), (487, 1100019, 5), (493, 500009, 10), (507, 1100026, 10), (509, 1100035, 2), (525, 1100042, 7), (576, 1100053, 8), (606, 1100060, 6), (608, 1100067, 4), (1408, 1300010, 12)]
def sx_ct : List (Nat × Nat × Int32) := [(687, 1100453, 65536), (814, 1000108, 1664525), (815, 1000109, 1013904223), (1173, 1400265, 1431655765), (1174, 1400266, 858993459), (1175, 1400267, 252645135), (1630, 1200148, 65535), (1887, 1200132, 1664525), (1888, 1200133, 1013904223), (1997, 1200424, 100000000), (2098, 1200477, 1000000)]
def sx_lg : List (Nat × Nat × Nat) := [(1293, 700167, 1000), (1294, 700169, 600), (1295, 700171, 400), (1299, 700177, 1000000)]
