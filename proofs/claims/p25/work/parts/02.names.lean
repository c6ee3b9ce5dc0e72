-- by program (wip/gen/gen1.py) out of the claim: names, field tables, links by their places in lw_tbl
theorem goodIn_r {big : List Cond} (ws : List Cond) (ps : List Nat) (hp : ws = ps.filterMap (fun i => big[i]?)) (h : ws.all goodWord = true) : GoodIn big ws := by
  intro w hw
  have h1 := List.all_eq_true.mp h w hw
  rw [hp] at hw
  obtain ⟨i, -, hi⟩ := List.mem_filterMap.mp hw
  have hm : w ∈ big := by first | exact List.mem_of_getElem? hi | exact List.getElem?_mem hi
  exact ⟨hm, good_of_word h1⟩
theorem goodIn_app {big a b : List Cond} (ha : GoodIn big a) (hb : GoodIn big b) : GoodIn big (a ++ b) := fun w h => (List.mem_append.mp h).elim (ha w) (hb w)
theorem goodIn_ca {big a b : List Cond} {c : Cond} (ha : GoodIn big (c :: a)) (hb : GoodIn big b) : GoodIn big (c :: (a ++ b)) := fun w h => (List.mem_cons.mp h).elim (fun e => ha w (List.mem_cons.mpr (Or.inl e))) (fun h => (List.mem_append.mp h).elim (fun h => ha w (List.mem_cons.mpr (Or.inr h))) (hb w))
theorem goodIn_sub {big ws : List Cond} (hm : ∀ w ∈ ws, w ∈ big) (h : ws.all goodWord = true) : GoodIn big ws := fun w hw => ⟨hm w hw, good_of_word (List.all_eq_true.mp h w hw)⟩
def RX0 : String := "SpoutNews$Book"
def TX0 : u_T := fun k => match k with
  | 0 => ("SpoutNews$Book", "day", "[I", true)
  | 1 => ("SpoutNews$Book", "what", "[I", true)
  | 2 => ("SpoutNews$Book", "which", "[I", true)
  | _ => ("SpoutNews$Book", "word", "[I", true)
def tyX0 : Nat → FieldType := fun k => match k with
  | 0 => .array .int
  | 1 => .array .int
  | 2 => .array .int
  | _ => .array .int
theorem nmX0 : ∀ a, a < 4 → ∀ b, b < 4 → a ≠ b → (TX0 a).2.1 ≠ (TX0 b).2.1 := by decide +kernel
theorem tyX0_ok : ∀ k, k < 4 → parseFieldDescriptor (TX0 k).2.2.1 = some (tyX0 k) := by decide +kernel
def RX1 : String := "SpoutNews$Cathedral"
def TX1 : u_T := fun k => match k with
  | 0 => ("SpoutNews$Cathedral", "world", "LSpoutNews$World;", true)
  | 1 => ("SpoutNews$Cathedral", "book", "LSpoutNews$Book;", true)
  | 2 => ("SpoutNews$Cathedral", "texts", "LSpoutNews$Texts;", true)
  | _ => ("SpoutNews$Cathedral", "told", "LSpoutNews$Told;", true)
def tyX1 : Nat → FieldType := fun k => match k with
  | 0 => .object "SpoutNews$World"
  | 1 => .object "SpoutNews$Book"
  | 2 => .object "SpoutNews$Texts"
  | _ => .object "SpoutNews$Told"
theorem nmX1 : ∀ a, a < 4 → ∀ b, b < 4 → a ≠ b → (TX1 a).2.1 ≠ (TX1 b).2.1 := by decide +kernel
theorem tyX1_ok : ∀ k, k < 4 → parseFieldDescriptor (TX1 k).2.2.1 = some (tyX1 k) := by decide +kernel
def RX2 : String := "SpoutNews$DayRun"
def TX2 : u_T := fun k => match k with
  | 0 => ("SpoutNews$DayRun", "waitingWord", "[I", true)
  | 1 => ("SpoutNews$DayRun", "waitingInto", "[I", true)
  | _ => ("SpoutNews$DayRun", "waiting", "I", false)
def tyX2 : Nat → FieldType := fun k => match k with
  | 0 => .array .int
  | 1 => .array .int
  | _ => .int
theorem nmX2 : ∀ a, a < 3 → ∀ b, b < 3 → a ≠ b → (TX2 a).2.1 ≠ (TX2 b).2.1 := by decide +kernel
theorem tyX2_ok : ∀ k, k < 3 → parseFieldDescriptor (TX2 k).2.2.1 = some (tyX2 k) := by decide +kernel
def RX3 : String := "SpoutNews$Law"
def TX3 : u_T := fun k => match k with
  | 0 => ("SpoutNews$Law", "step", "[I", true)
  | 1 => ("SpoutNews$Law", "number", "[I", true)
  | 2 => ("SpoutNews$Law", "steps", "I", false)
  | 3 => ("SpoutNews$Law", "kind", "[I", true)
  | 4 => ("SpoutNews$Law", "from", "[I", true)
  | 5 => ("SpoutNews$Law", "when", "[I", true)
  | 6 => ("SpoutNews$Law", "behind", "[I", true)
  | 7 => ("SpoutNews$Law", "lines", "I", false)
  | 8 => ("SpoutNews$Law", "stack", "[I", true)
  | _ => ("SpoutNews$Law", "facts", "[I", true)
def tyX3 : Nat → FieldType := fun k => match k with
  | 0 => .array .int
  | 1 => .array .int
  | 2 => .int
  | 3 => .array .int
  | 4 => .array .int
  | 5 => .array .int
  | 6 => .array .int
  | 7 => .int
  | 8 => .array .int
  | _ => .array .int
theorem nmX3 : ∀ a, a < 10 → ∀ b, b < 10 → a ≠ b → (TX3 a).2.1 ≠ (TX3 b).2.1 := by decide +kernel
theorem tyX3_ok : ∀ k, k < 10 → parseFieldDescriptor (TX3 k).2.2.1 = some (tyX3 k) := by decide +kernel
def RX4 : String := "SpoutNews$LawReader"
def TX4 : u_T := fun k => match k with
  | 0 => ("SpoutNews$LawReader", "waiting", "[I", true)
  | 1 => ("SpoutNews$LawReader", "waits", "I", false)
  | 2 => ("SpoutNews$LawReader", "open", "I", false)
  | _ => ("SpoutNews$LawReader", "parens", "I", false)
def tyX4 : Nat → FieldType := fun k => match k with
  | 0 => .array .int
  | 1 => .int
  | 2 => .int
  | _ => .int
theorem nmX4 : ∀ a, a < 4 → ∀ b, b < 4 → a ≠ b → (TX4 a).2.1 ≠ (TX4 b).2.1 := by decide +kernel
theorem tyX4_ok : ∀ k, k < 4 → parseFieldDescriptor (TX4 k).2.2.1 = some (tyX4 k) := by decide +kernel
def RX5 : String := "SpoutNews$Past"
def TX5 : u_T := fun k => match k with
  | 0 => ("SpoutNews$Past", "ring", "[LSpoutNews$World;", true)
  | 1 => ("SpoutNews$Past", "count", "I", false)
  | _ => ("SpoutNews$Past", "next", "I", false)
def tyX5 : Nat → FieldType := fun k => match k with
  | 0 => .array (.object "SpoutNews$World")
  | 1 => .int
  | _ => .int
theorem nmX5 : ∀ a, a < 3 → ∀ b, b < 3 → a ≠ b → (TX5 a).2.1 ≠ (TX5 b).2.1 := by decide +kernel
theorem tyX5_ok : ∀ k, k < 3 → parseFieldDescriptor (TX5 k).2.2.1 = some (tyX5 k) := by decide +kernel
def RX6 : String := "SpoutNews$Texts"
def TX6 : u_T := fun k => match k with
  | 0 => ("SpoutNews$Texts", "law", "LSpoutNews$Law;", true)
  | 1 => ("SpoutNews$Texts", "into", "[I", true)
  | 2 => ("SpoutNews$Texts", "gutterLines", "I", false)
  | 3 => ("SpoutNews$Texts", "weatherDay", "[I", true)
  | 4 => ("SpoutNews$Texts", "weatherRain", "[I", true)
  | 5 => ("SpoutNews$Texts", "weatherLines", "I", false)
  | 6 => ("SpoutNews$Texts", "planDay", "[I", true)
  | 7 => ("SpoutNews$Texts", "planDeed", "[I", true)
  | 8 => ("SpoutNews$Texts", "planWho", "[I", true)
  | 9 => ("SpoutNews$Texts", "planWhat", "[I", true)
  | _ => ("SpoutNews$Texts", "planLines", "I", false)
def tyX6 : Nat → FieldType := fun k => match k with
  | 0 => .object "SpoutNews$Law"
  | 1 => .array .int
  | 2 => .int
  | 3 => .array .int
  | 4 => .array .int
  | 5 => .int
  | 6 => .array .int
  | 7 => .array .int
  | 8 => .array .int
  | 9 => .array .int
  | _ => .int
theorem nmX6 : ∀ a, a < 11 → ∀ b, b < 11 → a ≠ b → (TX6 a).2.1 ≠ (TX6 b).2.1 := by decide +kernel
theorem tyX6_ok : ∀ k, k < 11 → parseFieldDescriptor (TX6 k).2.2.1 = some (tyX6 k) := by decide +kernel
def RX7 : String := "SpoutNews$Thought"
def TX7 : u_T := fun k => match k with
  | 0 => ("SpoutNews$Thought", "maySit", "[I", true)
  | 1 => ("SpoutNews$Thought", "sits", "[I", true)
  | 2 => ("SpoutNews$Thought", "waysWith", "[I", true)
  | 3 => ("SpoutNews$Thought", "wayCount", "I", false)
  | 4 => ("SpoutNews$Thought", "colour", "[I", true)
  | 5 => ("SpoutNews$Thought", "groups", "I", false)
  | 6 => ("SpoutNews$Thought", "onFirstSide", "I", false)
  | 7 => ("SpoutNews$Thought", "words", "[I", true)
  | 8 => ("SpoutNews$Thought", "stoneOf", "[I", true)
  | 9 => ("SpoutNews$Thought", "masonOf", "[I", true)
  | 10 => ("SpoutNews$Thought", "refused", "[I", true)
  | 11 => ("SpoutNews$Thought", "offers", "I", false)
  | _ => ("SpoutNews$Thought", "least", "[I", true)
def tyX7 : Nat → FieldType := fun k => match k with
  | 0 => .array .int
  | 1 => .array .int
  | 2 => .array .int
  | 3 => .int
  | 4 => .array .int
  | 5 => .int
  | 6 => .int
  | 7 => .array .int
  | 8 => .array .int
  | 9 => .array .int
  | 10 => .array .int
  | 11 => .int
  | _ => .array .int
theorem nmX7 : ∀ a, a < 13 → ∀ b, b < 13 → a ≠ b → (TX7 a).2.1 ≠ (TX7 b).2.1 := by decide +kernel
theorem tyX7_ok : ∀ k, k < 13 → parseFieldDescriptor (TX7 k).2.2.1 = some (tyX7 k) := by decide +kernel
def RX8 : String := "SpoutNews$Tokens"
def TX8 : u_T := fun k => match k with
  | 0 => ("SpoutNews$Tokens", "kind", "[I", true)
  | 1 => ("SpoutNews$Tokens", "value", "[I", true)
  | 2 => ("SpoutNews$Tokens", "place", "[I", true)
  | 3 => ("SpoutNews$Tokens", "count", "I", false)
  | 4 => ("SpoutNews$Tokens", "at", "I", false)
  | 5 => ("SpoutNews$Tokens", "faultKind", "I", false)
  | _ => ("SpoutNews$Tokens", "faultPlace", "I", false)
def tyX8 : Nat → FieldType := fun k => match k with
  | 0 => .array .int
  | 1 => .array .int
  | 2 => .array .int
  | 3 => .int
  | 4 => .int
  | 5 => .int
  | _ => .int
theorem nmX8 : ∀ a, a < 7 → ∀ b, b < 7 → a ≠ b → (TX8 a).2.1 ≠ (TX8 b).2.1 := by decide +kernel
theorem tyX8_ok : ∀ k, k < 7 → parseFieldDescriptor (TX8 k).2.2.1 = some (tyX8 k) := by decide +kernel
def RX9 : String := "SpoutNews$Told"
def TX9 : u_T := fun k => match k with
  | 0 => ("SpoutNews$Told", "seatWho", "[I", true)
  | 1 => ("SpoutNews$Told", "seatBelow", "[I", true)
  | 2 => ("SpoutNews$Told", "seats", "I", false)
  | 3 => ("SpoutNews$Told", "quarrelOne", "[I", true)
  | 4 => ("SpoutNews$Told", "quarrelOther", "[I", true)
  | 5 => ("SpoutNews$Told", "quarrels", "I", false)
  | 6 => ("SpoutNews$Told", "latinOf", "[I", true)
  | 7 => ("SpoutNews$Told", "masonRows", "[I", true)
  | 8 => ("SpoutNews$Told", "stoneRows", "[I", true)
  | 9 => ("SpoutNews$Told", "droughtRain", "[I", true)
  | 10 => ("SpoutNews$Told", "droughtDays", "I", false)
  | 11 => ("SpoutNews$Told", "chapterMinutes", "[I", true)
  | _ => ("SpoutNews$Told", "chapters", "I", false)
def tyX9 : Nat → FieldType := fun k => match k with
  | 0 => .array .int
  | 1 => .array .int
  | 2 => .int
  | 3 => .array .int
  | 4 => .array .int
  | 5 => .int
  | 6 => .array .int
  | 7 => .array .int
  | 8 => .array .int
  | 9 => .array .int
  | 10 => .int
  | 11 => .array .int
  | _ => .int
theorem nmX9 : ∀ a, a < 13 → ∀ b, b < 13 → a ≠ b → (TX9 a).2.1 ≠ (TX9 b).2.1 := by decide +kernel
theorem tyX9_ok : ∀ k, k < 13 → parseFieldDescriptor (TX9 k).2.2.1 = some (tyX9 k) := by decide +kernel
def RX10 : String := "SpoutNews$World"
def TX10 : u_T := fun k => match k with
  | 0 => ("SpoutNews$World", "thinks", "Z", true)
  | 1 => ("SpoutNews$World", "stone", "[I", true)
  | 2 => ("SpoutNews$World", "side", "[I", true)
  | 3 => ("SpoutNews$World", "lean", "[I", true)
  | 4 => ("SpoutNews$World", "mouth", "[I", true)
  | 5 => ("SpoutNews$World", "dry", "[I", true)
  | 6 => ("SpoutNews$World", "heardCount", "[I", true)
  | 7 => ("SpoutNews$World", "heard", "[I", true)
  | 8 => ("SpoutNews$World", "spouts", "I", false)
  | 9 => ("SpoutNews$World", "knows", "[I", true)
  | 10 => ("SpoutNews$World", "sitterAt", "[I", true)
  | 11 => ("SpoutNews$World", "sitters", "I", false)
  | 12 => ("SpoutNews$World", "jarAt", "[I", true)
  | 13 => ("SpoutNews$World", "caught", "[I", true)
  | 14 => ("SpoutNews$World", "rain", "I", false)
  | 15 => ("SpoutNews$World", "said", "I", false)
  | 16 => ("SpoutNews$World", "wrong", "I", false)
  | 17 => ("SpoutNews$World", "day", "I", false)
  | 18 => ("SpoutNews$World", "draws", "I", false)
  | _ => ("SpoutNews$World", "bookLines", "I", false)
def tyX10 : Nat → FieldType := fun k => match k with
  | 0 => .boolean
  | 1 => .array .int
  | 2 => .array .int
  | 3 => .array .int
  | 4 => .array .int
  | 5 => .array .int
  | 6 => .array .int
  | 7 => .array .int
  | 8 => .int
  | 9 => .array .int
  | 10 => .array .int
  | 11 => .int
  | 12 => .array .int
  | 13 => .array .int
  | 14 => .int
  | 15 => .int
  | 16 => .int
  | 17 => .int
  | 18 => .int
  | _ => .int
theorem nmX10 : ∀ a, a < 20 → ∀ b, b < 20 → a ≠ b → (TX10 a).2.1 ≠ (TX10 b).2.1 := by decide +kernel
theorem tyX10_ok : ∀ k, k < 20 → parseFieldDescriptor (TX10 k).2.2.1 = some (tyX10 k) := by decide +kernel
def RX11 : String := "SpoutNews"
def TX11 : u_T := fun k => match k with
  | 0 => ("SpoutNews", "now", "LSpoutNews$Cathedral;", true)
  | 1 => ("SpoutNews", "kept", "LSpoutNews$Cathedral;", true)
  | 2 => ("SpoutNews", "hasImage", "Z", false)
  | 3 => ("SpoutNews", "past", "LSpoutNews$Past;", true)
  | 4 => ("SpoutNews", "inThought", "LSpoutNews$World;", true)
  | 5 => ("SpoutNews", "dayRun", "LSpoutNews$DayRun;", true)
  | 6 => ("SpoutNews", "thought", "LSpoutNews$Thought;", true)
  | 7 => ("SpoutNews", "tape", "[I", true)
  | 8 => ("SpoutNews", "tapeLength", "I", false)
  | 9 => ("SpoutNews", "tokens", "LSpoutNews$Tokens;", true)
  | 10 => ("SpoutNews", "draft", "LSpoutNews$Texts;", true)
  | _ => ("SpoutNews", "lawReader", "LSpoutNews$LawReader;", true)
def tyX11 : Nat → FieldType := fun k => match k with
  | 0 => .object "SpoutNews$Cathedral"
  | 1 => .object "SpoutNews$Cathedral"
  | 2 => .boolean
  | 3 => .object "SpoutNews$Past"
  | 4 => .object "SpoutNews$World"
  | 5 => .object "SpoutNews$DayRun"
  | 6 => .object "SpoutNews$Thought"
  | 7 => .array .int
  | 8 => .int
  | 9 => .object "SpoutNews$Tokens"
  | 10 => .object "SpoutNews$Texts"
  | _ => .object "SpoutNews$LawReader"
theorem nmX11 : ∀ a, a < 12 → ∀ b, b < 12 → a ≠ b → (TX11 a).2.1 ≠ (TX11 b).2.1 := by decide +kernel
theorem tyX11_ok : ∀ k, k < 12 → parseFieldDescriptor (TX11 k).2.2.1 = some (tyX11 k) := by decide +kernel
def RX12 : String := "SpoutNewsModel"
def TX12 : u_T := fun k => match k with
  | 0 => ("SpoutNewsModel", "said", "I", false)
  | 1 => ("SpoutNewsModel", "now", "[I", true)
  | 2 => ("SpoutNewsModel", "rows", "[I", true)
  | 3 => ("SpoutNewsModel", "undoable", "I", false)
  | 4 => ("SpoutNewsModel", "waiting", "[I", true)
  | 5 => ("SpoutNewsModel", "isThought", "Z", false)
  | 6 => ("SpoutNewsModel", "spouts", "I", false)
  | 7 => ("SpoutNewsModel", "sitters", "I", false)
  | 8 => ("SpoutNewsModel", "stone", "[I", true)
  | 9 => ("SpoutNewsModel", "side", "[I", true)
  | 10 => ("SpoutNewsModel", "lean", "[I", true)
  | 11 => ("SpoutNewsModel", "book", "[I", true)
  | 12 => ("SpoutNewsModel", "tape", "[I", true)
  | 13 => ("SpoutNewsModel", "taped", "I", false)
  | 14 => ("SpoutNewsModel", "spot", "I", false)
  | 15 => ("SpoutNewsModel", "from", "I", false)
  | 16 => ("SpoutNewsModel", "token", "I", false)
  | 17 => ("SpoutNewsModel", "value", "I", false)
  | 18 => ("SpoutNewsModel", "words", "[I", true)
  | 19 => ("SpoutNewsModel", "lineMany", "[I", true)
  | 20 => ("SpoutNewsModel", "lineWord", "[I", true)
  | 21 => ("SpoutNewsModel", "lineFrom", "[I", true)
  | 22 => ("SpoutNewsModel", "lineWhen", "[I", true)
  | 23 => ("SpoutNewsModel", "lineTo", "[I", true)
  | 24 => ("SpoutNewsModel", "op", "[I", true)
  | 25 => ("SpoutNewsModel", "arg", "[I", true)
  | 26 => ("SpoutNewsModel", "which", "I", false)
  | 27 => ("SpoutNewsModel", "codes", "I", false)
  | 28 => ("SpoutNewsModel", "open", "I", false)
  | 29 => ("SpoutNewsModel", "pending", "[I", true)
  | 30 => ("SpoutNewsModel", "pendings", "I", false)
  | 31 => ("SpoutNewsModel", "readFault", "I", false)
  | 32 => ("SpoutNewsModel", "readPlace", "I", false)
  | 33 => ("SpoutNewsModel", "faultKind", "I", false)
  | 34 => ("SpoutNewsModel", "faultPlace", "I", false)
  | 35 => ("SpoutNewsModel", "gutterMany", "I", false)
  | 36 => ("SpoutNewsModel", "intoUp", "[I", true)
  | 37 => ("SpoutNewsModel", "weatherMany", "I", false)
  | 38 => ("SpoutNewsModel", "rains", "[I", true)
  | 39 => ("SpoutNewsModel", "deedMany", "I", false)
  | 40 => ("SpoutNewsModel", "deeds", "[I", true)
  | 41 => ("SpoutNewsModel", "asked", "[I", true)
  | 42 => ("SpoutNewsModel", "stack", "[I", true)
  | 43 => ("SpoutNewsModel", "ledMany", "I", false)
  | 44 => ("SpoutNewsModel", "ledTo", "[I", true)
  | 45 => ("SpoutNewsModel", "ledWord", "[I", true)
  | 46 => ("SpoutNewsModel", "seatMany", "I", false)
  | 47 => ("SpoutNewsModel", "seatCan", "[I", true)
  | 48 => ("SpoutNewsModel", "seatTold", "[I", true)
  | 49 => ("SpoutNewsModel", "seated", "[I", true)
  | 50 => ("SpoutNewsModel", "quarrelMany", "I", false)
  | 51 => ("SpoutNewsModel", "quarrels", "[I", true)
  | 52 => ("SpoutNewsModel", "latinBut", "[I", true)
  | 53 => ("SpoutNewsModel", "masonBut", "[I", true)
  | 54 => ("SpoutNewsModel", "keptBy", "[I", true)
  | 55 => ("SpoutNewsModel", "offered", "[I", true)
  | 56 => ("SpoutNewsModel", "droughtMany", "I", false)
  | 57 => ("SpoutNewsModel", "droughts", "[I", true)
  | 58 => ("SpoutNewsModel", "chapterMany", "I", false)
  | 59 => ("SpoutNewsModel", "chapters", "[I", true)
  | 60 => ("SpoutNewsModel", "readFrom", "[I", true)
  | 61 => ("SpoutNewsModel", "isTaking", "Z", false)
  | 62 => ("SpoutNewsModel", "hasImage", "Z", false)
  | 63 => ("SpoutNewsModel", "keptAt", "I", false)
  | _ => ("SpoutNewsModel", "images", "[I", true)
def tyX12 : Nat → FieldType := fun k => match k with
  | 0 => .int
  | 1 => .array .int
  | 2 => .array .int
  | 3 => .int
  | 4 => .array .int
  | 5 => .boolean
  | 6 => .int
  | 7 => .int
  | 8 => .array .int
  | 9 => .array .int
  | 10 => .array .int
  | 11 => .array .int
  | 12 => .array .int
  | 13 => .int
  | 14 => .int
  | 15 => .int
  | 16 => .int
  | 17 => .int
  | 18 => .array .int
  | 19 => .array .int
  | 20 => .array .int
  | 21 => .array .int
  | 22 => .array .int
  | 23 => .array .int
  | 24 => .array .int
  | 25 => .array .int
  | 26 => .int
  | 27 => .int
  | 28 => .int
  | 29 => .array .int
  | 30 => .int
  | 31 => .int
  | 32 => .int
  | 33 => .int
  | 34 => .int
  | 35 => .int
  | 36 => .array .int
  | 37 => .int
  | 38 => .array .int
  | 39 => .int
  | 40 => .array .int
  | 41 => .array .int
  | 42 => .array .int
  | 43 => .int
  | 44 => .array .int
  | 45 => .array .int
  | 46 => .int
  | 47 => .array .int
  | 48 => .array .int
  | 49 => .array .int
  | 50 => .int
  | 51 => .array .int
  | 52 => .array .int
  | 53 => .array .int
  | 54 => .array .int
  | 55 => .array .int
  | 56 => .int
  | 57 => .array .int
  | 58 => .int
  | 59 => .array .int
  | 60 => .array .int
  | 61 => .boolean
  | 62 => .boolean
  | 63 => .int
  | _ => .array .int
theorem nmX12 : ∀ a, a < 65 → ∀ b, b < 65 → a ≠ b → (TX12 a).2.1 ≠ (TX12 b).2.1 := by decide +kernel
theorem tyX12_ok : ∀ k, k < 65 → parseFieldDescriptor (TX12 k).2.2.1 = some (tyX12 k) := by decide +kernel
abbrev sx_cl : List vw_C := [(RX0, TX0, 4), (RX1, TX1, 4), (RX2, TX2, 3), (RX3, TX3, 10), (RX4, TX4, 4), (RX5, TX5, 3), (RX6, TX6, 11), (RX7, TX7, 13), (RX8, TX8, 7), (RX9, TX9, 13), (RX10, TX10, 20), (RX11, TX11, 12), (RX12, TX12, 65)]
def sx_N (c : Nat) : Nat := (bif Nat.ble 6 c then (bif Nat.ble 9 c then (bif Nat.ble 11 c then (bif Nat.ble 12 c then (bif Nat.beq c 12 then 65 else 0) else (bif Nat.beq c 11 then 12 else 0)) else (bif Nat.ble 10 c then (bif Nat.beq c 10 then 20 else 0) else (bif Nat.beq c 9 then 13 else 0))) else (bif Nat.ble 7 c then (bif Nat.ble 8 c then (bif Nat.beq c 8 then 7 else 0) else (bif Nat.beq c 7 then 13 else 0)) else (bif Nat.beq c 6 then 11 else 0))) else (bif Nat.ble 3 c then (bif Nat.ble 4 c then (bif Nat.ble 5 c then (bif Nat.beq c 5 then 3 else 0) else (bif Nat.beq c 4 then 4 else 0)) else (bif Nat.beq c 3 then 10 else 0)) else (bif Nat.ble 1 c then (bif Nat.ble 2 c then (bif Nat.beq c 2 then 3 else 0) else (bif Nat.beq c 1 then 4 else 0)) else (bif Nat.beq c 0 then 4 else 0))))
def sx_T (c : Nat) : u_T := (bif Nat.ble 6 c then (bif Nat.ble 9 c then (bif Nat.ble 11 c then (bif Nat.ble 12 c then (bif Nat.beq c 12 then TX12 else TX0) else (bif Nat.beq c 11 then TX11 else TX0)) else (bif Nat.ble 10 c then (bif Nat.beq c 10 then TX10 else TX0) else (bif Nat.beq c 9 then TX9 else TX0))) else (bif Nat.ble 7 c then (bif Nat.ble 8 c then (bif Nat.beq c 8 then TX8 else TX0) else (bif Nat.beq c 7 then TX7 else TX0)) else (bif Nat.beq c 6 then TX6 else TX0))) else (bif Nat.ble 3 c then (bif Nat.ble 4 c then (bif Nat.ble 5 c then (bif Nat.beq c 5 then TX5 else TX0) else (bif Nat.beq c 4 then TX4 else TX0)) else (bif Nat.beq c 3 then TX3 else TX0)) else (bif Nat.ble 1 c then (bif Nat.ble 2 c then (bif Nat.beq c 2 then TX2 else TX0) else (bif Nat.beq c 1 then TX1 else TX0)) else (bif Nat.beq c 0 then TX0 else TX0))))
def sx_ty (c : Nat) : Nat → FieldType := (bif Nat.ble 6 c then (bif Nat.ble 9 c then (bif Nat.ble 11 c then (bif Nat.ble 12 c then (bif Nat.beq c 12 then tyX12 else tyX0) else (bif Nat.beq c 11 then tyX11 else tyX0)) else (bif Nat.ble 10 c then (bif Nat.beq c 10 then tyX10 else tyX0) else (bif Nat.beq c 9 then tyX9 else tyX0))) else (bif Nat.ble 7 c then (bif Nat.ble 8 c then (bif Nat.beq c 8 then tyX8 else tyX0) else (bif Nat.beq c 7 then tyX7 else tyX0)) else (bif Nat.beq c 6 then tyX6 else tyX0))) else (bif Nat.ble 3 c then (bif Nat.ble 4 c then (bif Nat.ble 5 c then (bif Nat.beq c 5 then tyX5 else tyX0) else (bif Nat.beq c 4 then tyX4 else tyX0)) else (bif Nat.beq c 3 then tyX3 else tyX0)) else (bif Nat.ble 1 c then (bif Nat.ble 2 c then (bif Nat.beq c 2 then tyX2 else tyX0) else (bif Nat.beq c 1 then tyX1 else tyX0)) else (bif Nat.beq c 0 then tyX0 else tyX0))))
def sx_isI (c k : Nat) : Bool := (bif Nat.ble 6 c then (bif Nat.ble 9 c then (bif Nat.ble 11 c then (bif Nat.ble 12 c then (bif Nat.beq c 12 then (bif Nat.ble 31 k then (bif Nat.ble 43 k then (bif Nat.ble 58 k then (bif Nat.ble 62 k then (bif Nat.ble 63 k then (bif Nat.beq k 63 then true else false) else (bif Nat.beq k 62 then true else false)) else (bif Nat.ble 61 k then (bif Nat.beq k 61 then true else false) else (bif Nat.beq k 58 then true else false))) else (bif Nat.ble 50 k then (bif Nat.ble 56 k then (bif Nat.beq k 56 then true else false) else (bif Nat.beq k 50 then true else false)) else (bif Nat.ble 46 k then (bif Nat.beq k 46 then true else false) else (bif Nat.beq k 43 then true else false)))) else (bif Nat.ble 34 k then (bif Nat.ble 37 k then (bif Nat.ble 39 k then (bif Nat.beq k 39 then true else false) else (bif Nat.beq k 37 then true else false)) else (bif Nat.ble 35 k then (bif Nat.beq k 35 then true else false) else (bif Nat.beq k 34 then true else false))) else (bif Nat.ble 32 k then (bif Nat.ble 33 k then (bif Nat.beq k 33 then true else false) else (bif Nat.beq k 32 then true else false)) else (bif Nat.beq k 31 then true else false)))) else (bif Nat.ble 15 k then (bif Nat.ble 26 k then (bif Nat.ble 28 k then (bif Nat.ble 30 k then (bif Nat.beq k 30 then true else false) else (bif Nat.beq k 28 then true else false)) else (bif Nat.ble 27 k then (bif Nat.beq k 27 then true else false) else (bif Nat.beq k 26 then true else false))) else (bif Nat.ble 16 k then (bif Nat.ble 17 k then (bif Nat.beq k 17 then true else false) else (bif Nat.beq k 16 then true else false)) else (bif Nat.beq k 15 then true else false))) else (bif Nat.ble 6 k then (bif Nat.ble 13 k then (bif Nat.ble 14 k then (bif Nat.beq k 14 then true else false) else (bif Nat.beq k 13 then true else false)) else (bif Nat.ble 7 k then (bif Nat.beq k 7 then true else false) else (bif Nat.beq k 6 then true else false))) else (bif Nat.ble 3 k then (bif Nat.ble 5 k then (bif Nat.beq k 5 then true else false) else (bif Nat.beq k 3 then true else false)) else (bif Nat.beq k 0 then true else false))))) else false) else (bif Nat.beq c 11 then (bif Nat.ble 8 k then (bif Nat.beq k 8 then true else false) else (bif Nat.beq k 2 then true else false)) else false)) else (bif Nat.ble 10 c then (bif Nat.beq c 10 then (bif Nat.ble 15 k then (bif Nat.ble 17 k then (bif Nat.ble 18 k then (bif Nat.ble 19 k then (bif Nat.beq k 19 then true else false) else (bif Nat.beq k 18 then true else false)) else (bif Nat.beq k 17 then true else false)) else (bif Nat.ble 16 k then (bif Nat.beq k 16 then true else false) else (bif Nat.beq k 15 then true else false))) else (bif Nat.ble 11 k then (bif Nat.ble 14 k then (bif Nat.beq k 14 then true else false) else (bif Nat.beq k 11 then true else false)) else (bif Nat.ble 8 k then (bif Nat.beq k 8 then true else false) else (bif Nat.beq k 0 then true else false)))) else false) else (bif Nat.beq c 9 then (bif Nat.ble 10 k then (bif Nat.ble 12 k then (bif Nat.beq k 12 then true else false) else (bif Nat.beq k 10 then true else false)) else (bif Nat.ble 5 k then (bif Nat.beq k 5 then true else false) else (bif Nat.beq k 2 then true else false))) else false))) else (bif Nat.ble 7 c then (bif Nat.ble 8 c then (bif Nat.beq c 8 then (bif Nat.ble 5 k then (bif Nat.ble 6 k then (bif Nat.beq k 6 then true else false) else (bif Nat.beq k 5 then true else false)) else (bif Nat.ble 4 k then (bif Nat.beq k 4 then true else false) else (bif Nat.beq k 3 then true else false))) else false) else (bif Nat.beq c 7 then (bif Nat.ble 6 k then (bif Nat.ble 11 k then (bif Nat.beq k 11 then true else false) else (bif Nat.beq k 6 then true else false)) else (bif Nat.ble 5 k then (bif Nat.beq k 5 then true else false) else (bif Nat.beq k 3 then true else false))) else false)) else (bif Nat.beq c 6 then (bif Nat.ble 5 k then (bif Nat.ble 10 k then (bif Nat.beq k 10 then true else false) else (bif Nat.beq k 5 then true else false)) else (bif Nat.beq k 2 then true else false)) else false))) else (bif Nat.ble 3 c then (bif Nat.ble 4 c then (bif Nat.ble 5 c then (bif Nat.beq c 5 then (bif Nat.ble 2 k then (bif Nat.beq k 2 then true else false) else (bif Nat.beq k 1 then true else false)) else false) else (bif Nat.beq c 4 then (bif Nat.ble 2 k then (bif Nat.ble 3 k then (bif Nat.beq k 3 then true else false) else (bif Nat.beq k 2 then true else false)) else (bif Nat.beq k 1 then true else false)) else false)) else (bif Nat.beq c 3 then (bif Nat.ble 7 k then (bif Nat.beq k 7 then true else false) else (bif Nat.beq k 2 then true else false)) else false)) else (bif Nat.ble 1 c then (bif Nat.ble 2 c then (bif Nat.beq c 2 then (bif Nat.beq k 2 then true else false) else false) else (bif Nat.beq c 1 then false else false)) else (bif Nat.beq c 0 then false else false))))
def sx_isZ (c k : Nat) : Bool := (bif Nat.ble 6 c then (bif Nat.ble 9 c then (bif Nat.ble 11 c then (bif Nat.ble 12 c then (bif Nat.beq c 12 then (bif Nat.ble 61 k then (bif Nat.ble 62 k then (bif Nat.beq k 62 then true else false) else (bif Nat.beq k 61 then true else false)) else (bif Nat.beq k 5 then true else false)) else false) else (bif Nat.beq c 11 then (bif Nat.beq k 2 then true else false) else false)) else (bif Nat.ble 10 c then (bif Nat.beq c 10 then (bif Nat.beq k 0 then true else false) else false) else (bif Nat.beq c 9 then false else false))) else (bif Nat.ble 7 c then (bif Nat.ble 8 c then (bif Nat.beq c 8 then false else false) else (bif Nat.beq c 7 then false else false)) else (bif Nat.beq c 6 then false else false))) else (bif Nat.ble 3 c then (bif Nat.ble 4 c then (bif Nat.ble 5 c then (bif Nat.beq c 5 then false else false) else (bif Nat.beq c 4 then false else false)) else (bif Nat.beq c 3 then false else false)) else (bif Nat.ble 1 c then (bif Nat.ble 2 c then (bif Nat.beq c 2 then false else false) else (bif Nat.beq c 1 then false else false)) else (bif Nat.beq c 0 then false else false))))
def sx_isF (c k : Nat) : Bool := (bif Nat.ble 6 c then (bif Nat.ble 9 c then (bif Nat.ble 11 c then (bif Nat.ble 12 c then (bif Nat.beq c 12 then (bif Nat.ble 38 k then (bif Nat.ble 51 k then (bif Nat.ble 55 k then (bif Nat.ble 59 k then (bif Nat.ble 60 k then (bif Nat.ble 64 k then (bif Nat.beq k 64 then true else false) else (bif Nat.beq k 60 then true else false)) else (bif Nat.beq k 59 then true else false)) else (bif Nat.ble 57 k then (bif Nat.beq k 57 then true else false) else (bif Nat.beq k 55 then true else false))) else (bif Nat.ble 53 k then (bif Nat.ble 54 k then (bif Nat.beq k 54 then true else false) else (bif Nat.beq k 53 then true else false)) else (bif Nat.ble 52 k then (bif Nat.beq k 52 then true else false) else (bif Nat.beq k 51 then true else false)))) else (bif Nat.ble 44 k then (bif Nat.ble 47 k then (bif Nat.ble 48 k then (bif Nat.ble 49 k then (bif Nat.beq k 49 then true else false) else (bif Nat.beq k 48 then true else false)) else (bif Nat.beq k 47 then true else false)) else (bif Nat.ble 45 k then (bif Nat.beq k 45 then true else false) else (bif Nat.beq k 44 then true else false))) else (bif Nat.ble 41 k then (bif Nat.ble 42 k then (bif Nat.beq k 42 then true else false) else (bif Nat.beq k 41 then true else false)) else (bif Nat.ble 40 k then (bif Nat.beq k 40 then true else false) else (bif Nat.beq k 38 then true else false))))) else (bif Nat.ble 19 k then (bif Nat.ble 23 k then (bif Nat.ble 25 k then (bif Nat.ble 29 k then (bif Nat.ble 36 k then (bif Nat.beq k 36 then true else false) else (bif Nat.beq k 29 then true else false)) else (bif Nat.beq k 25 then true else false)) else (bif Nat.ble 24 k then (bif Nat.beq k 24 then true else false) else (bif Nat.beq k 23 then true else false))) else (bif Nat.ble 21 k then (bif Nat.ble 22 k then (bif Nat.beq k 22 then true else false) else (bif Nat.beq k 21 then true else false)) else (bif Nat.ble 20 k then (bif Nat.beq k 20 then true else false) else (bif Nat.beq k 19 then true else false)))) else (bif Nat.ble 9 k then (bif Nat.ble 11 k then (bif Nat.ble 12 k then (bif Nat.ble 18 k then (bif Nat.beq k 18 then true else false) else (bif Nat.beq k 12 then true else false)) else (bif Nat.beq k 11 then true else false)) else (bif Nat.ble 10 k then (bif Nat.beq k 10 then true else false) else (bif Nat.beq k 9 then true else false))) else (bif Nat.ble 4 k then (bif Nat.ble 8 k then (bif Nat.beq k 8 then true else false) else (bif Nat.beq k 4 then true else false)) else (bif Nat.ble 2 k then (bif Nat.beq k 2 then true else false) else (bif Nat.beq k 1 then true else false)))))) else false) else (bif Nat.beq c 11 then (bif Nat.ble 6 k then (bif Nat.ble 9 k then (bif Nat.ble 10 k then (bif Nat.ble 11 k then (bif Nat.beq k 11 then true else false) else (bif Nat.beq k 10 then true else false)) else (bif Nat.beq k 9 then true else false)) else (bif Nat.ble 7 k then (bif Nat.beq k 7 then true else false) else (bif Nat.beq k 6 then true else false))) else (bif Nat.ble 3 k then (bif Nat.ble 4 k then (bif Nat.ble 5 k then (bif Nat.beq k 5 then true else false) else (bif Nat.beq k 4 then true else false)) else (bif Nat.beq k 3 then true else false)) else (bif Nat.ble 1 k then (bif Nat.beq k 1 then true else false) else (bif Nat.beq k 0 then true else false)))) else false)) else (bif Nat.ble 10 c then (bif Nat.beq c 10 then (bif Nat.ble 6 k then (bif Nat.ble 10 k then (bif Nat.ble 12 k then (bif Nat.ble 13 k then (bif Nat.beq k 13 then true else false) else (bif Nat.beq k 12 then true else false)) else (bif Nat.beq k 10 then true else false)) else (bif Nat.ble 7 k then (bif Nat.ble 9 k then (bif Nat.beq k 9 then true else false) else (bif Nat.beq k 7 then true else false)) else (bif Nat.beq k 6 then true else false))) else (bif Nat.ble 3 k then (bif Nat.ble 4 k then (bif Nat.ble 5 k then (bif Nat.beq k 5 then true else false) else (bif Nat.beq k 4 then true else false)) else (bif Nat.beq k 3 then true else false)) else (bif Nat.ble 1 k then (bif Nat.ble 2 k then (bif Nat.beq k 2 then true else false) else (bif Nat.beq k 1 then true else false)) else (bif Nat.beq k 0 then true else false)))) else false) else (bif Nat.beq c 9 then (bif Nat.ble 6 k then (bif Nat.ble 8 k then (bif Nat.ble 9 k then (bif Nat.ble 11 k then (bif Nat.beq k 11 then true else false) else (bif Nat.beq k 9 then true else false)) else (bif Nat.beq k 8 then true else false)) else (bif Nat.ble 7 k then (bif Nat.beq k 7 then true else false) else (bif Nat.beq k 6 then true else false))) else (bif Nat.ble 3 k then (bif Nat.ble 4 k then (bif Nat.beq k 4 then true else false) else (bif Nat.beq k 3 then true else false)) else (bif Nat.ble 1 k then (bif Nat.beq k 1 then true else false) else (bif Nat.beq k 0 then true else false)))) else false))) else (bif Nat.ble 7 c then (bif Nat.ble 8 c then (bif Nat.beq c 8 then (bif Nat.ble 1 k then (bif Nat.ble 2 k then (bif Nat.beq k 2 then true else false) else (bif Nat.beq k 1 then true else false)) else (bif Nat.beq k 0 then true else false)) else false) else (bif Nat.beq c 7 then (bif Nat.ble 7 k then (bif Nat.ble 9 k then (bif Nat.ble 10 k then (bif Nat.ble 12 k then (bif Nat.beq k 12 then true else false) else (bif Nat.beq k 10 then true else false)) else (bif Nat.beq k 9 then true else false)) else (bif Nat.ble 8 k then (bif Nat.beq k 8 then true else false) else (bif Nat.beq k 7 then true else false))) else (bif Nat.ble 2 k then (bif Nat.ble 4 k then (bif Nat.beq k 4 then true else false) else (bif Nat.beq k 2 then true else false)) else (bif Nat.ble 1 k then (bif Nat.beq k 1 then true else false) else (bif Nat.beq k 0 then true else false)))) else false)) else (bif Nat.beq c 6 then (bif Nat.ble 6 k then (bif Nat.ble 8 k then (bif Nat.ble 9 k then (bif Nat.beq k 9 then true else false) else (bif Nat.beq k 8 then true else false)) else (bif Nat.ble 7 k then (bif Nat.beq k 7 then true else false) else (bif Nat.beq k 6 then true else false))) else (bif Nat.ble 3 k then (bif Nat.ble 4 k then (bif Nat.beq k 4 then true else false) else (bif Nat.beq k 3 then true else false)) else (bif Nat.ble 1 k then (bif Nat.beq k 1 then true else false) else (bif Nat.beq k 0 then true else false)))) else false))) else (bif Nat.ble 3 c then (bif Nat.ble 4 c then (bif Nat.ble 5 c then (bif Nat.beq c 5 then (bif Nat.beq k 0 then true else false) else false) else (bif Nat.beq c 4 then (bif Nat.beq k 0 then true else false) else false)) else (bif Nat.beq c 3 then (bif Nat.ble 5 k then (bif Nat.ble 8 k then (bif Nat.ble 9 k then (bif Nat.beq k 9 then true else false) else (bif Nat.beq k 8 then true else false)) else (bif Nat.ble 6 k then (bif Nat.beq k 6 then true else false) else (bif Nat.beq k 5 then true else false))) else (bif Nat.ble 3 k then (bif Nat.ble 4 k then (bif Nat.beq k 4 then true else false) else (bif Nat.beq k 3 then true else false)) else (bif Nat.ble 1 k then (bif Nat.beq k 1 then true else false) else (bif Nat.beq k 0 then true else false)))) else false)) else (bif Nat.ble 1 c then (bif Nat.ble 2 c then (bif Nat.beq c 2 then (bif Nat.ble 1 k then (bif Nat.beq k 1 then true else false) else (bif Nat.beq k 0 then true else false)) else false) else (bif Nat.beq c 1 then (bif Nat.ble 2 k then (bif Nat.ble 3 k then (bif Nat.beq k 3 then true else false) else (bif Nat.beq k 2 then true else false)) else (bif Nat.ble 1 k then (bif Nat.beq k 1 then true else false) else (bif Nat.beq k 0 then true else false))) else false)) else (bif Nat.beq c 0 then (bif Nat.ble 2 k then (bif Nat.ble 3 k then (bif Nat.beq k 3 then true else false) else (bif Nat.beq k 2 then true else false)) else (bif Nat.ble 1 k then (bif Nat.beq k 1 then true else false) else (bif Nat.beq k 0 then true else false))) else false))))
def sx_cn (c : Nat) : String := (bif Nat.ble 11 c then (bif Nat.ble 16 c then (bif Nat.ble 19 c then (bif Nat.ble 20 c then (bif Nat.ble 21 c then (bif Nat.beq c 21 then "jdk/internal/util/Preconditions" else "") else (bif Nat.beq c 20 then "java/util/Arrays" else "")) else (bif Nat.beq c 19 then "java/lang/StringUTF16" else "")) else (bif Nat.ble 17 c then (bif Nat.ble 18 c then (bif Nat.beq c 18 then "java/lang/StringLatin1" else "") else (bif Nat.beq c 17 then "java/lang/String" else "")) else (bif Nat.beq c 16 then "java/lang/Object" else ""))) else (bif Nat.ble 13 c then (bif Nat.ble 14 c then (bif Nat.ble 15 c then (bif Nat.beq c 15 then "java/lang/Math" else "") else (bif Nat.beq c 14 then "java/lang/Integer" else "")) else (bif Nat.beq c 13 then "SpoutNewsLaw" else "")) else (bif Nat.ble 12 c then (bif Nat.beq c 12 then RX12 else "") else (bif Nat.beq c 11 then RX11 else "")))) else (bif Nat.ble 5 c then (bif Nat.ble 8 c then (bif Nat.ble 9 c then (bif Nat.ble 10 c then (bif Nat.beq c 10 then RX10 else "") else (bif Nat.beq c 9 then RX9 else "")) else (bif Nat.beq c 8 then RX8 else "")) else (bif Nat.ble 6 c then (bif Nat.ble 7 c then (bif Nat.beq c 7 then RX7 else "") else (bif Nat.beq c 6 then RX6 else "")) else (bif Nat.beq c 5 then RX5 else ""))) else (bif Nat.ble 2 c then (bif Nat.ble 3 c then (bif Nat.ble 4 c then (bif Nat.beq c 4 then RX4 else "") else (bif Nat.beq c 3 then RX3 else "")) else (bif Nat.beq c 2 then RX2 else "")) else (bif Nat.ble 1 c then (bif Nat.beq c 1 then RX1 else "") else (bif Nat.beq c 0 then RX0 else "")))))
def sx_tb : List Cond := lw_tbl.filter goodWord
theorem sx_tb_mm {w : Cond} (h : w ∈ lw_tbl) (hg : goodWord w = true) : w ∈ sx_tb := List.mem_filter.mpr ⟨h, hg⟩
theorem sx_tb_in {w : Cond} (i : Nat) (h : lw_tbl[i]? = some w) (hg : goodWord w = true) : w ∈ sx_tb := List.mem_filter.mpr ⟨List.mem_of_getElem? h, hg⟩
set_option maxRecDepth 100000 in
theorem inX0 : ∀ w ∈ u_ws RX0 TX0 4, w ∈ sx_tb := by
  have h : ∀ e ∈ ([(302, 0), (304, 1), (306, 2), (308, 3)] : List (Nat × Nat)), u_lay RX0 TX0 e.2 ∈ lw_tbl := List.forall_mem_cons.mpr ⟨(lw_t1 (tq_1_10 _ (List.mem_of_getElem? (i := 8) rfl))), List.forall_mem_cons.mpr ⟨(lw_t1 (tq_1_10 _ (List.mem_of_getElem? (i := 10) rfl))), List.forall_mem_cons.mpr ⟨(lw_t1 (tq_1_10 _ (List.mem_of_getElem? (i := 12) rfl))), List.forall_mem_cons.mpr ⟨(lw_t1 (tq_1_10 _ (List.mem_of_getElem? (i := 14) rfl))), fun _ h => absurd h List.not_mem_nil⟩⟩⟩⟩
  intro w hw
  obtain ⟨k, hk, rfl⟩ := List.mem_map.mp hw
  have hk := List.mem_range.mp hk
  have h2 : ∃ p, (p, k) ∈ ([(302, 0), (304, 1), (306, 2), (308, 3)] : List (Nat × Nat)) := by
    have h3 : ∀ k, k < 4 → ([(302, 0), (304, 1), (306, 2), (308, 3)] : List (Nat × Nat)).any (fun e => e.2 == k) = true := by decide +kernel
    obtain ⟨e, he, hq⟩ := List.any_eq_true.mp (h3 k hk)
    exact ⟨e.1, by rw [← (beq_iff_eq.mp hq)]; exact he⟩
  obtain ⟨p, hp⟩ := h2
  exact sx_tb_mm (h _ hp) (by unfold u_lay; split <;> rfl)
set_option maxRecDepth 100000 in
theorem inX1 : ∀ w ∈ u_ws RX1 TX1 4, w ∈ sx_tb := by
  have h : ∀ e ∈ ([(478, 0), (480, 1), (482, 2), (484, 3)] : List (Nat × Nat)), u_lay RX1 TX1 e.2 ∈ lw_tbl := List.forall_mem_cons.mpr ⟨(lw_t1 (tq_2_6 _ (List.mem_of_getElem? (i := 8) rfl))), List.forall_mem_cons.mpr ⟨(lw_t1 (tq_2_6 _ (List.mem_of_getElem? (i := 10) rfl))), List.forall_mem_cons.mpr ⟨(lw_t1 (tq_2_6 _ (List.mem_of_getElem? (i := 12) rfl))), List.forall_mem_cons.mpr ⟨(lw_t1 (tq_2_6 _ (List.mem_of_getElem? (i := 14) rfl))), fun _ h => absurd h List.not_mem_nil⟩⟩⟩⟩
  intro w hw
  obtain ⟨k, hk, rfl⟩ := List.mem_map.mp hw
  have hk := List.mem_range.mp hk
  have h2 : ∃ p, (p, k) ∈ ([(478, 0), (480, 1), (482, 2), (484, 3)] : List (Nat × Nat)) := by
    have h3 : ∀ k, k < 4 → ([(478, 0), (480, 1), (482, 2), (484, 3)] : List (Nat × Nat)).any (fun e => e.2 == k) = true := by decide +kernel
    obtain ⟨e, he, hq⟩ := List.any_eq_true.mp (h3 k hk)
    exact ⟨e.1, by rw [← (beq_iff_eq.mp hq)]; exact he⟩
  obtain ⟨p, hp⟩ := h2
  exact sx_tb_mm (h _ hp) (by unfold u_lay; split <;> rfl)
set_option maxRecDepth 100000 in
theorem inX2 : ∀ w ∈ u_ws RX2 TX2 3, w ∈ sx_tb := by
  have h : ∀ e ∈ ([(518, 0), (520, 1), (522, 2)] : List (Nat × Nat)), u_lay RX2 TX2 e.2 ∈ lw_tbl := List.forall_mem_cons.mpr ⟨(lw_t1 (tq_2_9 _ (List.mem_of_getElem? (i := 0) rfl))), List.forall_mem_cons.mpr ⟨(lw_t1 (tq_2_9 _ (List.mem_of_getElem? (i := 2) rfl))), List.forall_mem_cons.mpr ⟨(lw_t1 (tq_2_9 _ (List.mem_of_getElem? (i := 4) rfl))), fun _ h => absurd h List.not_mem_nil⟩⟩⟩
  intro w hw
  obtain ⟨k, hk, rfl⟩ := List.mem_map.mp hw
  have hk := List.mem_range.mp hk
  have h2 : ∃ p, (p, k) ∈ ([(518, 0), (520, 1), (522, 2)] : List (Nat × Nat)) := by
    have h3 : ∀ k, k < 3 → ([(518, 0), (520, 1), (522, 2)] : List (Nat × Nat)).any (fun e => e.2 == k) = true := by decide +kernel
    obtain ⟨e, he, hq⟩ := List.any_eq_true.mp (h3 k hk)
    exact ⟨e.1, by rw [← (beq_iff_eq.mp hq)]; exact he⟩
  obtain ⟨p, hp⟩ := h2
  exact sx_tb_mm (h _ hp) (by unfold u_lay; split <;> rfl)
set_option maxRecDepth 100000 in
theorem inX3 : ∀ w ∈ u_ws RX3 TX3 10, w ∈ sx_tb := by
  have h : ∀ e ∈ ([(335, 0), (337, 1), (339, 2), (341, 3), (343, 4), (345, 5), (347, 6), (349, 7), (351, 8), (353, 9)] : List (Nat × Nat)), u_lay RX3 TX3 e.2 ∈ lw_tbl := List.forall_mem_cons.mpr ⟨(lw_t1 (tq_1_12 _ (List.mem_of_getElem? (i := 9) rfl))), List.forall_mem_cons.mpr ⟨(lw_t1 (tq_1_12 _ (List.mem_of_getElem? (i := 11) rfl))), List.forall_mem_cons.mpr ⟨(lw_t1 (tq_1_12 _ (List.mem_of_getElem? (i := 13) rfl))), List.forall_mem_cons.mpr ⟨(lw_t1 (tq_1_12 _ (List.mem_of_getElem? (i := 15) rfl))), List.forall_mem_cons.mpr ⟨(lw_t1 (tq_1_13 _ (List.mem_of_getElem? (i := 1) rfl))), List.forall_mem_cons.mpr ⟨(lw_t1 (tq_1_13 _ (List.mem_of_getElem? (i := 3) rfl))), List.forall_mem_cons.mpr ⟨(lw_t1 (tq_1_13 _ (List.mem_of_getElem? (i := 5) rfl))), List.forall_mem_cons.mpr ⟨(lw_t1 (tq_1_13 _ (List.mem_of_getElem? (i := 7) rfl))), List.forall_mem_cons.mpr ⟨(lw_t1 (tq_1_13 _ (List.mem_of_getElem? (i := 9) rfl))), List.forall_mem_cons.mpr ⟨(lw_t1 (tq_1_13 _ (List.mem_of_getElem? (i := 11) rfl))), fun _ h => absurd h List.not_mem_nil⟩⟩⟩⟩⟩⟩⟩⟩⟩⟩
  intro w hw
  obtain ⟨k, hk, rfl⟩ := List.mem_map.mp hw
  have hk := List.mem_range.mp hk
  have h2 : ∃ p, (p, k) ∈ ([(335, 0), (337, 1), (339, 2), (341, 3), (343, 4), (345, 5), (347, 6), (349, 7), (351, 8), (353, 9)] : List (Nat × Nat)) := by
    have h3 : ∀ k, k < 10 → ([(335, 0), (337, 1), (339, 2), (341, 3), (343, 4), (345, 5), (347, 6), (349, 7), (351, 8), (353, 9)] : List (Nat × Nat)).any (fun e => e.2 == k) = true := by decide +kernel
    obtain ⟨e, he, hq⟩ := List.any_eq_true.mp (h3 k hk)
    exact ⟨e.1, by rw [← (beq_iff_eq.mp hq)]; exact he⟩
  obtain ⟨p, hp⟩ := h2
  exact sx_tb_mm (h _ hp) (by unfold u_lay; split <;> rfl)
set_option maxRecDepth 100000 in
theorem inX4 : ∀ w ∈ u_ws RX4 TX4 4, w ∈ sx_tb := by
  have h : ∀ e ∈ ([(618, 0), (620, 1), (622, 2), (624, 3)] : List (Nat × Nat)), u_lay RX4 TX4 e.2 ∈ lw_tbl := List.forall_mem_cons.mpr ⟨(lw_t1 (tq_3_0 _ (List.mem_of_getElem? (i := 4) rfl))), List.forall_mem_cons.mpr ⟨(lw_t1 (tq_3_0 _ (List.mem_of_getElem? (i := 6) rfl))), List.forall_mem_cons.mpr ⟨(lw_t1 (tq_3_0 _ (List.mem_of_getElem? (i := 8) rfl))), List.forall_mem_cons.mpr ⟨(lw_t1 (tq_3_0 _ (List.mem_of_getElem? (i := 10) rfl))), fun _ h => absurd h List.not_mem_nil⟩⟩⟩⟩
  intro w hw
  obtain ⟨k, hk, rfl⟩ := List.mem_map.mp hw
  have hk := List.mem_range.mp hk
  have h2 : ∃ p, (p, k) ∈ ([(618, 0), (620, 1), (622, 2), (624, 3)] : List (Nat × Nat)) := by
    have h3 : ∀ k, k < 4 → ([(618, 0), (620, 1), (622, 2), (624, 3)] : List (Nat × Nat)).any (fun e => e.2 == k) = true := by decide +kernel
    obtain ⟨e, he, hq⟩ := List.any_eq_true.mp (h3 k hk)
    exact ⟨e.1, by rw [← (beq_iff_eq.mp hq)]; exact he⟩
  obtain ⟨p, hp⟩ := h2
  exact sx_tb_mm (h _ hp) (by unfold u_lay; split <;> rfl)
set_option maxRecDepth 100000 in
theorem inX5 : ∀ w ∈ u_ws RX5 TX5 3, w ∈ sx_tb := by
  have h : ∀ e ∈ ([(500, 0), (502, 1), (504, 2)] : List (Nat × Nat)), u_lay RX5 TX5 e.2 ∈ lw_tbl := List.forall_mem_cons.mpr ⟨(lw_t1 (tq_2_7 _ (List.mem_of_getElem? (i := 14) rfl))), List.forall_mem_cons.mpr ⟨(lw_t1 (tq_2_8 _ (List.mem_of_getElem? (i := 0) rfl))), List.forall_mem_cons.mpr ⟨(lw_t1 (tq_2_8 _ (List.mem_of_getElem? (i := 2) rfl))), fun _ h => absurd h List.not_mem_nil⟩⟩⟩
  intro w hw
  obtain ⟨k, hk, rfl⟩ := List.mem_map.mp hw
  have hk := List.mem_range.mp hk
  have h2 : ∃ p, (p, k) ∈ ([(500, 0), (502, 1), (504, 2)] : List (Nat × Nat)) := by
    have h3 : ∀ k, k < 3 → ([(500, 0), (502, 1), (504, 2)] : List (Nat × Nat)).any (fun e => e.2 == k) = true := by decide +kernel
    obtain ⟨e, he, hq⟩ := List.any_eq_true.mp (h3 k hk)
    exact ⟨e.1, by rw [← (beq_iff_eq.mp hq)]; exact he⟩
  obtain ⟨p, hp⟩ := h2
  exact sx_tb_mm (h _ hp) (by unfold u_lay; split <;> rfl)
set_option maxRecDepth 100000 in
theorem inX6 : ∀ w ∈ u_ws RX6 TX6 11, w ∈ sx_tb := by
  have h : ∀ e ∈ ([(378, 0), (380, 1), (382, 2), (384, 3), (386, 4), (388, 5), (390, 6), (392, 7), (394, 8), (396, 9), (398, 10)] : List (Nat × Nat)), u_lay RX6 TX6 e.2 ∈ lw_tbl := List.forall_mem_cons.mpr ⟨(lw_t1 (tq_2_0 _ (List.mem_of_getElem? (i := 4) rfl))), List.forall_mem_cons.mpr ⟨(lw_t1 (tq_2_0 _ (List.mem_of_getElem? (i := 6) rfl))), List.forall_mem_cons.mpr ⟨(lw_t1 (tq_2_0 _ (List.mem_of_getElem? (i := 8) rfl))), List.forall_mem_cons.mpr ⟨(lw_t1 (tq_2_0 _ (List.mem_of_getElem? (i := 10) rfl))), List.forall_mem_cons.mpr ⟨(lw_t1 (tq_2_0 _ (List.mem_of_getElem? (i := 12) rfl))), List.forall_mem_cons.mpr ⟨(lw_t1 (tq_2_0 _ (List.mem_of_getElem? (i := 14) rfl))), List.forall_mem_cons.mpr ⟨(lw_t1 (tq_2_1 _ (List.mem_of_getElem? (i := 0) rfl))), List.forall_mem_cons.mpr ⟨(lw_t1 (tq_2_1 _ (List.mem_of_getElem? (i := 2) rfl))), List.forall_mem_cons.mpr ⟨(lw_t1 (tq_2_1 _ (List.mem_of_getElem? (i := 4) rfl))), List.forall_mem_cons.mpr ⟨(lw_t1 (tq_2_1 _ (List.mem_of_getElem? (i := 6) rfl))), List.forall_mem_cons.mpr ⟨(lw_t1 (tq_2_1 _ (List.mem_of_getElem? (i := 8) rfl))), fun _ h => absurd h List.not_mem_nil⟩⟩⟩⟩⟩⟩⟩⟩⟩⟩⟩
  intro w hw
  obtain ⟨k, hk, rfl⟩ := List.mem_map.mp hw
  have hk := List.mem_range.mp hk
  have h2 : ∃ p, (p, k) ∈ ([(378, 0), (380, 1), (382, 2), (384, 3), (386, 4), (388, 5), (390, 6), (392, 7), (394, 8), (396, 9), (398, 10)] : List (Nat × Nat)) := by
    have h3 : ∀ k, k < 11 → ([(378, 0), (380, 1), (382, 2), (384, 3), (386, 4), (388, 5), (390, 6), (392, 7), (394, 8), (396, 9), (398, 10)] : List (Nat × Nat)).any (fun e => e.2 == k) = true := by decide +kernel
    obtain ⟨e, he, hq⟩ := List.any_eq_true.mp (h3 k hk)
    exact ⟨e.1, by rw [← (beq_iff_eq.mp hq)]; exact he⟩
  obtain ⟨p, hp⟩ := h2
  exact sx_tb_mm (h _ hp) (by unfold u_lay; split <;> rfl)
set_option maxRecDepth 100000 in
theorem inX7 : ∀ w ∈ u_ws RX7 TX7 13, w ∈ sx_tb := by
  have h : ∀ e ∈ ([(549, 0), (551, 1), (553, 2), (555, 3), (557, 4), (559, 5), (561, 6), (563, 7), (565, 8), (567, 9), (569, 10), (571, 11), (573, 12)] : List (Nat × Nat)), u_lay RX7 TX7 e.2 ∈ lw_tbl := List.forall_mem_cons.mpr ⟨(lw_t1 (tq_2_10 _ (List.mem_of_getElem? (i := 15) rfl))), List.forall_mem_cons.mpr ⟨(lw_t1 (tq_2_11 _ (List.mem_of_getElem? (i := 1) rfl))), List.forall_mem_cons.mpr ⟨(lw_t1 (tq_2_11 _ (List.mem_of_getElem? (i := 3) rfl))), List.forall_mem_cons.mpr ⟨(lw_t1 (tq_2_11 _ (List.mem_of_getElem? (i := 5) rfl))), List.forall_mem_cons.mpr ⟨(lw_t1 (tq_2_11 _ (List.mem_of_getElem? (i := 7) rfl))), List.forall_mem_cons.mpr ⟨(lw_t1 (tq_2_11 _ (List.mem_of_getElem? (i := 9) rfl))), List.forall_mem_cons.mpr ⟨(lw_t1 (tq_2_11 _ (List.mem_of_getElem? (i := 11) rfl))), List.forall_mem_cons.mpr ⟨(lw_t1 (tq_2_11 _ (List.mem_of_getElem? (i := 13) rfl))), List.forall_mem_cons.mpr ⟨(lw_t1 (tq_2_11 _ (List.mem_of_getElem? (i := 15) rfl))), List.forall_mem_cons.mpr ⟨(lw_t1 (tq_2_12 _ (List.mem_of_getElem? (i := 1) rfl))), List.forall_mem_cons.mpr ⟨(lw_t1 (tq_2_12 _ (List.mem_of_getElem? (i := 3) rfl))), List.forall_mem_cons.mpr ⟨(lw_t1 (tq_2_12 _ (List.mem_of_getElem? (i := 5) rfl))), List.forall_mem_cons.mpr ⟨(lw_t1 (tq_2_12 _ (List.mem_of_getElem? (i := 7) rfl))), fun _ h => absurd h List.not_mem_nil⟩⟩⟩⟩⟩⟩⟩⟩⟩⟩⟩⟩⟩
  intro w hw
  obtain ⟨k, hk, rfl⟩ := List.mem_map.mp hw
  have hk := List.mem_range.mp hk
  have h2 : ∃ p, (p, k) ∈ ([(549, 0), (551, 1), (553, 2), (555, 3), (557, 4), (559, 5), (561, 6), (563, 7), (565, 8), (567, 9), (569, 10), (571, 11), (573, 12)] : List (Nat × Nat)) := by
    have h3 : ∀ k, k < 13 → ([(549, 0), (551, 1), (553, 2), (555, 3), (557, 4), (559, 5), (561, 6), (563, 7), (565, 8), (567, 9), (569, 10), (571, 11), (573, 12)] : List (Nat × Nat)).any (fun e => e.2 == k) = true := by decide +kernel
    obtain ⟨e, he, hq⟩ := List.any_eq_true.mp (h3 k hk)
    exact ⟨e.1, by rw [← (beq_iff_eq.mp hq)]; exact he⟩
  obtain ⟨p, hp⟩ := h2
  exact sx_tb_mm (h _ hp) (by unfold u_lay; split <;> rfl)
set_option maxRecDepth 100000 in
theorem inX8 : ∀ w ∈ u_ws RX8 TX8 7, w ∈ sx_tb := by
  have h : ∀ e ∈ ([(591, 0), (593, 1), (595, 2), (597, 3), (599, 4), (601, 5), (603, 6)] : List (Nat × Nat)), u_lay RX8 TX8 e.2 ∈ lw_tbl := List.forall_mem_cons.mpr ⟨(lw_t1 (tq_2_13 _ (List.mem_of_getElem? (i := 9) rfl))), List.forall_mem_cons.mpr ⟨(lw_t1 (tq_2_13 _ (List.mem_of_getElem? (i := 11) rfl))), List.forall_mem_cons.mpr ⟨(lw_t1 (tq_2_13 _ (List.mem_of_getElem? (i := 13) rfl))), List.forall_mem_cons.mpr ⟨(lw_t1 (tq_2_13 _ (List.mem_of_getElem? (i := 15) rfl))), List.forall_mem_cons.mpr ⟨(lw_t1 (tq_2_14 _ (List.mem_of_getElem? (i := 1) rfl))), List.forall_mem_cons.mpr ⟨(lw_t1 (tq_2_14 _ (List.mem_of_getElem? (i := 3) rfl))), List.forall_mem_cons.mpr ⟨(lw_t1 (tq_2_14 _ (List.mem_of_getElem? (i := 5) rfl))), fun _ h => absurd h List.not_mem_nil⟩⟩⟩⟩⟩⟩⟩
  intro w hw
  obtain ⟨k, hk, rfl⟩ := List.mem_map.mp hw
  have hk := List.mem_range.mp hk
  have h2 : ∃ p, (p, k) ∈ ([(591, 0), (593, 1), (595, 2), (597, 3), (599, 4), (601, 5), (603, 6)] : List (Nat × Nat)) := by
    have h3 : ∀ k, k < 7 → ([(591, 0), (593, 1), (595, 2), (597, 3), (599, 4), (601, 5), (603, 6)] : List (Nat × Nat)).any (fun e => e.2 == k) = true := by decide +kernel
    obtain ⟨e, he, hq⟩ := List.any_eq_true.mp (h3 k hk)
    exact ⟨e.1, by rw [← (beq_iff_eq.mp hq)]; exact he⟩
  obtain ⟨p, hp⟩ := h2
  exact sx_tb_mm (h _ hp) (by unfold u_lay; split <;> rfl)
set_option maxRecDepth 100000 in
theorem inX9 : ∀ w ∈ u_ws RX9 TX9 13, w ∈ sx_tb := by
  have h : ∀ e ∈ ([(443, 0), (445, 1), (447, 2), (449, 3), (451, 4), (453, 5), (455, 6), (457, 7), (459, 8), (461, 9), (463, 10), (465, 11), (467, 12)] : List (Nat × Nat)), u_lay RX9 TX9 e.2 ∈ lw_tbl := List.forall_mem_cons.mpr ⟨(lw_t1 (tq_2_4 _ (List.mem_of_getElem? (i := 5) rfl))), List.forall_mem_cons.mpr ⟨(lw_t1 (tq_2_4 _ (List.mem_of_getElem? (i := 7) rfl))), List.forall_mem_cons.mpr ⟨(lw_t1 (tq_2_4 _ (List.mem_of_getElem? (i := 9) rfl))), List.forall_mem_cons.mpr ⟨(lw_t1 (tq_2_4 _ (List.mem_of_getElem? (i := 11) rfl))), List.forall_mem_cons.mpr ⟨(lw_t1 (tq_2_4 _ (List.mem_of_getElem? (i := 13) rfl))), List.forall_mem_cons.mpr ⟨(lw_t1 (tq_2_4 _ (List.mem_of_getElem? (i := 15) rfl))), List.forall_mem_cons.mpr ⟨(lw_t1 (tq_2_5 _ (List.mem_of_getElem? (i := 1) rfl))), List.forall_mem_cons.mpr ⟨(lw_t1 (tq_2_5 _ (List.mem_of_getElem? (i := 3) rfl))), List.forall_mem_cons.mpr ⟨(lw_t1 (tq_2_5 _ (List.mem_of_getElem? (i := 5) rfl))), List.forall_mem_cons.mpr ⟨(lw_t1 (tq_2_5 _ (List.mem_of_getElem? (i := 7) rfl))), List.forall_mem_cons.mpr ⟨(lw_t1 (tq_2_5 _ (List.mem_of_getElem? (i := 9) rfl))), List.forall_mem_cons.mpr ⟨(lw_t1 (tq_2_5 _ (List.mem_of_getElem? (i := 11) rfl))), List.forall_mem_cons.mpr ⟨(lw_t1 (tq_2_5 _ (List.mem_of_getElem? (i := 13) rfl))), fun _ h => absurd h List.not_mem_nil⟩⟩⟩⟩⟩⟩⟩⟩⟩⟩⟩⟩⟩
  intro w hw
  obtain ⟨k, hk, rfl⟩ := List.mem_map.mp hw
  have hk := List.mem_range.mp hk
  have h2 : ∃ p, (p, k) ∈ ([(443, 0), (445, 1), (447, 2), (449, 3), (451, 4), (453, 5), (455, 6), (457, 7), (459, 8), (461, 9), (463, 10), (465, 11), (467, 12)] : List (Nat × Nat)) := by
    have h3 : ∀ k, k < 13 → ([(443, 0), (445, 1), (447, 2), (449, 3), (451, 4), (453, 5), (455, 6), (457, 7), (459, 8), (461, 9), (463, 10), (465, 11), (467, 12)] : List (Nat × Nat)).any (fun e => e.2 == k) = true := by decide +kernel
    obtain ⟨e, he, hq⟩ := List.any_eq_true.mp (h3 k hk)
    exact ⟨e.1, by rw [← (beq_iff_eq.mp hq)]; exact he⟩
  obtain ⟨p, hp⟩ := h2
  exact sx_tb_mm (h _ hp) (by unfold u_lay; split <;> rfl)
set_option maxRecDepth 100000 in
theorem inX10 : ∀ w ∈ u_ws RX10 TX10 20, w ∈ sx_tb := by
  have h : ∀ e ∈ ([(246, 0), (248, 1), (250, 2), (252, 3), (254, 4), (256, 5), (258, 6), (260, 7), (262, 8), (264, 9), (266, 10), (268, 11), (270, 12), (272, 13), (274, 14), (276, 15), (278, 16), (280, 17), (282, 18), (284, 19)] : List (Nat × Nat)), u_lay RX10 TX10 e.2 ∈ lw_tbl := List.forall_mem_cons.mpr ⟨(lw_t1 (tq_1_7 _ (List.mem_of_getElem? (i := 0) rfl))), List.forall_mem_cons.mpr ⟨(lw_t1 (tq_1_7 _ (List.mem_of_getElem? (i := 2) rfl))), List.forall_mem_cons.mpr ⟨(lw_t1 (tq_1_7 _ (List.mem_of_getElem? (i := 4) rfl))), List.forall_mem_cons.mpr ⟨(lw_t1 (tq_1_7 _ (List.mem_of_getElem? (i := 6) rfl))), List.forall_mem_cons.mpr ⟨(lw_t1 (tq_1_7 _ (List.mem_of_getElem? (i := 8) rfl))), List.forall_mem_cons.mpr ⟨(lw_t1 (tq_1_7 _ (List.mem_of_getElem? (i := 10) rfl))), List.forall_mem_cons.mpr ⟨(lw_t1 (tq_1_7 _ (List.mem_of_getElem? (i := 12) rfl))), List.forall_mem_cons.mpr ⟨(lw_t1 (tq_1_7 _ (List.mem_of_getElem? (i := 14) rfl))), List.forall_mem_cons.mpr ⟨(lw_t1 (tq_1_8 _ (List.mem_of_getElem? (i := 0) rfl))), List.forall_mem_cons.mpr ⟨(lw_t1 (tq_1_8 _ (List.mem_of_getElem? (i := 2) rfl))), List.forall_mem_cons.mpr ⟨(lw_t1 (tq_1_8 _ (List.mem_of_getElem? (i := 4) rfl))), List.forall_mem_cons.mpr ⟨(lw_t1 (tq_1_8 _ (List.mem_of_getElem? (i := 6) rfl))), List.forall_mem_cons.mpr ⟨(lw_t1 (tq_1_8 _ (List.mem_of_getElem? (i := 8) rfl))), List.forall_mem_cons.mpr ⟨(lw_t1 (tq_1_8 _ (List.mem_of_getElem? (i := 10) rfl))), List.forall_mem_cons.mpr ⟨(lw_t1 (tq_1_8 _ (List.mem_of_getElem? (i := 12) rfl))), List.forall_mem_cons.mpr ⟨(lw_t1 (tq_1_8 _ (List.mem_of_getElem? (i := 14) rfl))), List.forall_mem_cons.mpr ⟨(lw_t1 (tq_1_9 _ (List.mem_of_getElem? (i := 0) rfl))), List.forall_mem_cons.mpr ⟨(lw_t1 (tq_1_9 _ (List.mem_of_getElem? (i := 2) rfl))), List.forall_mem_cons.mpr ⟨(lw_t1 (tq_1_9 _ (List.mem_of_getElem? (i := 4) rfl))), List.forall_mem_cons.mpr ⟨(lw_t1 (tq_1_9 _ (List.mem_of_getElem? (i := 6) rfl))), fun _ h => absurd h List.not_mem_nil⟩⟩⟩⟩⟩⟩⟩⟩⟩⟩⟩⟩⟩⟩⟩⟩⟩⟩⟩⟩
  intro w hw
  obtain ⟨k, hk, rfl⟩ := List.mem_map.mp hw
  have hk := List.mem_range.mp hk
  have h2 : ∃ p, (p, k) ∈ ([(246, 0), (248, 1), (250, 2), (252, 3), (254, 4), (256, 5), (258, 6), (260, 7), (262, 8), (264, 9), (266, 10), (268, 11), (270, 12), (272, 13), (274, 14), (276, 15), (278, 16), (280, 17), (282, 18), (284, 19)] : List (Nat × Nat)) := by
    have h3 : ∀ k, k < 20 → ([(246, 0), (248, 1), (250, 2), (252, 3), (254, 4), (256, 5), (258, 6), (260, 7), (262, 8), (264, 9), (266, 10), (268, 11), (270, 12), (272, 13), (274, 14), (276, 15), (278, 16), (280, 17), (282, 18), (284, 19)] : List (Nat × Nat)).any (fun e => e.2 == k) = true := by decide +kernel
    obtain ⟨e, he, hq⟩ := List.any_eq_true.mp (h3 k hk)
    exact ⟨e.1, by rw [← (beq_iff_eq.mp hq)]; exact he⟩
  obtain ⟨p, hp⟩ := h2
  exact sx_tb_mm (h _ hp) (by unfold u_lay; split <;> rfl)
set_option maxRecDepth 100000 in
theorem inX11 : ∀ w ∈ u_ws RX11 TX11 12, w ∈ sx_tb := by
  have h : ∀ e ∈ ([(639, 0), (641, 1), (643, 2), (645, 3), (647, 4), (649, 5), (651, 6), (653, 7), (655, 8), (657, 9), (659, 10), (661, 11)] : List (Nat × Nat)), u_lay RX11 TX11 e.2 ∈ lw_tbl := List.forall_mem_cons.mpr ⟨(lw_t1 (tq_3_1 _ (List.mem_of_getElem? (i := 9) rfl))), List.forall_mem_cons.mpr ⟨(lw_t1 (tq_3_1 _ (List.mem_of_getElem? (i := 11) rfl))), List.forall_mem_cons.mpr ⟨(lw_t1 (tq_3_1 _ (List.mem_of_getElem? (i := 13) rfl))), List.forall_mem_cons.mpr ⟨(lw_t1 (tq_3_1 _ (List.mem_of_getElem? (i := 15) rfl))), List.forall_mem_cons.mpr ⟨(lw_t1 (tq_3_2 _ (List.mem_of_getElem? (i := 1) rfl))), List.forall_mem_cons.mpr ⟨(lw_t1 (tq_3_2 _ (List.mem_of_getElem? (i := 3) rfl))), List.forall_mem_cons.mpr ⟨(lw_t1 (tq_3_2 _ (List.mem_of_getElem? (i := 5) rfl))), List.forall_mem_cons.mpr ⟨(lw_t1 (tq_3_2 _ (List.mem_of_getElem? (i := 7) rfl))), List.forall_mem_cons.mpr ⟨(lw_t1 (tq_3_2 _ (List.mem_of_getElem? (i := 9) rfl))), List.forall_mem_cons.mpr ⟨(lw_t1 (tq_3_2 _ (List.mem_of_getElem? (i := 11) rfl))), List.forall_mem_cons.mpr ⟨(lw_t1 (tq_3_2 _ (List.mem_of_getElem? (i := 13) rfl))), List.forall_mem_cons.mpr ⟨(lw_t1 (tq_3_2 _ (List.mem_of_getElem? (i := 15) rfl))), fun _ h => absurd h List.not_mem_nil⟩⟩⟩⟩⟩⟩⟩⟩⟩⟩⟩⟩
  intro w hw
  obtain ⟨k, hk, rfl⟩ := List.mem_map.mp hw
  have hk := List.mem_range.mp hk
  have h2 : ∃ p, (p, k) ∈ ([(639, 0), (641, 1), (643, 2), (645, 3), (647, 4), (649, 5), (651, 6), (653, 7), (655, 8), (657, 9), (659, 10), (661, 11)] : List (Nat × Nat)) := by
    have h3 : ∀ k, k < 12 → ([(639, 0), (641, 1), (643, 2), (645, 3), (647, 4), (649, 5), (651, 6), (653, 7), (655, 8), (657, 9), (659, 10), (661, 11)] : List (Nat × Nat)).any (fun e => e.2 == k) = true := by decide +kernel
    obtain ⟨e, he, hq⟩ := List.any_eq_true.mp (h3 k hk)
    exact ⟨e.1, by rw [← (beq_iff_eq.mp hq)]; exact he⟩
  obtain ⟨p, hp⟩ := h2
  exact sx_tb_mm (h _ hp) (by unfold u_lay; split <;> rfl)
set_option maxRecDepth 100000 in
theorem inX12 : ∀ w ∈ u_ws RX12 TX12 65, w ∈ sx_tb := by
  have h : ∀ e ∈ ([(1479, 0), (1481, 1), (1483, 2), (1485, 3), (1487, 4), (1489, 5), (1491, 6), (1493, 7), (1495, 8), (1497, 9), (1499, 10), (1501, 11), (1503, 12), (1505, 13), (1507, 14), (1509, 15), (1511, 16), (1513, 17), (1515, 18), (1517, 19), (1519, 20), (1521, 21), (1523, 22), (1525, 23), (1527, 24), (1529, 25), (1531, 26), (1533, 27), (1535, 28), (1537, 29), (1539, 30), (1541, 31), (1543, 32), (1545, 33), (1547, 34), (1549, 35), (1551, 36), (1553, 37), (1555, 38), (1557, 39), (1559, 40), (1561, 41), (1563, 42), (1565, 43), (1567, 44), (1569, 45), (1571, 46), (1573, 47), (1575, 48), (1577, 49), (1579, 50), (1581, 51), (1583, 52), (1585, 53), (1587, 54), (1589, 55), (1591, 56), (1593, 57), (1595, 58), (1597, 59), (1599, 60), (1601, 61), (1603, 62), (1605, 63), (1607, 64)] : List (Nat × Nat)), u_lay RX12 TX12 e.2 ∈ lw_tbl := List.forall_mem_cons.mpr ⟨(lw_t1 (tq_6_9 _ (List.mem_of_getElem? (i := 1) rfl))), List.forall_mem_cons.mpr ⟨(lw_t1 (tq_6_9 _ (List.mem_of_getElem? (i := 3) rfl))), List.forall_mem_cons.mpr ⟨(lw_t1 (tq_6_9 _ (List.mem_of_getElem? (i := 5) rfl))), List.forall_mem_cons.mpr ⟨(lw_t1 (tq_6_9 _ (List.mem_of_getElem? (i := 7) rfl))), List.forall_mem_cons.mpr ⟨(lw_t1 (tq_6_9 _ (List.mem_of_getElem? (i := 9) rfl))), List.forall_mem_cons.mpr ⟨(lw_t1 (tq_6_9 _ (List.mem_of_getElem? (i := 11) rfl))), List.forall_mem_cons.mpr ⟨(lw_t1 (tq_6_9 _ (List.mem_of_getElem? (i := 13) rfl))), List.forall_mem_cons.mpr ⟨(lw_t1 (tq_6_9 _ (List.mem_of_getElem? (i := 15) rfl))), List.forall_mem_cons.mpr ⟨(lw_t1 (tq_6_10 _ (List.mem_of_getElem? (i := 1) rfl))), List.forall_mem_cons.mpr ⟨(lw_t1 (tq_6_10 _ (List.mem_of_getElem? (i := 3) rfl))), List.forall_mem_cons.mpr ⟨(lw_t1 (tq_6_10 _ (List.mem_of_getElem? (i := 5) rfl))), List.forall_mem_cons.mpr ⟨(lw_t1 (tq_6_10 _ (List.mem_of_getElem? (i := 7) rfl))), List.forall_mem_cons.mpr ⟨(lw_t1 (tq_6_10 _ (List.mem_of_getElem? (i := 9) rfl))), List.forall_mem_cons.mpr ⟨(lw_t1 (tq_6_10 _ (List.mem_of_getElem? (i := 11) rfl))), List.forall_mem_cons.mpr ⟨(lw_t1 (tq_6_10 _ (List.mem_of_getElem? (i := 13) rfl))), List.forall_mem_cons.mpr ⟨(lw_t1 (tq_6_10 _ (List.mem_of_getElem? (i := 15) rfl))), List.forall_mem_cons.mpr ⟨(lw_t1 (tq_6_11 _ (List.mem_of_getElem? (i := 1) rfl))), List.forall_mem_cons.mpr ⟨(lw_t1 (tq_6_11 _ (List.mem_of_getElem? (i := 3) rfl))), List.forall_mem_cons.mpr ⟨(lw_t1 (tq_6_11 _ (List.mem_of_getElem? (i := 5) rfl))), List.forall_mem_cons.mpr ⟨(lw_t1 (tq_6_11 _ (List.mem_of_getElem? (i := 7) rfl))), List.forall_mem_cons.mpr ⟨(lw_t1 (tq_6_11 _ (List.mem_of_getElem? (i := 9) rfl))), List.forall_mem_cons.mpr ⟨(lw_t1 (tq_6_11 _ (List.mem_of_getElem? (i := 11) rfl))), List.forall_mem_cons.mpr ⟨(lw_t1 (tq_6_11 _ (List.mem_of_getElem? (i := 13) rfl))), List.forall_mem_cons.mpr ⟨(lw_t1 (tq_6_11 _ (List.mem_of_getElem? (i := 15) rfl))), List.forall_mem_cons.mpr ⟨(lw_t1 (tq_6_12 _ (List.mem_of_getElem? (i := 1) rfl))), List.forall_mem_cons.mpr ⟨(lw_t1 (tq_6_12 _ (List.mem_of_getElem? (i := 3) rfl))), List.forall_mem_cons.mpr ⟨(lw_t1 (tq_6_12 _ (List.mem_of_getElem? (i := 5) rfl))), List.forall_mem_cons.mpr ⟨(lw_t1 (tq_6_12 _ (List.mem_of_getElem? (i := 7) rfl))), List.forall_mem_cons.mpr ⟨(lw_t1 (tq_6_12 _ (List.mem_of_getElem? (i := 9) rfl))), List.forall_mem_cons.mpr ⟨(lw_t1 (tq_6_12 _ (List.mem_of_getElem? (i := 11) rfl))), List.forall_mem_cons.mpr ⟨(lw_t1 (tq_6_12 _ (List.mem_of_getElem? (i := 13) rfl))), List.forall_mem_cons.mpr ⟨(lw_t1 (tq_6_12 _ (List.mem_of_getElem? (i := 15) rfl))), List.forall_mem_cons.mpr ⟨(lw_t1 (tq_6_13 _ (List.mem_of_getElem? (i := 1) rfl))), List.forall_mem_cons.mpr ⟨(lw_t1 (tq_6_13 _ (List.mem_of_getElem? (i := 3) rfl))), List.forall_mem_cons.mpr ⟨(lw_t1 (tq_6_13 _ (List.mem_of_getElem? (i := 5) rfl))), List.forall_mem_cons.mpr ⟨(lw_t1 (tq_6_13 _ (List.mem_of_getElem? (i := 7) rfl))), List.forall_mem_cons.mpr ⟨(lw_t1 (tq_6_13 _ (List.mem_of_getElem? (i := 9) rfl))), List.forall_mem_cons.mpr ⟨(lw_t1 (tq_6_13 _ (List.mem_of_getElem? (i := 11) rfl))), List.forall_mem_cons.mpr ⟨(lw_t1 (tq_6_13 _ (List.mem_of_getElem? (i := 13) rfl))), List.forall_mem_cons.mpr ⟨(lw_t1 (tq_6_13 _ (List.mem_of_getElem? (i := 15) rfl))), List.forall_mem_cons.mpr ⟨(lw_t1 (tq_6_14 _ (List.mem_of_getElem? (i := 1) rfl))), List.forall_mem_cons.mpr ⟨(lw_t1 (tq_6_14 _ (List.mem_of_getElem? (i := 3) rfl))), List.forall_mem_cons.mpr ⟨(lw_t1 (tq_6_14 _ (List.mem_of_getElem? (i := 5) rfl))), List.forall_mem_cons.mpr ⟨(lw_t1 (tq_6_14 _ (List.mem_of_getElem? (i := 7) rfl))), List.forall_mem_cons.mpr ⟨(lw_t1 (tq_6_14 _ (List.mem_of_getElem? (i := 9) rfl))), List.forall_mem_cons.mpr ⟨(lw_t1 (tq_6_14 _ (List.mem_of_getElem? (i := 11) rfl))), List.forall_mem_cons.mpr ⟨(lw_t1 (tq_6_14 _ (List.mem_of_getElem? (i := 13) rfl))), List.forall_mem_cons.mpr ⟨(lw_t1 (tq_6_14 _ (List.mem_of_getElem? (i := 15) rfl))), List.forall_mem_cons.mpr ⟨(lw_t1 (tq_7_0 _ (List.mem_of_getElem? (i := 1) rfl))), List.forall_mem_cons.mpr ⟨(lw_t1 (tq_7_0 _ (List.mem_of_getElem? (i := 3) rfl))), List.forall_mem_cons.mpr ⟨(lw_t1 (tq_7_0 _ (List.mem_of_getElem? (i := 5) rfl))), List.forall_mem_cons.mpr ⟨(lw_t1 (tq_7_0 _ (List.mem_of_getElem? (i := 7) rfl))), List.forall_mem_cons.mpr ⟨(lw_t1 (tq_7_0 _ (List.mem_of_getElem? (i := 9) rfl))), List.forall_mem_cons.mpr ⟨(lw_t1 (tq_7_0 _ (List.mem_of_getElem? (i := 11) rfl))), List.forall_mem_cons.mpr ⟨(lw_t1 (tq_7_0 _ (List.mem_of_getElem? (i := 13) rfl))), List.forall_mem_cons.mpr ⟨(lw_t1 (tq_7_0 _ (List.mem_of_getElem? (i := 15) rfl))), List.forall_mem_cons.mpr ⟨(lw_t1 (tq_7_1 _ (List.mem_of_getElem? (i := 1) rfl))), List.forall_mem_cons.mpr ⟨(lw_t1 (tq_7_1 _ (List.mem_of_getElem? (i := 3) rfl))), List.forall_mem_cons.mpr ⟨(lw_t1 (tq_7_1 _ (List.mem_of_getElem? (i := 5) rfl))), List.forall_mem_cons.mpr ⟨(lw_t1 (tq_7_1 _ (List.mem_of_getElem? (i := 7) rfl))), List.forall_mem_cons.mpr ⟨(lw_t1 (tq_7_1 _ (List.mem_of_getElem? (i := 9) rfl))), List.forall_mem_cons.mpr ⟨(lw_t1 (tq_7_1 _ (List.mem_of_getElem? (i := 11) rfl))), List.forall_mem_cons.mpr ⟨(lw_t1 (tq_7_1 _ (List.mem_of_getElem? (i := 13) rfl))), List.forall_mem_cons.mpr ⟨(lw_t1 (tq_7_1 _ (List.mem_of_getElem? (i := 15) rfl))), List.forall_mem_cons.mpr ⟨(lw_t1 (tq_7_2 _ (List.mem_of_getElem? (i := 1) rfl))), fun _ h => absurd h List.not_mem_nil⟩⟩⟩⟩⟩⟩⟩⟩⟩⟩⟩⟩⟩⟩⟩⟩⟩⟩⟩⟩⟩⟩⟩⟩⟩⟩⟩⟩⟩⟩⟩⟩⟩⟩⟩⟩⟩⟩⟩⟩⟩⟩⟩⟩⟩⟩⟩⟩⟩⟩⟩⟩⟩⟩⟩⟩⟩⟩⟩⟩⟩⟩⟩⟩⟩
  intro w hw
  obtain ⟨k, hk, rfl⟩ := List.mem_map.mp hw
  have hk := List.mem_range.mp hk
  have h2 : ∃ p, (p, k) ∈ ([(1479, 0), (1481, 1), (1483, 2), (1485, 3), (1487, 4), (1489, 5), (1491, 6), (1493, 7), (1495, 8), (1497, 9), (1499, 10), (1501, 11), (1503, 12), (1505, 13), (1507, 14), (1509, 15), (1511, 16), (1513, 17), (1515, 18), (1517, 19), (1519, 20), (1521, 21), (1523, 22), (1525, 23), (1527, 24), (1529, 25), (1531, 26), (1533, 27), (1535, 28), (1537, 29), (1539, 30), (1541, 31), (1543, 32), (1545, 33), (1547, 34), (1549, 35), (1551, 36), (1553, 37), (1555, 38), (1557, 39), (1559, 40), (1561, 41), (1563, 42), (1565, 43), (1567, 44), (1569, 45), (1571, 46), (1573, 47), (1575, 48), (1577, 49), (1579, 50), (1581, 51), (1583, 52), (1585, 53), (1587, 54), (1589, 55), (1591, 56), (1593, 57), (1595, 58), (1597, 59), (1599, 60), (1601, 61), (1603, 62), (1605, 63), (1607, 64)] : List (Nat × Nat)) := by
    have h3 : ∀ k, k < 65 → ([(1479, 0), (1481, 1), (1483, 2), (1485, 3), (1487, 4), (1489, 5), (1491, 6), (1493, 7), (1495, 8), (1497, 9), (1499, 10), (1501, 11), (1503, 12), (1505, 13), (1507, 14), (1509, 15), (1511, 16), (1513, 17), (1515, 18), (1517, 19), (1519, 20), (1521, 21), (1523, 22), (1525, 23), (1527, 24), (1529, 25), (1531, 26), (1533, 27), (1535, 28), (1537, 29), (1539, 30), (1541, 31), (1543, 32), (1545, 33), (1547, 34), (1549, 35), (1551, 36), (1553, 37), (1555, 38), (1557, 39), (1559, 40), (1561, 41), (1563, 42), (1565, 43), (1567, 44), (1569, 45), (1571, 46), (1573, 47), (1575, 48), (1577, 49), (1579, 50), (1581, 51), (1583, 52), (1585, 53), (1587, 54), (1589, 55), (1591, 56), (1593, 57), (1595, 58), (1597, 59), (1599, 60), (1601, 61), (1603, 62), (1605, 63), (1607, 64)] : List (Nat × Nat)).any (fun e => e.2 == k) = true := by decide +kernel
    obtain ⟨e, he, hq⟩ := List.any_eq_true.mp (h3 k hk)
    exact ⟨e.1, by rw [← (beq_iff_eq.mp hq)]; exact he⟩
  obtain ⟨p, hp⟩ := h2
  exact sx_tb_mm (h _ hp) (by unfold u_lay; split <;> rfl)
def sx_flB : List (List (List (Nat × Nat × Nat × Nat × Nat))) := [[[(294, 0, 9, 0, 0), (296, 0, 15, 0, 1)], [(180, 0, 30, 10, 0), (243, 0, 24, 10, 19), (298, 0, 18, 0, 2), (300, 0, 21, 0, 3)], [(237, 0, 34, 10, 17)]], [[(470, 1, 12, 1, 0)], [(472, 1, 21, 1, 1), (474, 1, 28, 1, 2)], [(476, 1, 35, 1, 3)]], [[(515, 2, 9, 2, 0), (516, 2, 15, 2, 1)], [(236, 2, 27, 10, 17), (368, 2, 24, 6, 6), (375, 2, 18, 6, 10)], [(370, 2, 32, 6, 7), (372, 2, 35, 6, 8), (374, 2, 38, 6, 9)], [(206, 2, 59, 10, 8), (220, 2, 62, 10, 11), (226, 2, 49, 10, 14)], [(192, 2, 65, 10, 4), (196, 2, 78, 10, 5), (212, 2, 71, 10, 9), (216, 2, 68, 10, 10)], [(358, 2, 87, 6, 0)], [(517, 2, 107, 2, 2)], [(200, 2, 114, 10, 6)], [(231, 2, 134, 10, 15), (234, 2, 131, 10, 16)]], [[(323, 3, 9, 3, 0), (324, 3, 15, 3, 1)], [(327, 3, 18, 3, 3), (328, 3, 21, 3, 4), (329, 3, 24, 3, 5), (330, 3, 27, 3, 6), (333, 3, 30, 3, 8)], [(325, 3, 36, 3, 2), (331, 3, 40, 3, 7), (334, 3, 33, 3, 9)], [(229, 3, 49, 10, 14)], [(182, 3, 70, 10, 1), (185, 3, 73, 10, 2), (189, 3, 76, 10, 3), (193, 3, 79, 10, 4)], [(198, 3, 85, 10, 5), (201, 3, 82, 10, 6), (240, 3, 88, 10, 17)]], [[(614, 4, 11, 4, 0)], [], [(326, 4, 34, 3, 2)], [(615, 4, 59, 4, 1), (616, 4, 62, 4, 2)], [(617, 4, 65, 4, 3)]], [[(496, 5, 11, 5, 0)], [(497, 5, 28, 5, 1), (499, 5, 20, 5, 2)]], [[(357, 6, 12, 6, 0)], [(360, 6, 18, 6, 1), (363, 6, 22, 6, 3), (364, 6, 25, 6, 4), (367, 6, 28, 6, 6), (369, 6, 31, 6, 7)], [(365, 6, 46, 6, 5), (371, 6, 34, 6, 8), (373, 6, 37, 6, 9)], [], [(361, 6, 70, 6, 2), (376, 6, 73, 6, 10)], [(209, 6, 86, 10, 8)]], [[(531, 7, 9, 7, 0), (532, 7, 15, 7, 1)], [(533, 7, 18, 7, 2), (536, 7, 21, 7, 4), (541, 7, 24, 7, 7), (542, 7, 27, 7, 8), (544, 7, 30, 7, 9)], [(211, 7, 45, 10, 9), (218, 7, 39, 10, 11), (545, 7, 33, 7, 10), (548, 7, 36, 7, 12)], [(215, 7, 48, 10, 10)], [(208, 7, 64, 10, 8), (414, 7, 79, 9, 2), (534, 7, 76, 7, 3)], [(408, 7, 84, 9, 0), (411, 7, 87, 9, 1)], [(423, 7, 109, 9, 5), (537, 7, 103, 7, 5), (539, 7, 106, 7, 6)], [(417, 7, 112, 9, 3), (420, 7, 122, 9, 4)], [(426, 7, 136, 9, 6)], [(429, 7, 153, 9, 7), (546, 7, 146, 7, 11)], [(432, 7, 164, 9, 8)], [(190, 7, 179, 10, 3), (441, 7, 182, 9, 12)], [], [(203, 7, 209, 10, 6)]], [[(582, 8, 9, 8, 0), (583, 8, 15, 8, 1)], [(584, 8, 18, 8, 2), (585, 8, 25, 8, 3), (586, 8, 28, 8, 4), (587, 8, 31, 8, 5), (589, 8, 21, 8, 6)]], [[(407, 9, 9, 9, 0), (410, 9, 15, 9, 1)], [(416, 9, 18, 9, 3), (419, 9, 21, 9, 4), (425, 9, 24, 9, 6), (428, 9, 27, 9, 7), (431, 9, 30, 9, 8)], [(413, 9, 45, 9, 2), (434, 9, 33, 9, 9), (438, 9, 36, 9, 11)], [(422, 9, 49, 9, 5), (436, 9, 52, 9, 10), (440, 9, 55, 9, 12)]], [[(181, 10, 9, 10, 1), (184, 10, 15, 10, 2)], [(187, 10, 18, 10, 3), (191, 10, 21, 10, 4), (195, 10, 24, 10, 5), (199, 10, 27, 10, 6), (204, 10, 30, 10, 7)], [(179, 10, 45, 10, 0), (210, 10, 33, 10, 9), (214, 10, 36, 10, 10), (222, 10, 39, 10, 12), (224, 10, 42, 10, 13)], [(205, 10, 61, 10, 8)], [(219, 10, 65, 10, 11), (227, 10, 68, 10, 14), (230, 10, 71, 10, 15), (233, 10, 74, 10, 16), (238, 10, 77, 10, 17)], [(242, 10, 80, 10, 18), (244, 10, 83, 10, 19)]], [[(627, 11, 12, 11, 0)], [(628, 11, 16, 11, 1), (630, 11, 22, 11, 3), (631, 11, 31, 11, 4)], [(632, 11, 38, 11, 5), (633, 11, 45, 11, 6)], [(634, 11, 49, 11, 7), (636, 11, 56, 11, 9), (637, 11, 63, 11, 10)], [(241, 11, 77, 10, 18), (471, 11, 74, 1, 0), (638, 11, 70, 11, 11)], [(207, 11, 84, 10, 8), (221, 11, 95, 10, 11)], [(188, 11, 111, 10, 3), (228, 11, 108, 10, 14)], [(197, 11, 114, 10, 5), (213, 11, 117, 10, 9)], [(232, 11, 135, 10, 15), (239, 11, 132, 10, 17), (473, 11, 141, 1, 1), (475, 11, 138, 1, 2)], [(635, 11, 149, 11, 8)], [], [(332, 11, 191, 3, 7), (359, 11, 177, 6, 0)], [(362, 11, 204, 6, 2)], [(366, 11, 216, 6, 5)], [(202, 11, 236, 10, 6), (377, 11, 227, 6, 10), (588, 11, 230, 8, 5), (590, 11, 233, 8, 6)], [(183, 11, 247, 10, 1), (186, 11, 250, 10, 2), (194, 11, 253, 10, 4)], [(217, 11, 259, 10, 10), (223, 11, 262, 10, 12), (225, 11, 265, 10, 13), (245, 11, 271, 10, 19)], [(295, 11, 274, 0, 0), (297, 11, 278, 0, 1), (299, 11, 281, 0, 2), (301, 11, 284, 0, 3)], [(235, 11, 289, 10, 16)], [(477, 11, 319, 1, 3)], [(409, 11, 328, 9, 0), (412, 11, 331, 9, 1), (415, 11, 323, 9, 2)], [(418, 11, 350, 9, 3), (424, 11, 347, 9, 5), (535, 11, 338, 7, 3)], [(421, 11, 353, 9, 4), (538, 11, 362, 7, 5), (540, 11, 359, 7, 6)], [(427, 11, 369, 9, 6), (433, 11, 383, 9, 8)], [(430, 11, 386, 9, 7), (543, 11, 395, 7, 8), (547, 11, 392, 7, 11)], [(435, 11, 404, 9, 9), (437, 11, 401, 9, 10)], [(439, 11, 419, 9, 11), (442, 11, 416, 9, 12)], [(629, 11, 446, 11, 2)], [(498, 11, 450, 5, 1)]], [[(1415, 12, 7, 12, 1), (1416, 12, 13, 12, 2)], [(1418, 12, 16, 12, 4), (1422, 12, 19, 12, 8), (1423, 12, 22, 12, 9), (1424, 12, 25, 12, 10), (1425, 12, 28, 12, 11), (1426, 12, 31, 12, 12)], [(1432, 12, 34, 12, 18), (1433, 12, 37, 12, 19), (1434, 12, 40, 12, 20), (1435, 12, 43, 12, 21), (1436, 12, 46, 12, 22)], [(1437, 12, 49, 12, 23), (1438, 12, 52, 12, 24), (1439, 12, 55, 12, 25), (1443, 12, 58, 12, 29), (1448, 12, 61, 12, 34)], [(1450, 12, 65, 12, 36), (1452, 12, 68, 12, 38), (1454, 12, 71, 12, 40), (1455, 12, 74, 12, 41), (1456, 12, 77, 12, 42)], [(1458, 12, 80, 12, 44), (1459, 12, 83, 12, 45), (1461, 12, 86, 12, 47), (1462, 12, 89, 12, 48), (1463, 12, 92, 12, 49), (1465, 12, 95, 12, 51)], [(1466, 12, 98, 12, 52), (1467, 12, 101, 12, 53), (1468, 12, 104, 12, 54), (1469, 12, 107, 12, 55), (1471, 12, 110, 12, 57)], [(1414, 12, 122, 12, 0), (1417, 12, 125, 12, 3), (1473, 12, 113, 12, 59), (1474, 12, 116, 12, 60), (1478, 12, 119, 12, 64)], [(1419, 12, 128, 12, 5), (1420, 12, 134, 12, 6), (1421, 12, 137, 12, 7)], [(1427, 12, 159, 12, 13)], [(1428, 12, 166, 12, 14), (1429, 12, 173, 12, 15)], [(1430, 12, 176, 12, 16), (1431, 12, 179, 12, 17)], [(1441, 12, 200, 12, 27), (1445, 12, 194, 12, 31), (1446, 12, 197, 12, 32)], [], [(1442, 12, 232, 12, 28), (1444, 12, 229, 12, 30)], [(1440, 12, 254, 12, 26)], [], [], [(1447, 12, 300, 12, 33), (1449, 12, 291, 12, 35), (1451, 12, 294, 12, 37), (1453, 12, 297, 12, 39)], [], [], [], [], [(1457, 12, 374, 12, 43)], [], [], [(1460, 12, 418, 12, 46)], [(1464, 12, 437, 12, 50)], [], [], [(1470, 12, 484, 12, 56), (1472, 12, 490, 12, 58)], [(1475, 12, 502, 12, 61), (1476, 12, 508, 12, 62), (1477, 12, 499, 12, 63)]]]
def sx_fl : List (Nat × Nat × Nat × Nat × Nat) := sx_flB.flatten.flatten
def sx_mlB : List (List (List (Nat × Nat × Nat × Nat))) := [[[(293, 0, 3, 9999)], [], [(1390, 0, 36, 9998)]], [[(169, 1, 1, 9999), (172, 1, 9, 3)], [(290, 1, 20, 5), (313, 1, 27, 6)], [(403, 1, 34, 8), (1385, 1, 39, 29), (1386, 1, 43, 184), (1391, 1, 46, 185)], [(1399, 1, 49, 186)]], [[(514, 2, 3, 9999)], [], [(747, 2, 41, 31), (748, 2, 45, 34)], [(752, 2, 52, 35), (797, 2, 56, 46)], [(756, 2, 74, 36)], [(760, 2, 91, 37), (796, 2, 81, 9997)], [(779, 2, 97, 42), (792, 2, 101, 45), (801, 2, 110, 47)], [(805, 2, 117, 48), (809, 2, 125, 44), (828, 2, 121, 53)], [(810, 2, 128, 49), (816, 2, 137, 50), (820, 2, 141, 51)], [(824, 2, 144, 52)]], [[(322, 3, 3, 9999)], [], [(1031, 3, 43, 9998)], [(764, 3, 54, 38), (768, 3, 58, 39), (775, 3, 62, 9997)], [(776, 3, 67, 9996)], [(772, 3, 91, 40)]], [[(613, 4, 3, 9999), (935, 4, 15, 80)], [(939, 4, 20, 81), (943, 4, 26, 82), (947, 4, 30, 83)], [(951, 4, 38, 84), (968, 4, 42, 88), (984, 4, 46, 87)], [(994, 4, 49, 94), (1022, 4, 52, 86), (1023, 4, 55, 101)], [(998, 4, 68, 95), (1006, 4, 72, 97), (1010, 4, 75, 98), (1018, 4, 79, 100)], [(980, 4, 94, 91), (985, 4, 87, 85), (1002, 4, 83, 96), (1014, 4, 90, 99)], [(972, 4, 98, 89), (976, 4, 107, 90), (986, 4, 101, 92), (990, 4, 104, 93)]], [[(492, 5, 3, 9999)], [(495, 5, 17, 3), (724, 5, 24, 29), (731, 5, 31, 9997)]], [[(316, 6, 3, 9999), (319, 6, 11, 7)], [], [(356, 6, 40, 4)], [(1395, 6, 50, 102), (1396, 6, 54, 106), (1397, 6, 58, 109), (1398, 6, 61, 113)], [(1041, 6, 76, 81), (1055, 6, 64, 9998)], [(1042, 6, 82, 84), (1043, 6, 91, 105), (1048, 6, 95, 86)], [(1049, 6, 98, 90), (1050, 6, 102, 83), (1078, 6, 106, 112), (1082, 6, 110, 82)], [(1083, 6, 113, 87), (1084, 6, 116, 26), (1085, 6, 119, 27)]], [[(530, 7, 3, 9999)], [], [], [(1140, 7, 51, 125), (1144, 7, 55, 51), (1153, 7, 61, 128)], [(1169, 7, 67, 127), (1188, 7, 70, 4)], [(1189, 7, 90, 136), (1193, 7, 94, 137)], [(1205, 7, 97, 9996)], [(1218, 7, 115, 143), (1222, 7, 119, 144), (1234, 7, 125, 43)], [(1235, 7, 128, 132), (1236, 7, 133, 147), (1252, 7, 139, 151), (1256, 7, 143, 152)], [(1275, 7, 149, 157), (1279, 7, 156, 158)], [(1283, 7, 160, 159), (1296, 7, 173, 162)], [(1336, 7, 185, 172), (1339, 7, 188, 173), (1343, 7, 191, 174)], [(1347, 7, 195, 9997), (1356, 7, 198, 175), (1364, 7, 201, 179), (1367, 7, 205, 22)]], [[(581, 8, 3, 9999)], [], [(857, 8, 34, 60), (861, 8, 37, 61), (864, 8, 41, 62), (867, 8, 44, 63)], [(870, 8, 59, 64), (921, 8, 48, 76), (925, 8, 52, 77), (928, 8, 56, 78)], [(880, 8, 65, 66), (918, 8, 69, 75), (955, 8, 73, 85), (959, 8, 77, 83)], [(960, 8, 83, 86), (964, 8, 80, 87), (1047, 8, 86, 90)]], [[(406, 9, 3, 9999)], [], [(1403, 9, 39, 9998)], [(1312, 9, 58, 166)]], [[(175, 10, 3, 9999)], [], [], [(176, 10, 49, 4), (728, 10, 55, 9998)], [], [(712, 10, 86, 26), (716, 10, 90, 27), (738, 10, 93, 25)], [(783, 10, 105, 43), (787, 10, 101, 44), (791, 10, 97, 22)]], [[(161, 11, 3, 9999), (166, 11, 11, 2)], [(489, 11, 21, 9), (508, 11, 28, 3)], [(511, 11, 37, 10), (527, 11, 44, 11)], [(578, 11, 55, 12), (607, 11, 62, 6)], [(610, 11, 69, 13)], [(668, 11, 81, 15), (676, 11, 87, 17), (684, 11, 91, 19)], [(688, 11, 98, 20), (696, 11, 102, 22), (700, 11, 105, 23)], [(708, 11, 120, 25), (720, 11, 124, 28)], [(734, 11, 128, 31)], [(743, 11, 145, 33), (836, 11, 152, 55), (848, 11, 156, 58), (1032, 11, 159, 103)], [(853, 11, 173, 59), (1056, 11, 162, 107), (1069, 11, 165, 110), (1090, 11, 168, 60)], [(931, 11, 181, 79), (1027, 11, 185, 102)], [(1037, 11, 196, 104), (1051, 11, 200, 106)], [(1061, 11, 209, 108), (1065, 11, 213, 109), (1074, 11, 221, 111)], [(1086, 11, 224, 113), (1100, 11, 239, 44)], [(1101, 11, 243, 37)], [(1102, 11, 256, 51), (1115, 11, 268, 34)], [(1124, 11, 287, 29)], [(1125, 11, 292, 121), (1133, 11, 296, 123), (1136, 11, 299, 124), (1149, 11, 303, 127)], [(1157, 11, 307, 129), (1165, 11, 310, 131), (1170, 11, 314, 132)], [(1184, 11, 334, 135)], [(1197, 11, 341, 138), (1201, 11, 344, 139)], [(1214, 11, 356, 142), (1230, 11, 365, 146)], [(1248, 11, 372, 150), (1259, 11, 376, 151), (1264, 11, 380, 154)], [(1271, 11, 389, 156), (1290, 11, 398, 161)], [(1308, 11, 407, 165), (1316, 11, 410, 166), (1321, 11, 413, 168)], [(1332, 11, 422, 171), (1348, 11, 426, 175), (1352, 11, 429, 176)], [(1361, 11, 432, 178), (1368, 11, 436, 179), (1373, 11, 439, 181), (1381, 11, 443, 183)]], [[(1413, 12, 1, 9999)], [], [], [], [], [], [], [], [(1871, 12, 140, 254)], [(1622, 12, 144, 192), (1635, 12, 156, 195), (1639, 12, 149, 196), (1643, 12, 153, 197)], [(1651, 12, 162, 199), (1671, 12, 169, 204)], [(1675, 12, 182, 205), (1679, 12, 185, 206), (1683, 12, 188, 207), (1687, 12, 191, 208)], [(1699, 12, 206, 211), (1763, 12, 203, 227)], [(1667, 12, 213, 203), (1719, 12, 220, 216), (1755, 12, 223, 225), (1759, 12, 216, 226), (1767, 12, 209, 228)], [(1695, 12, 235, 210), (1751, 12, 226, 224), (1775, 12, 238, 230)], [(1747, 12, 247, 223), (1771, 12, 251, 229), (1779, 12, 241, 231), (1783, 12, 244, 232)], [(1703, 12, 267, 212), (1707, 12, 260, 213), (1711, 12, 257, 214), (1715, 12, 264, 215), (1735, 12, 270, 220)], [(1691, 12, 279, 209), (1723, 12, 282, 217), (1727, 12, 285, 218), (1731, 12, 276, 219), (1739, 12, 273, 221)], [(1663, 12, 303, 202), (1743, 12, 288, 222)], [(1787, 12, 306, 233), (1791, 12, 309, 234), (1847, 12, 318, 248), (1851, 12, 315, 249), (1855, 12, 312, 250)], [(1803, 12, 330, 237), (1807, 12, 333, 238), (1839, 12, 324, 246), (1843, 12, 327, 247), (1859, 12, 321, 251)], [(1811, 12, 336, 239), (1897, 12, 350, 260), (1901, 12, 340, 261), (1905, 12, 343, 262), (1917, 12, 347, 265)], [(1863, 12, 359, 252), (1879, 12, 362, 256), (1883, 12, 365, 257), (1889, 12, 353, 258), (1913, 12, 356, 264)], [(1831, 12, 377, 244), (1835, 12, 380, 245), (1867, 12, 383, 253), (1875, 12, 368, 255), (1893, 12, 371, 259)], [(1819, 12, 394, 241), (1823, 12, 386, 242), (1827, 12, 389, 243), (1909, 12, 391, 263), (1945, 12, 397, 272)], [(1949, 12, 400, 273), (1957, 12, 403, 275), (1965, 12, 406, 277), (1969, 12, 409, 278), (1977, 12, 412, 280), (1981, 12, 415, 281)], [(1993, 12, 431, 284), (1998, 12, 425, 285), (2002, 12, 421, 286), (2006, 12, 428, 287)], [(2010, 12, 434, 288), (2022, 12, 443, 291), (2026, 12, 440, 292), (2054, 12, 447, 299)], [(2042, 12, 450, 296), (2046, 12, 453, 297), (2050, 12, 456, 298), (2062, 12, 462, 301), (2066, 12, 459, 302)], [(2074, 12, 474, 304), (2078, 12, 468, 305), (2082, 12, 465, 306), (2086, 12, 471, 307), (2099, 12, 478, 310)], [(2094, 12, 481, 309), (2115, 12, 487, 314), (2131, 12, 493, 318)], [(2127, 12, 496, 317), (2143, 12, 505, 321), (2147, 12, 511, 322)], [(2151, 12, 514, 323), (2155, 12, 517, 324)]], [[(158, 13, 9, 0), (664, 13, 13, 14), (1410, 13, 12, 188)], [(672, 13, 18, 16), (680, 13, 23, 18), (692, 13, 27, 21), (1614, 13, 17, 190), (1618, 13, 22, 191), (1626, 13, 26, 193), (1631, 13, 31, 194)], [(704, 13, 32, 24), (739, 13, 36, 32), (832, 13, 40, 54), (840, 13, 45, 56), (1647, 13, 44, 198), (1799, 13, 35, 236), (1815, 13, 39, 240)], [(844, 13, 50, 57), (1092, 13, 54, 114), (1096, 13, 58, 115), (1103, 13, 63, 116), (1655, 13, 49, 200), (1659, 13, 53, 201), (1795, 13, 57, 235), (1921, 13, 62, 266)], [(1107, 13, 67, 117), (1111, 13, 71, 118), (1116, 13, 75, 119), (1120, 13, 79, 120), (1925, 13, 66, 267), (1929, 13, 70, 268), (1933, 13, 74, 269), (1937, 13, 78, 270)], [(1129, 13, 83, 122), (1145, 13, 87, 126), (1161, 13, 91, 130), (1176, 13, 95, 133), (1941, 13, 82, 271), (1953, 13, 86, 274), (1961, 13, 90, 276), (1973, 13, 94, 279)], [(1180, 13, 99, 134), (1206, 13, 103, 140), (1210, 13, 107, 141), (1226, 13, 111, 145), (1985, 13, 98, 282), (1989, 13, 102, 283), (2014, 13, 106, 289), (2018, 13, 110, 290)], [(1240, 13, 115, 148), (1244, 13, 120, 149), (1260, 13, 124, 153), (2030, 13, 114, 293), (2034, 13, 119, 294), (2038, 13, 123, 295)], [(1267, 13, 129, 155), (1286, 13, 133, 160), (1300, 13, 137, 163), (1304, 13, 141, 164), (2058, 13, 128, 300), (2070, 13, 132, 303), (2090, 13, 136, 308), (2103, 13, 140, 311)], [(1317, 13, 145, 167), (1324, 13, 149, 169), (1328, 13, 153, 170), (1357, 13, 157, 177), (2107, 13, 144, 312), (2111, 13, 148, 313), (2119, 13, 152, 315), (2123, 13, 156, 316)], [(1369, 13, 161, 180), (1377, 13, 166, 182), (1404, 13, 171, 187), (1610, 13, 165, 189), (2135, 13, 160, 319), (2139, 13, 170, 320), (2159, 13, 174, 325)]], [], [], [], [[], [], [], [], [], [], [], [], [], [], [], [], [], [], [], [], [], [], [], [], [(874, 17, 335, 65)], [], [], [], [], [], [], [], [], [], [(884, 17, 492, 67), (888, 17, 495, 68)], [(899, 17, 498, 71)], [], [], [], [], [], [], [], [], [], [], [], [], [], [], [], [], [], [], [], [], [], [], [], [], [], [], [], [], [], [], [], [], [], [], [(896, 17, 1059, 70)]], [[(891, 18, 9, 69)]], [[], [], [], [(905, 19, 48, 73)], [(902, 19, 67, 72), (909, 19, 71, 74)], [], [], [], [], [], [], [], [], [], [], [], [], [], [], [], [], [], [], [], [], [(908, 19, 414, 69)]]]
def sx_ml : List (Nat × Nat × Nat × Nat) := sx_mlB.flatten.flatten
def sx_kl : List (Nat × Nat × Nat × Nat) := [(156, 13, 7, 11), (164, 11, 9, 1), (170, 1, 7, 10), (288, 1, 18, 0), (311, 1, 25, 6), (317, 6, 9, 3), (401, 1, 32, 9), (487, 11, 19, 5), (493, 5, 9, 10), (507, 11, 26, 10), (509, 11, 35, 2), (525, 11, 42, 7), (576, 11, 53, 8), (606, 11, 60, 6), (608, 11, 67, 4), (1408, 13, 10, 12)]
def sx_ct : List (Nat × Nat × Nat × Int32) := [(687, 11, 453, 65536), (814, 10, 108, 1664525), (815, 10, 109, 1013904223), (1173, 14, 265, 1431655765), (1174, 14, 266, 858993459), (1175, 14, 267, 252645135), (1630, 12, 148, 65535), (1887, 12, 132, 1664525), (1888, 12, 133, 1013904223), (1997, 12, 424, 100000000), (2098, 12, 477, 1000000)]
def sx_lg : List (Nat × Nat × Nat × Nat) := [(1293, 7, 167, 1000), (1294, 7, 169, 600), (1295, 7, 171, 400), (1299, 7, 177, 1000000)]
