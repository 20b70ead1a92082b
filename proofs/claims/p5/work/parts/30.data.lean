/-! THE TABLES OF THIS PROGRAM: written by wip/gen2/pr2.py out of what TURN printed -/
def RX0 : String := "ScratchLadder$Bench"
def TX0 : u_T := fun k => match k with
  | 0 => ("ScratchLadder$Bench", "stones", "I", false)
  | 1 => ("ScratchLadder$Bench", "names", "[I", true)
  | 2 => ("ScratchLadder$Bench", "pieces", "[I", true)
  | 3 => ("ScratchLadder$Bench", "uses", "[I", true)
  | 4 => ("ScratchLadder$Bench", "points", "[I", true)
  | 5 => ("ScratchLadder$Bench", "planes", "[I", true)
  | 6 => ("ScratchLadder$Bench", "knownAs", "[I", true)
  | 7 => ("ScratchLadder$Bench", "slipOf", "[I", true)
  | 8 => ("ScratchLadder$Bench", "dustOf", "[I", true)
  | 9 => ("ScratchLadder$Bench", "drawn", "I", false)
  | 10 => ("ScratchLadder$Bench", "law", "I", false)
  | 11 => ("ScratchLadder$Bench", "texts", "I", false)
  | 12 => ("ScratchLadder$Bench", "written", "[LScratchLadder$Text;", true)
  | 13 => ("ScratchLadder$Bench", "noLaw", "LScratchLadder$Text;", true)
  | 14 => ("ScratchLadder$Bench", "trials", "I", false)
  | 15 => ("ScratchLadder$Bench", "columns", "[I", true)
  | 16 => ("ScratchLadder$Bench", "facesSeen", "I", false)
  | 17 => ("ScratchLadder$Bench", "waysSeen", "I", false)
  | _ => ("ScratchLadder$Bench", "handsSeen", "I", false)
def tyX0 : Nat → FieldType := fun k => match k with
  | 0 => .int
  | 1 => .array .int
  | 2 => .array .int
  | 3 => .array .int
  | 4 => .array .int
  | 5 => .array .int
  | 6 => .array .int
  | 7 => .array .int
  | 8 => .array .int
  | 9 => .int
  | 10 => .int
  | 11 => .int
  | 12 => .array (.object "ScratchLadder$Text")
  | 13 => .object "ScratchLadder$Text"
  | 14 => .int
  | 15 => .array .int
  | 16 => .int
  | 17 => .int
  | _ => .int
theorem nmX0 : ∀ a, a < 19 → ∀ b, b < 19 → a ≠ b → (TX0 a).2.1 ≠ (TX0 b).2.1 := by decide +kernel
theorem tyX0_ok : ∀ k, k < 19 → parseFieldDescriptor (TX0 k).2.2.1 = some (tyX0 k) := by decide +kernel
def RX1 : String := "ScratchLadder$Lineup"
def TX1 : u_T := fun k => match k with
  | 0 => ("ScratchLadder$Lineup", "bench", "LScratchLadder$Bench;", true)
  | 1 => ("ScratchLadder$Lineup", "question", "LScratchLadder$Question;", true)
  | 2 => ("ScratchLadder$Lineup", "keys", "[I", true)
  | 3 => ("ScratchLadder$Lineup", "depths", "[I", true)
  | 4 => ("ScratchLadder$Lineup", "loads", "[I", true)
  | _ => ("ScratchLadder$Lineup", "stoneAt", "[I", true)
def tyX1 : Nat → FieldType := fun k => match k with
  | 0 => .object "ScratchLadder$Bench"
  | 1 => .object "ScratchLadder$Question"
  | 2 => .array .int
  | 3 => .array .int
  | 4 => .array .int
  | _ => .array .int
theorem nmX1 : ∀ a, a < 6 → ∀ b, b < 6 → a ≠ b → (TX1 a).2.1 ≠ (TX1 b).2.1 := by decide +kernel
theorem tyX1_ok : ∀ k, k < 6 → parseFieldDescriptor (TX1 k).2.2.1 = some (tyX1 k) := by decide +kernel
def RX2 : String := "ScratchLadder$Naming"
def TX2 : u_T := fun k => match k with
  | 0 => ("ScratchLadder$Naming", "bench", "LScratchLadder$Bench;", true)
  | 1 => ("ScratchLadder$Naming", "ties", "LScratchLadder$Ties;", true)
  | _ => ("ScratchLadder$Naming", "rows", "[I", true)
def tyX2 : Nat → FieldType := fun k => match k with
  | 0 => .object "ScratchLadder$Bench"
  | 1 => .object "ScratchLadder$Ties"
  | _ => .array .int
theorem nmX2 : ∀ a, a < 3 → ∀ b, b < 3 → a ≠ b → (TX2 a).2.1 ≠ (TX2 b).2.1 := by decide +kernel
theorem tyX2_ok : ∀ k, k < 3 → parseFieldDescriptor (TX2 k).2.2.1 = some (tyX2 k) := by decide +kernel
def RX3 : String := "ScratchLadder$Orders"
def TX3 : u_T := fun k => match k with
  | 0 => ("ScratchLadder$Orders", "bench", "LScratchLadder$Bench;", true)
  | 1 => ("ScratchLadder$Orders", "table", "[I", true)
  | 2 => ("ScratchLadder$Orders", "againstLow", "[I", true)
  | 3 => ("ScratchLadder$Orders", "againstHigh", "[I", true)
  | 4 => ("ScratchLadder$Orders", "size", "I", false)
  | 5 => ("ScratchLadder$Orders", "best", "[I", true)
  | _ => ("ScratchLadder$Orders", "placeInBest", "[I", true)
def tyX3 : Nat → FieldType := fun k => match k with
  | 0 => .object "ScratchLadder$Bench"
  | 1 => .array .int
  | 2 => .array .int
  | 3 => .array .int
  | 4 => .int
  | 5 => .array .int
  | _ => .array .int
theorem nmX3 : ∀ a, a < 7 → ∀ b, b < 7 → a ≠ b → (TX3 a).2.1 ≠ (TX3 b).2.1 := by decide +kernel
theorem tyX3_ok : ∀ k, k < 7 → parseFieldDescriptor (TX3 k).2.2.1 = some (tyX3 k) := by decide +kernel
def RX4 : String := "ScratchLadder$Question"
def TX4 : u_T := fun k => match k with
  | 0 => ("ScratchLadder$Question", "bench", "LScratchLadder$Bench;", true)
  | 1 => ("ScratchLadder$Question", "stack", "[J", true)
  | _ => ("ScratchLadder$Question", "words", "[I", true)
def tyX4 : Nat → FieldType := fun k => match k with
  | 0 => .object "ScratchLadder$Bench"
  | 1 => .array .long
  | _ => .array .int
theorem nmX4 : ∀ a, a < 3 → ∀ b, b < 3 → a ≠ b → (TX4 a).2.1 ≠ (TX4 b).2.1 := by decide +kernel
theorem tyX4_ok : ∀ k, k < 3 → parseFieldDescriptor (TX4 k).2.2.1 = some (tyX4 k) := by decide +kernel
def RX5 : String := "ScratchLadder$Reader"
def TX5 : u_T := fun k => match k with
  | 0 => ("ScratchLadder$Reader", "tape", "LScratchLadder$Tape;", true)
  | 1 => ("ScratchLadder$Reader", "clauses", "[I", true)
  | 2 => ("ScratchLadder$Reader", "clauseCount", "I", false)
  | 3 => ("ScratchLadder$Reader", "steps", "[I", true)
  | 4 => ("ScratchLadder$Reader", "stepCount", "I", false)
  | 5 => ("ScratchLadder$Reader", "parts", "I", false)
  | 6 => ("ScratchLadder$Reader", "brackets", "I", false)
  | 7 => ("ScratchLadder$Reader", "tokenKind", "I", false)
  | 8 => ("ScratchLadder$Reader", "tokenStart", "I", false)
  | 9 => ("ScratchLadder$Reader", "tokenEnd", "I", false)
  | _ => ("ScratchLadder$Reader", "tokenNumber", "I", false)
def tyX5 : Nat → FieldType := fun k => match k with
  | 0 => .object "ScratchLadder$Tape"
  | 1 => .array .int
  | 2 => .int
  | 3 => .array .int
  | 4 => .int
  | 5 => .int
  | 6 => .int
  | 7 => .int
  | 8 => .int
  | 9 => .int
  | _ => .int
theorem nmX5 : ∀ a, a < 11 → ∀ b, b < 11 → a ≠ b → (TX5 a).2.1 ≠ (TX5 b).2.1 := by decide +kernel
theorem tyX5_ok : ∀ k, k < 11 → parseFieldDescriptor (TX5 k).2.2.1 = some (tyX5 k) := by decide +kernel
def RX6 : String := "ScratchLadder$Rungs"
def TX6 : u_T := fun k => match k with
  | 0 => ("ScratchLadder$Rungs", "bench", "LScratchLadder$Bench;", true)
  | _ => ("ScratchLadder$Rungs", "ties", "LScratchLadder$Ties;", true)
def tyX6 : Nat → FieldType := fun k => match k with
  | 0 => .object "ScratchLadder$Bench"
  | _ => .object "ScratchLadder$Ties"
theorem nmX6 : ∀ a, a < 2 → ∀ b, b < 2 → a ≠ b → (TX6 a).2.1 ≠ (TX6 b).2.1 := by decide +kernel
theorem tyX6_ok : ∀ k, k < 2 → parseFieldDescriptor (TX6 k).2.2.1 = some (tyX6 k) := by decide +kernel
def RX7 : String := "ScratchLadder$Sorter"
def TX7 : u_T := fun k => match k with
  | 0 => ("ScratchLadder$Sorter", "told", "[I", true)
  | 1 => ("ScratchLadder$Sorter", "rows", "[I", true)
  | 2 => ("ScratchLadder$Sorter", "size", "I", false)
  | 3 => ("ScratchLadder$Sorter", "start", "I", false)
  | _ => ("ScratchLadder$Sorter", "firstPair", "I", false)
def tyX7 : Nat → FieldType := fun k => match k with
  | 0 => .array .int
  | 1 => .array .int
  | 2 => .int
  | 3 => .int
  | _ => .int
theorem nmX7 : ∀ a, a < 5 → ∀ b, b < 5 → a ≠ b → (TX7 a).2.1 ≠ (TX7 b).2.1 := by decide +kernel
theorem tyX7_ok : ∀ k, k < 5 → parseFieldDescriptor (TX7 k).2.2.1 = some (tyX7 k) := by decide +kernel
def RX8 : String := "ScratchLadder$Tape"
def TX8 : u_T := fun k => match k with
  | 0 => ("ScratchLadder$Tape", "bytes", "[I", true)
  | _ => ("ScratchLadder$Tape", "length", "I", false)
def tyX8 : Nat → FieldType := fun k => match k with
  | 0 => .array .int
  | _ => .int
theorem nmX8 : ∀ a, a < 2 → ∀ b, b < 2 → a ≠ b → (TX8 a).2.1 ≠ (TX8 b).2.1 := by decide +kernel
theorem tyX8_ok : ∀ k, k < 2 → parseFieldDescriptor (TX8 k).2.2.1 = some (tyX8 k) := by decide +kernel
def RX9 : String := "ScratchLadder$Text"
def TX9 : u_T := fun k => match k with
  | 0 => ("ScratchLadder$Text", "clauses", "[I", true)
  | _ => ("ScratchLadder$Text", "steps", "[I", true)
def tyX9 : Nat → FieldType := fun k => match k with
  | 0 => .array .int
  | _ => .array .int
theorem nmX9 : ∀ a, a < 2 → ∀ b, b < 2 → a ≠ b → (TX9 a).2.1 ≠ (TX9 b).2.1 := by decide +kernel
theorem tyX9_ok : ∀ k, k < 2 → parseFieldDescriptor (TX9 k).2.2.1 = some (tyX9 k) := by decide +kernel
def RX10 : String := "ScratchLadder$Ties"
def TX10 : u_T := fun k => match k with
  | 0 => ("ScratchLadder$Ties", "bench", "LScratchLadder$Bench;", true)
  | 1 => ("ScratchLadder$Ties", "said", "[I", true)
  | 2 => ("ScratchLadder$Ties", "above", "[I", true)
  | 3 => ("ScratchLadder$Ties", "below", "[I", true)
  | 4 => ("ScratchLadder$Ties", "under", "[I", true)
  | _ => ("ScratchLadder$Ties", "tried", "[I", true)
def tyX10 : Nat → FieldType := fun k => match k with
  | 0 => .object "ScratchLadder$Bench"
  | 1 => .array .int
  | 2 => .array .int
  | 3 => .array .int
  | 4 => .array .int
  | _ => .array .int
theorem nmX10 : ∀ a, a < 6 → ∀ b, b < 6 → a ≠ b → (TX10 a).2.1 ≠ (TX10 b).2.1 := by decide +kernel
theorem tyX10_ok : ∀ k, k < 6 → parseFieldDescriptor (TX10 k).2.2.1 = some (tyX10 k) := by decide +kernel
def RX11 : String := "ScratchLadder"
def TX11 : u_T := fun k => match k with
  | 0 => ("ScratchLadder", "now", "LScratchLadder$Bench;", true)
  | 1 => ("ScratchLadder", "images", "[LScratchLadder$Bench;", true)
  | 2 => ("ScratchLadder", "imageKept", "[Z", true)
  | 3 => ("ScratchLadder", "tape", "LScratchLadder$Tape;", true)
  | 4 => ("ScratchLadder", "reader", "LScratchLadder$Reader;", true)
  | 5 => ("ScratchLadder", "question", "LScratchLadder$Question;", true)
  | 6 => ("ScratchLadder", "ties", "LScratchLadder$Ties;", true)
  | 7 => ("ScratchLadder", "ladder", "LScratchLadder$Orders;", true)
  | 8 => ("ScratchLadder", "lineup", "LScratchLadder$Lineup;", true)
  | 9 => ("ScratchLadder", "rungs", "LScratchLadder$Rungs;", true)
  | 10 => ("ScratchLadder", "sorter", "LScratchLadder$Sorter;", true)
  | 11 => ("ScratchLadder", "naming", "LScratchLadder$Naming;", true)
  | 12 => ("ScratchLadder", "newTrial", "[I", true)
  | 13 => ("ScratchLadder", "latestFault", "I", false)
  | _ => ("ScratchLadder", "latestRefusal", "I", false)
def tyX11 : Nat → FieldType := fun k => match k with
  | 0 => .object "ScratchLadder$Bench"
  | 1 => .array (.object "ScratchLadder$Bench")
  | 2 => .array .boolean
  | 3 => .object "ScratchLadder$Tape"
  | 4 => .object "ScratchLadder$Reader"
  | 5 => .object "ScratchLadder$Question"
  | 6 => .object "ScratchLadder$Ties"
  | 7 => .object "ScratchLadder$Orders"
  | 8 => .object "ScratchLadder$Lineup"
  | 9 => .object "ScratchLadder$Rungs"
  | 10 => .object "ScratchLadder$Sorter"
  | 11 => .object "ScratchLadder$Naming"
  | 12 => .array .int
  | 13 => .int
  | _ => .int
theorem nmX11 : ∀ a, a < 15 → ∀ b, b < 15 → a ≠ b → (TX11 a).2.1 ≠ (TX11 b).2.1 := by decide +kernel
theorem tyX11_ok : ∀ k, k < 15 → parseFieldDescriptor (TX11 k).2.2.1 = some (tyX11 k) := by decide +kernel
def RX12 : String := "ScratchLadderModel"
def TX12 : u_T := fun k => match k with
  | 0 => ("ScratchLadderModel", "status", "I", false)
  | 1 => ("ScratchLadderModel", "kept", "[I", true)
  | 2 => ("ScratchLadderModel", "images", "[I", true)
  | 3 => ("ScratchLadderModel", "hasImage", "[Z", true)
  | 4 => ("ScratchLadderModel", "words", "[B", true)
  | 5 => ("ScratchLadderModel", "tape", "[B", true)
  | 6 => ("ScratchLadderModel", "five", "[I", true)
  | 7 => ("ScratchLadderModel", "taped", "I", false)
  | 8 => ("ScratchLadderModel", "fault", "I", false)
  | 9 => ("ScratchLadderModel", "code", "[I", true)
  | 10 => ("ScratchLadderModel", "value", "[I", true)
  | 11 => ("ScratchLadderModel", "placed", "[I", true)
  | 12 => ("ScratchLadderModel", "tokens", "I", false)
  | 13 => ("ScratchLadderModel", "token", "I", false)
  | 14 => ("ScratchLadderModel", "leaves", "I", false)
  | 15 => ("ScratchLadderModel", "bad", "I", false)
  | 16 => ("ScratchLadderModel", "go", "I", false)
  | 17 => ("ScratchLadderModel", "goEnd", "I", false)
  | 18 => ("ScratchLadderModel", "broken", "Z", false)
  | 19 => ("ScratchLadderModel", "asked", "[I", true)
  | 20 => ("ScratchLadderModel", "cutsIt", "Z", false)
  | 21 => ("ScratchLadderModel", "bothOfIt", "Z", false)
  | 22 => ("ScratchLadderModel", "depth", "I", false)
  | 23 => ("ScratchLadderModel", "dent", "I", false)
  | 24 => ("ScratchLadderModel", "said", "[I", true)
  | 25 => ("ScratchLadderModel", "over", "[I", true)
  | 26 => ("ScratchLadderModel", "ways", "[I", true)
  | 27 => ("ScratchLadderModel", "least", "[I", true)
  | 28 => ("ScratchLadderModel", "bestRow", "[I", true)
  | 29 => ("ScratchLadderModel", "bestMany", "I", false)
  | 30 => ("ScratchLadderModel", "rungStone", "[I", true)
  | 31 => ("ScratchLadderModel", "rungNumber", "[I", true)
  | 32 => ("ScratchLadderModel", "rungs", "I", false)
  | 33 => ("ScratchLadderModel", "low", "I", false)
  | 34 => ("ScratchLadderModel", "high", "I", false)
  | 35 => ("ScratchLadderModel", "few", "[B", true)
  | 36 => ("ScratchLadderModel", "hasFew", "[Z", true)
  | 37 => ("ScratchLadderModel", "lies", "[I", true)
  | 38 => ("ScratchLadderModel", "chosen", "[I", true)
  | 39 => ("ScratchLadderModel", "has", "[I", true)
  | _ => ("ScratchLadderModel", "given", "[I", true)
def tyX12 : Nat → FieldType := fun k => match k with
  | 0 => .int
  | 1 => .array .int
  | 2 => .array .int
  | 3 => .array .boolean
  | 4 => .array .byte
  | 5 => .array .byte
  | 6 => .array .int
  | 7 => .int
  | 8 => .int
  | 9 => .array .int
  | 10 => .array .int
  | 11 => .array .int
  | 12 => .int
  | 13 => .int
  | 14 => .int
  | 15 => .int
  | 16 => .int
  | 17 => .int
  | 18 => .boolean
  | 19 => .array .int
  | 20 => .boolean
  | 21 => .boolean
  | 22 => .int
  | 23 => .int
  | 24 => .array .int
  | 25 => .array .int
  | 26 => .array .int
  | 27 => .array .int
  | 28 => .array .int
  | 29 => .int
  | 30 => .array .int
  | 31 => .array .int
  | 32 => .int
  | 33 => .int
  | 34 => .int
  | 35 => .array .byte
  | 36 => .array .boolean
  | 37 => .array .int
  | 38 => .array .int
  | 39 => .array .int
  | _ => .array .int
theorem nmX12 : ∀ a, a < 41 → ∀ b, b < 41 → a ≠ b → (TX12 a).2.1 ≠ (TX12 b).2.1 := by decide +kernel
theorem tyX12_ok : ∀ k, k < 41 → parseFieldDescriptor (TX12 k).2.2.1 = some (tyX12 k) := by decide +kernel
abbrev vwCl : List vw_C := [(RX0, TX0, 19), (RX1, TX1, 6), (RX2, TX2, 3), (RX3, TX3, 7), (RX4, TX4, 3), (RX5, TX5, 11), (RX6, TX6, 2), (RX7, TX7, 5), (RX8, TX8, 2), (RX9, TX9, 2), (RX10, TX10, 6), (RX11, TX11, 15), (RX12, TX12, 41)]
def ck_TS : List Cond := lw_tbl.filter goodWord
theorem ck_mem {w : Cond} (i : Nat) (h : lw_tbl[i]? = some w) (hg : goodWord w = true) : w ∈ ck_TS := List.mem_filter.mpr ⟨List.mem_of_getElem? h, hg⟩
theorem ck_TSgood : GoodIn ck_TS ck_TS := fun w hw => ⟨hw, good_of_word (List.mem_filter.mp hw).2⟩
theorem ck_nil {α : Type} {P : α → Prop} : ∀ c ∈ ([] : List α), P c := fun _ h => absurd h List.not_mem_nil
theorem ck_cons {α : Type} {P : α → Prop} {a : α} {l : List α} (h : P a) (t : ∀ c ∈ l, P c) : ∀ c ∈ a :: l, P c := fun c hc => (List.mem_cons.mp hc).elim (fun e => e ▸ h) (t c)
theorem ck_in0 : ∀ w ∈ u_ws RX0 TX0 19, w ∈ ck_TS := fun w h => List.mem_filter.mpr ⟨(show ∀ w ∈ u_ws RX0 TX0 19, w ∈ lw_tbl by decide +kernel) w h, List.all_eq_true.mp (show (u_ws RX0 TX0 19).all goodWord = true by decide +kernel) w h⟩
theorem ck_in1 : ∀ w ∈ u_ws RX1 TX1 6, w ∈ ck_TS := fun w h => List.mem_filter.mpr ⟨(show ∀ w ∈ u_ws RX1 TX1 6, w ∈ lw_tbl by decide +kernel) w h, List.all_eq_true.mp (show (u_ws RX1 TX1 6).all goodWord = true by decide +kernel) w h⟩
theorem ck_in2 : ∀ w ∈ u_ws RX2 TX2 3, w ∈ ck_TS := fun w h => List.mem_filter.mpr ⟨(show ∀ w ∈ u_ws RX2 TX2 3, w ∈ lw_tbl by decide +kernel) w h, List.all_eq_true.mp (show (u_ws RX2 TX2 3).all goodWord = true by decide +kernel) w h⟩
theorem ck_in3 : ∀ w ∈ u_ws RX3 TX3 7, w ∈ ck_TS := fun w h => List.mem_filter.mpr ⟨(show ∀ w ∈ u_ws RX3 TX3 7, w ∈ lw_tbl by decide +kernel) w h, List.all_eq_true.mp (show (u_ws RX3 TX3 7).all goodWord = true by decide +kernel) w h⟩
theorem ck_in4 : ∀ w ∈ u_ws RX4 TX4 3, w ∈ ck_TS := fun w h => List.mem_filter.mpr ⟨(show ∀ w ∈ u_ws RX4 TX4 3, w ∈ lw_tbl by decide +kernel) w h, List.all_eq_true.mp (show (u_ws RX4 TX4 3).all goodWord = true by decide +kernel) w h⟩
theorem ck_in5 : ∀ w ∈ u_ws RX5 TX5 11, w ∈ ck_TS := fun w h => List.mem_filter.mpr ⟨(show ∀ w ∈ u_ws RX5 TX5 11, w ∈ lw_tbl by decide +kernel) w h, List.all_eq_true.mp (show (u_ws RX5 TX5 11).all goodWord = true by decide +kernel) w h⟩
theorem ck_in6 : ∀ w ∈ u_ws RX6 TX6 2, w ∈ ck_TS := fun w h => List.mem_filter.mpr ⟨(show ∀ w ∈ u_ws RX6 TX6 2, w ∈ lw_tbl by decide +kernel) w h, List.all_eq_true.mp (show (u_ws RX6 TX6 2).all goodWord = true by decide +kernel) w h⟩
theorem ck_in7 : ∀ w ∈ u_ws RX7 TX7 5, w ∈ ck_TS := fun w h => List.mem_filter.mpr ⟨(show ∀ w ∈ u_ws RX7 TX7 5, w ∈ lw_tbl by decide +kernel) w h, List.all_eq_true.mp (show (u_ws RX7 TX7 5).all goodWord = true by decide +kernel) w h⟩
theorem ck_in8 : ∀ w ∈ u_ws RX8 TX8 2, w ∈ ck_TS := fun w h => List.mem_filter.mpr ⟨(show ∀ w ∈ u_ws RX8 TX8 2, w ∈ lw_tbl by decide +kernel) w h, List.all_eq_true.mp (show (u_ws RX8 TX8 2).all goodWord = true by decide +kernel) w h⟩
theorem ck_in9 : ∀ w ∈ u_ws RX9 TX9 2, w ∈ ck_TS := fun w h => List.mem_filter.mpr ⟨(show ∀ w ∈ u_ws RX9 TX9 2, w ∈ lw_tbl by decide +kernel) w h, List.all_eq_true.mp (show (u_ws RX9 TX9 2).all goodWord = true by decide +kernel) w h⟩
theorem ck_in10 : ∀ w ∈ u_ws RX10 TX10 6, w ∈ ck_TS := fun w h => List.mem_filter.mpr ⟨(show ∀ w ∈ u_ws RX10 TX10 6, w ∈ lw_tbl by decide +kernel) w h, List.all_eq_true.mp (show (u_ws RX10 TX10 6).all goodWord = true by decide +kernel) w h⟩
theorem ck_in11 : ∀ w ∈ u_ws RX11 TX11 15, w ∈ ck_TS := fun w h => List.mem_filter.mpr ⟨(show ∀ w ∈ u_ws RX11 TX11 15, w ∈ lw_tbl by decide +kernel) w h, List.all_eq_true.mp (show (u_ws RX11 TX11 15).all goodWord = true by decide +kernel) w h⟩
theorem ck_in12 : ∀ w ∈ u_ws RX12 TX12 41, w ∈ ck_TS := fun w h => List.mem_filter.mpr ⟨(show ∀ w ∈ u_ws RX12 TX12 41, w ∈ lw_tbl by decide +kernel) w h, List.all_eq_true.mp (show (u_ws RX12 TX12 41).all goodWord = true by decide +kernel) w h⟩
theorem ck_okCl : ck_okC vwCl ck_TS := by
  intro ci C T N h
  match ci, h with
  | 0, h => cases h; exact ⟨ck_in0, ⟨tyX0, tyX0_ok⟩, nmX0⟩
  | 1, h => cases h; exact ⟨ck_in1, ⟨tyX1, tyX1_ok⟩, nmX1⟩
  | 2, h => cases h; exact ⟨ck_in2, ⟨tyX2, tyX2_ok⟩, nmX2⟩
  | 3, h => cases h; exact ⟨ck_in3, ⟨tyX3, tyX3_ok⟩, nmX3⟩
  | 4, h => cases h; exact ⟨ck_in4, ⟨tyX4, tyX4_ok⟩, nmX4⟩
  | 5, h => cases h; exact ⟨ck_in5, ⟨tyX5, tyX5_ok⟩, nmX5⟩
  | 6, h => cases h; exact ⟨ck_in6, ⟨tyX6, tyX6_ok⟩, nmX6⟩
  | 7, h => cases h; exact ⟨ck_in7, ⟨tyX7, tyX7_ok⟩, nmX7⟩
  | 8, h => cases h; exact ⟨ck_in8, ⟨tyX8, tyX8_ok⟩, nmX8⟩
  | 9, h => cases h; exact ⟨ck_in9, ⟨tyX9, tyX9_ok⟩, nmX9⟩
  | 10, h => cases h; exact ⟨ck_in10, ⟨tyX10, tyX10_ok⟩, nmX10⟩
  | 11, h => cases h; exact ⟨ck_in11, ⟨tyX11, tyX11_ok⟩, nmX11⟩
  | 12, h => cases h; exact ⟨ck_in12, ⟨tyX12, tyX12_ok⟩, nmX12⟩
  | k + 13, h => simp [vwCl] at h
def ck_dt : List (List FieldType) := [[.int, (.array .int), (.array .int), (.array .int), (.array .int), (.array .int), (.array .int), (.array .int), (.array .int), .int, .int, .int, (.array (.object "ScratchLadder$Text")), (.object "ScratchLadder$Text"), .int, (.array .int), .int, .int, .int], [(.object "ScratchLadder$Bench"), (.object "ScratchLadder$Question"), (.array .int), (.array .int), (.array .int), (.array .int)], [(.object "ScratchLadder$Bench"), (.object "ScratchLadder$Ties"), (.array .int)], [(.object "ScratchLadder$Bench"), (.array .int), (.array .int), (.array .int), .int, (.array .int), (.array .int)], [(.object "ScratchLadder$Bench"), (.array .long), (.array .int)], [(.object "ScratchLadder$Tape"), (.array .int), .int, (.array .int), .int, .int, .int, .int, .int, .int, .int], [(.object "ScratchLadder$Bench"), (.object "ScratchLadder$Ties")], [(.array .int), (.array .int), .int, .int, .int], [(.array .int), .int], [(.array .int), (.array .int)], [(.object "ScratchLadder$Bench"), (.array .int), (.array .int), (.array .int), (.array .int), (.array .int)], [(.object "ScratchLadder$Bench"), (.array (.object "ScratchLadder$Bench")), (.array .boolean), (.object "ScratchLadder$Tape"), (.object "ScratchLadder$Reader"), (.object "ScratchLadder$Question"), (.object "ScratchLadder$Ties"), (.object "ScratchLadder$Orders"), (.object "ScratchLadder$Lineup"), (.object "ScratchLadder$Rungs"), (.object "ScratchLadder$Sorter"), (.object "ScratchLadder$Naming"), (.array .int), .int, .int], [.int, (.array .int), (.array .int), (.array .boolean), (.array .byte), (.array .byte), (.array .int), .int, .int, (.array .int), (.array .int), (.array .int), .int, .int, .int, .int, .int, .int, .boolean, (.array .int), .boolean, .boolean, .int, .int, (.array .int), (.array .int), (.array .int), (.array .int), (.array .int), .int, (.array .int), (.array .int), .int, .int, .int, (.array .byte), (.array .boolean), (.array .int), (.array .int), (.array .int), (.array .int)]]
theorem ck_okDt : ck_okD vwCl ck_dt := by
  intro ci tl h
  match ci, h with
  | 0, h =>
    cases h
    refine ⟨RX0, TX0, rfl, fun k t hk => ?_⟩
    have hl : k < 19 := (List.getElem?_eq_some_iff.mp hk).1
    have h1 := tyX0_ok k hl
    have h2 : ∀ k, k < 19 → ([.int, (.array .int), (.array .int), (.array .int), (.array .int), (.array .int), (.array .int), (.array .int), (.array .int), .int, .int, .int, (.array (.object "ScratchLadder$Text")), (.object "ScratchLadder$Text"), .int, (.array .int), .int, .int, .int] : List FieldType)[k]? = some (tyX0 k) := by decide +kernel
    rw [h1, ← Option.some.inj ((h2 k hl).symm.trans hk)]
  | 1, h =>
    cases h
    refine ⟨RX1, TX1, rfl, fun k t hk => ?_⟩
    have hl : k < 6 := (List.getElem?_eq_some_iff.mp hk).1
    have h1 := tyX1_ok k hl
    have h2 : ∀ k, k < 6 → ([(.object "ScratchLadder$Bench"), (.object "ScratchLadder$Question"), (.array .int), (.array .int), (.array .int), (.array .int)] : List FieldType)[k]? = some (tyX1 k) := by decide +kernel
    rw [h1, ← Option.some.inj ((h2 k hl).symm.trans hk)]
  | 2, h =>
    cases h
    refine ⟨RX2, TX2, rfl, fun k t hk => ?_⟩
    have hl : k < 3 := (List.getElem?_eq_some_iff.mp hk).1
    have h1 := tyX2_ok k hl
    have h2 : ∀ k, k < 3 → ([(.object "ScratchLadder$Bench"), (.object "ScratchLadder$Ties"), (.array .int)] : List FieldType)[k]? = some (tyX2 k) := by decide +kernel
    rw [h1, ← Option.some.inj ((h2 k hl).symm.trans hk)]
  | 3, h =>
    cases h
    refine ⟨RX3, TX3, rfl, fun k t hk => ?_⟩
    have hl : k < 7 := (List.getElem?_eq_some_iff.mp hk).1
    have h1 := tyX3_ok k hl
    have h2 : ∀ k, k < 7 → ([(.object "ScratchLadder$Bench"), (.array .int), (.array .int), (.array .int), .int, (.array .int), (.array .int)] : List FieldType)[k]? = some (tyX3 k) := by decide +kernel
    rw [h1, ← Option.some.inj ((h2 k hl).symm.trans hk)]
  | 4, h =>
    cases h
    refine ⟨RX4, TX4, rfl, fun k t hk => ?_⟩
    have hl : k < 3 := (List.getElem?_eq_some_iff.mp hk).1
    have h1 := tyX4_ok k hl
    have h2 : ∀ k, k < 3 → ([(.object "ScratchLadder$Bench"), (.array .long), (.array .int)] : List FieldType)[k]? = some (tyX4 k) := by decide +kernel
    rw [h1, ← Option.some.inj ((h2 k hl).symm.trans hk)]
  | 5, h =>
    cases h
    refine ⟨RX5, TX5, rfl, fun k t hk => ?_⟩
    have hl : k < 11 := (List.getElem?_eq_some_iff.mp hk).1
    have h1 := tyX5_ok k hl
    have h2 : ∀ k, k < 11 → ([(.object "ScratchLadder$Tape"), (.array .int), .int, (.array .int), .int, .int, .int, .int, .int, .int, .int] : List FieldType)[k]? = some (tyX5 k) := by decide +kernel
    rw [h1, ← Option.some.inj ((h2 k hl).symm.trans hk)]
  | 6, h =>
    cases h
    refine ⟨RX6, TX6, rfl, fun k t hk => ?_⟩
    have hl : k < 2 := (List.getElem?_eq_some_iff.mp hk).1
    have h1 := tyX6_ok k hl
    have h2 : ∀ k, k < 2 → ([(.object "ScratchLadder$Bench"), (.object "ScratchLadder$Ties")] : List FieldType)[k]? = some (tyX6 k) := by decide +kernel
    rw [h1, ← Option.some.inj ((h2 k hl).symm.trans hk)]
  | 7, h =>
    cases h
    refine ⟨RX7, TX7, rfl, fun k t hk => ?_⟩
    have hl : k < 5 := (List.getElem?_eq_some_iff.mp hk).1
    have h1 := tyX7_ok k hl
    have h2 : ∀ k, k < 5 → ([(.array .int), (.array .int), .int, .int, .int] : List FieldType)[k]? = some (tyX7 k) := by decide +kernel
    rw [h1, ← Option.some.inj ((h2 k hl).symm.trans hk)]
  | 8, h =>
    cases h
    refine ⟨RX8, TX8, rfl, fun k t hk => ?_⟩
    have hl : k < 2 := (List.getElem?_eq_some_iff.mp hk).1
    have h1 := tyX8_ok k hl
    have h2 : ∀ k, k < 2 → ([(.array .int), .int] : List FieldType)[k]? = some (tyX8 k) := by decide +kernel
    rw [h1, ← Option.some.inj ((h2 k hl).symm.trans hk)]
  | 9, h =>
    cases h
    refine ⟨RX9, TX9, rfl, fun k t hk => ?_⟩
    have hl : k < 2 := (List.getElem?_eq_some_iff.mp hk).1
    have h1 := tyX9_ok k hl
    have h2 : ∀ k, k < 2 → ([(.array .int), (.array .int)] : List FieldType)[k]? = some (tyX9 k) := by decide +kernel
    rw [h1, ← Option.some.inj ((h2 k hl).symm.trans hk)]
  | 10, h =>
    cases h
    refine ⟨RX10, TX10, rfl, fun k t hk => ?_⟩
    have hl : k < 6 := (List.getElem?_eq_some_iff.mp hk).1
    have h1 := tyX10_ok k hl
    have h2 : ∀ k, k < 6 → ([(.object "ScratchLadder$Bench"), (.array .int), (.array .int), (.array .int), (.array .int), (.array .int)] : List FieldType)[k]? = some (tyX10 k) := by decide +kernel
    rw [h1, ← Option.some.inj ((h2 k hl).symm.trans hk)]
  | 11, h =>
    cases h
    refine ⟨RX11, TX11, rfl, fun k t hk => ?_⟩
    have hl : k < 15 := (List.getElem?_eq_some_iff.mp hk).1
    have h1 := tyX11_ok k hl
    have h2 : ∀ k, k < 15 → ([(.object "ScratchLadder$Bench"), (.array (.object "ScratchLadder$Bench")), (.array .boolean), (.object "ScratchLadder$Tape"), (.object "ScratchLadder$Reader"), (.object "ScratchLadder$Question"), (.object "ScratchLadder$Ties"), (.object "ScratchLadder$Orders"), (.object "ScratchLadder$Lineup"), (.object "ScratchLadder$Rungs"), (.object "ScratchLadder$Sorter"), (.object "ScratchLadder$Naming"), (.array .int), .int, .int] : List FieldType)[k]? = some (tyX11 k) := by decide +kernel
    rw [h1, ← Option.some.inj ((h2 k hl).symm.trans hk)]
  | 12, h =>
    cases h
    refine ⟨RX12, TX12, rfl, fun k t hk => ?_⟩
    have hl : k < 41 := (List.getElem?_eq_some_iff.mp hk).1
    have h1 := tyX12_ok k hl
    have h2 : ∀ k, k < 41 → ([.int, (.array .int), (.array .int), (.array .boolean), (.array .byte), (.array .byte), (.array .int), .int, .int, (.array .int), (.array .int), (.array .int), .int, .int, .int, .int, .int, .int, .boolean, (.array .int), .boolean, .boolean, .int, .int, (.array .int), (.array .int), (.array .int), (.array .int), (.array .int), .int, (.array .int), (.array .int), .int, .int, .int, (.array .byte), (.array .boolean), (.array .int), (.array .int), (.array .int), (.array .int)] : List FieldType)[k]? = some (tyX12 k) := by decide +kernel
    rw [h1, ← Option.some.inj ((h2 k hl).symm.trans hk)]
  | k + 13, h => simp [ck_dt] at h
def ck_m0 : ck_MT := (⟨"ScratchLadder", "<init>", "()V"⟩, prog_1_method_1_code, 1, none, 0)
def ck_m1 : ck_MT := (⟨"ScratchLadder$Bench", "<init>", "()V"⟩, prog_2_method_1_code, 1, none, 0)
def ck_m2 : ck_MT := (⟨"ScratchLadder$Text", "<init>", "([I[I)V"⟩, prog_11_method_1_code, 3, none, 2)
def ck_m3 : ck_MT := (⟨"ScratchLadder$Tape", "<init>", "()V"⟩, prog_10_method_1_code, 1, none, 0)
def ck_m4 : ck_MT := (⟨"ScratchLadder$Reader", "<init>", "(LScratchLadder$Tape;)V"⟩, prog_7_method_1_code, 2, none, 1)
def ck_m5 : ck_MT := (⟨"ScratchLadder$Question", "<init>", "(LScratchLadder$Bench;)V"⟩, prog_6_method_1_code, 2, none, 1)
def ck_m6 : ck_MT := (⟨"ScratchLadder$Ties", "<init>", "(LScratchLadder$Bench;)V"⟩, prog_12_method_1_code, 2, none, 1)
def ck_m7 : ck_MT := (⟨"ScratchLadder$Orders", "<init>", "(LScratchLadder$Bench;)V"⟩, prog_5_method_1_code, 2, none, 1)
def ck_m8 : ck_MT := (⟨"java/util/Arrays", "fill", "([II)V"⟩, prog_22_method_103_code, 4, none, 2)
def ck_m9 : ck_MT := (⟨"ScratchLadder$Lineup", "<init>", "(LScratchLadder$Bench;LScratchLadder$Question;)V"⟩, prog_3_method_1_code, 3, none, 2)
def ck_m10 : ck_MT := (⟨"ScratchLadder$Rungs", "<init>", "(LScratchLadder$Bench;LScratchLadder$Ties;)V"⟩, prog_8_method_1_code, 3, none, 2)
def ck_m11 : ck_MT := (⟨"ScratchLadder$Sorter", "<init>", "()V"⟩, prog_9_method_1_code, 1, none, 0)
def ck_m12 : ck_MT := (⟨"ScratchLadder$Naming", "<init>", "(LScratchLadder$Bench;LScratchLadder$Ties;)V"⟩, prog_4_method_1_code, 3, none, 2)
def ck_m13 : ck_MT := (⟨"ScratchLadder", "stone", "(III)I"⟩, prog_1_method_2_code, 4, (some .int), 3)
def ck_m14 : ck_MT := (⟨"ScratchLadder", "within", "(III)Z"⟩, prog_1_method_51_code, 3, (some .boolean), 3)
def ck_m15 : ck_MT := (⟨"ScratchLadder", "refuse", "(I)I"⟩, prog_1_method_44_code, 2, (some .int), 1)
def ck_m16 : ck_MT := (⟨"ScratchLadder$Bench", "addStone", "(III)I"⟩, prog_2_method_4_code, 5, (some .int), 3)
def ck_m17 : ck_MT := (⟨"ScratchLadder", "accept", "(I)I"⟩, prog_1_method_45_code, 2, (some .int), 1)
def ck_m18 : ck_MT := (⟨"ScratchLadder", "plane", "(IIII)I"⟩, prog_1_method_3_code, 5, (some .int), 4)
def ck_m19 : ck_MT := (⟨"ScratchLadder", "isSpot", "(II)Z"⟩, prog_1_method_49_code, 2, (some .boolean), 2)
def ck_m20 : ck_MT := (⟨"ScratchLadder$Bench", "hasStone", "(I)Z"⟩, prog_2_method_5_code, 2, (some .boolean), 1)
def ck_m21 : ck_MT := (⟨"ScratchLadder$Bench", "spotOf", "(III)I"⟩, prog_2_method_6_code, 3, (some .int), 3)
def ck_m22 : ck_MT := (⟨"ScratchLadder", "exchange", "([III)I"⟩, prog_1_method_48_code, 4, (some .int), 3)
def ck_m23 : ck_MT := (⟨"ScratchLadder", "point", "(II)I"⟩, prog_1_method_4_code, 3, (some .int), 2)
def ck_m24 : ck_MT := (⟨"ScratchLadder", "known", "(II)I"⟩, prog_1_method_5_code, 3, (some .int), 2)
def ck_m25 : ck_MT := (⟨"ScratchLadder", "hand", "(III)I"⟩, prog_1_method_6_code, 4, (some .int), 3)
def ck_m26 : ck_MT := (⟨"ScratchLadder", "isHand", "(I)Z"⟩, prog_1_method_50_code, 1, (some .boolean), 1)
def ck_m27 : ck_MT := (⟨"ScratchLadder", "seed", "(I)I"⟩, prog_1_method_7_code, 2, (some .int), 1)
def ck_m28 : ck_MT := (⟨"ScratchLadder", "feed", "(IIIII)I"⟩, prog_1_method_8_code, 6, (some .int), 5)
def ck_m29 : ck_MT := (⟨"ScratchLadder$Tape", "append", "(I)V"⟩, prog_10_method_2_code, 3, none, 1)
def ck_m30 : ck_MT := (⟨"ScratchLadder", "end", "(I)I"⟩, prog_1_method_9_code, 2, (some .int), 1)
def ck_m31 : ck_MT := (⟨"ScratchLadder", "text", "()I"⟩, prog_1_method_10_code, 2, (some .int), 0)
def ck_m32 : ck_MT := (⟨"ScratchLadder$Reader", "read", "()LScratchLadder$Text;"⟩, prog_7_method_2_code, 2, (some (.object "ScratchLadder$Text")), 0)
def ck_m33 : ck_MT := (⟨"ScratchLadder$Reader", "advance", "()V"⟩, prog_7_method_4_code, 3, none, 0)
def ck_m34 : ck_MT := (⟨"ScratchLadder$Reader", "kindAt", "(I)I"⟩, prog_7_method_5_code, 3, (some .int), 1)
def ck_m35 : ck_MT := (⟨"ScratchLadder$Reader", "readClause", "()Z"⟩, prog_7_method_11_code, 4, (some .boolean), 0)
def ck_m36 : ck_MT := (⟨"ScratchLadder$Reader", "passWord", "(Ljava/lang/String;)Z"⟩, prog_7_method_7_code, 3, (some .boolean), 1)
def ck_m37 : ck_MT := (⟨"ScratchLadder$Reader", "isWord", "(Ljava/lang/String;)Z"⟩, prog_7_method_6_code, 3, (some .boolean), 1)
def ck_m38 : ck_MT := (⟨"ScratchLadder$Reader", "readRung", "()Z"⟩, prog_7_method_13_code, 3, (some .boolean), 0)
def ck_m39 : ck_MT := (⟨"ScratchLadder$Reader", "isNumber", "(I)Z"⟩, prog_7_method_10_code, 2, (some .boolean), 1)
def ck_m40 : ck_MT := (⟨"ScratchLadder$Reader", "addClause", "(IIII)Z"⟩, prog_7_method_14_code, 6, (some .boolean), 4)
def ck_m41 : ck_MT := (⟨"ScratchLadder$Reader", "headKind", "()I"⟩, prog_7_method_12_code, 1, (some .int), 0)
def ck_m42 : ck_MT := (⟨"ScratchLadder$Reader", "readSum", "()Z"⟩, prog_7_method_24_code, 4, (some .boolean), 0)
def ck_m43 : ck_MT := (⟨"ScratchLadder$Reader", "readTerm", "()Z"⟩, prog_7_method_25_code, 4, (some .boolean), 0)
def ck_m44 : ck_MT := (⟨"ScratchLadder$Reader", "readPart", "()Z"⟩, prog_7_method_26_code, 3, (some .boolean), 0)
def ck_m45 : ck_MT := (⟨"ScratchLadder$Reader", "isSign", "(C)Z"⟩, prog_7_method_8_code, 2, (some .boolean), 1)
def ck_m46 : ck_MT := (⟨"ScratchLadder$Reader", "readBracketedSum", "()Z"⟩, prog_7_method_22_code, 1, (some .boolean), 0)
def ck_m47 : ck_MT := (⟨"ScratchLadder$Reader", "openBracket", "()Z"⟩, prog_7_method_23_code, 1, (some .boolean), 0)
def ck_m48 : ck_MT := (⟨"ScratchLadder$Reader", "passSign", "(C)Z"⟩, prog_7_method_9_code, 3, (some .boolean), 1)
def ck_m49 : ck_MT := (⟨"ScratchLadder$Reader", "partWord", "()I"⟩, prog_7_method_27_code, 1, (some .int), 0)
def ck_m50 : ck_MT := (⟨"ScratchLadder$Reader", "addStep", "(II)Z"⟩, prog_7_method_15_code, 3, (some .boolean), 2)
def ck_m51 : ck_MT := (⟨"ScratchLadder$Reader", "readTest", "()Z"⟩, prog_7_method_17_code, 4, (some .boolean), 0)
def ck_m52 : ck_MT := (⟨"ScratchLadder$Reader", "readBoth", "()Z"⟩, prog_7_method_18_code, 4, (some .boolean), 0)
def ck_m53 : ck_MT := (⟨"ScratchLadder$Reader", "readPlain", "()Z"⟩, prog_7_method_19_code, 3, (some .boolean), 0)
def ck_m54 : ck_MT := (⟨"ScratchLadder$Reader", "readBracketedTest", "()Z"⟩, prog_7_method_21_code, 1, (some .boolean), 0)
def ck_m55 : ck_MT := (⟨"ScratchLadder$Reader", "comparisonKind", "()I"⟩, prog_7_method_20_code, 1, (some .int), 0)
def ck_m56 : ck_MT := (⟨"ScratchLadder$Reader", "closePass", "(I)V"⟩, prog_7_method_16_code, 2, none, 1)
def ck_m57 : ck_MT := (⟨"java/util/Arrays", "copyOf", "([II)[I"⟩, prog_22_method_123_code, 3, (some (.array .int)), 2)
def ck_m58 : ck_MT := (⟨"ScratchLadder$Reader", "placeReached", "()I"⟩, prog_7_method_3_code, 1, (some .int), 0)
def ck_m59 : ck_MT := (⟨"ScratchLadder", "fault", "()I"⟩, prog_1_method_11_code, 1, (some .int), 0)
def ck_m60 : ck_MT := (⟨"ScratchLadder", "law", "(I)I"⟩, prog_1_method_12_code, 3, (some .int), 1)
def ck_m61 : ck_MT := (⟨"ScratchLadder", "cuts", "(IIII)I"⟩, prog_1_method_13_code, 5, (some .int), 4)
def ck_m62 : ck_MT := (⟨"ScratchLadder$Question", "isCut", "(IIII)Z"⟩, prog_6_method_3_code, 5, (some .boolean), 4)
def ck_m63 : ck_MT := (⟨"ScratchLadder$Question", "ask", "(IIIIII)V"⟩, prog_6_method_2_code, 7, none, 6)
def ck_m64 : ck_MT := (⟨"ScratchLadder$Question", "holds", "(I)Z"⟩, prog_6_method_7_code, 4, (some .boolean), 1)
def ck_m65 : ck_MT := (⟨"ScratchLadder$Bench", "lawText", "()LScratchLadder$Text;"⟩, prog_2_method_10_code, 2, (some (.object "ScratchLadder$Text")), 0)
def ck_m66 : ck_MT := (⟨"ScratchLadder$Text", "clauseCount", "()I"⟩, prog_11_method_2_code, 1, (some .int), 0)
def ck_m67 : ck_MT := (⟨"ScratchLadder$Text", "clause", "(II)I"⟩, prog_11_method_3_code, 4, (some .int), 2)
def ck_m68 : ck_MT := (⟨"ScratchLadder$Question", "testOf", "(LScratchLadder$Text;I)J"⟩, prog_6_method_9_code, 5, (some .long), 2)
def ck_m69 : ck_MT := (⟨"ScratchLadder$Question", "worked", "([III)J"⟩, prog_6_method_10_code, 10, (some .long), 3)
def ck_m70 : ck_MT := (⟨"ScratchLadder$Question", "join", "(IJJ)J"⟩, prog_6_method_11_code, 5, (some .long), 3)
def ck_m71 : ck_MT := (⟨"ScratchLadder", "trial", "(IIIIII)I"⟩, prog_1_method_14_code, 8, (some .int), 6)
def ck_m72 : ck_MT := (⟨"ScratchLadder", "whatIsLeftBy", "(I)I"⟩, prog_1_method_46_code, 3, (some .int), 1)
def ck_m73 : ck_MT := (⟨"ScratchLadder$Bench", "drawsBelow", "(I)Z"⟩, prog_2_method_9_code, 2, (some .boolean), 1)
def ck_m74 : ck_MT := (⟨"ScratchLadder$Question", "lastTold", "(I)I"⟩, prog_6_method_8_code, 6, (some .int), 1)
def ck_m75 : ck_MT := (⟨"ScratchLadder$Bench", "addTrial", "([I)V"⟩, prog_2_method_12_code, 2, none, 1)
def ck_m76 : ck_MT := (⟨"ScratchLadder", "row", "()I"⟩, prog_1_method_15_code, 3, (some .int), 0)
def ck_m77 : ck_MT := (⟨"ScratchLadder$Bench", "canBeTrial", "([I)Z"⟩, prog_2_method_11_code, 2, (some .boolean), 1)
def ck_m78 : ck_MT := (⟨"ScratchLadder", "of", "(II)I"⟩, prog_1_method_16_code, 3, (some .int), 2)
def ck_m79 : ck_MT := (⟨"ScratchLadder$Bench", "hasTrial", "(I)Z"⟩, prog_2_method_13_code, 2, (some .boolean), 1)
def ck_m80 : ck_MT := (⟨"ScratchLadder$Bench", "column", "(II)I"⟩, prog_2_method_14_code, 3, (some .int), 2)
def ck_m81 : ck_MT := (⟨"ScratchLadder", "found", "(I)I"⟩, prog_1_method_17_code, 2, (some .int), 1)
def ck_m82 : ck_MT := (⟨"ScratchLadder$Bench", "letFallOut", "(I)V"⟩, prog_2_method_15_code, 2, none, 1)
def ck_m83 : ck_MT := (⟨"ScratchLadder", "view", "(III)I"⟩, prog_1_method_18_code, 6, (some .int), 3)
def ck_m84 : ck_MT := (⟨"ScratchLadder$Bench", "counts", "(I)Z"⟩, prog_2_method_16_code, 2, (some .boolean), 1)
def ck_m85 : ck_MT := (⟨"ScratchLadder", "says", "(II)I"⟩, prog_1_method_19_code, 3, (some .int), 2)
def ck_m86 : ck_MT := (⟨"ScratchLadder", "areTwo", "(II)Z"⟩, prog_1_method_47_code, 3, (some .boolean), 2)
def ck_m87 : ck_MT := (⟨"ScratchLadder$Ties", "look", "()V"⟩, prog_12_method_2_code, 2, none, 0)
def ck_m88 : ck_MT := (⟨"ScratchLadder$Ties", "take", "(I)V"⟩, prog_12_method_3_code, 4, none, 1)
def ck_m89 : ck_MT := (⟨"ScratchLadder$Bench", "speaks", "(I)Z"⟩, prog_2_method_17_code, 3, (some .boolean), 1)
def ck_m90 : ck_MT := (⟨"ScratchLadder$Ties", "close", "()V"⟩, prog_12_method_4_code, 3, none, 0)
def ck_m91 : ck_MT := (⟨"ScratchLadder", "over", "(II)I"⟩, prog_1_method_20_code, 3, (some .int), 2)
def ck_m92 : ck_MT := (⟨"ScratchLadder$Ties", "isOver", "(II)Z"⟩, prog_12_method_5_code, 3, (some .boolean), 2)
def ck_m93 : ck_MT := (⟨"ScratchLadder", "orders", "()I"⟩, prog_1_method_21_code, 1, (some .int), 0)
def ck_m94 : ck_MT := (⟨"ScratchLadder$Orders", "fitting", "([I)I"⟩, prog_5_method_2_code, 4, (some .int), 1)
def ck_m95 : ck_MT := (⟨"java/util/Arrays", "fill", "([IIII)V"⟩, prog_22_method_104_code, 5, none, 4)
def ck_m96 : ck_MT := (⟨"java/util/Arrays", "rangeCheck", "(III)V"⟩, prog_22_method_30_code, 3, none, 3)
def ck_m97 : ck_MT := (⟨"ScratchLadder$Orders", "spread", "(I[I)V"⟩, prog_5_method_3_code, 5, none, 2)
def ck_m98 : ck_MT := (⟨"ScratchLadder", "ahead", "(II)I"⟩, prog_1_method_22_code, 3, (some .int), 2)
def ck_m99 : ck_MT := (⟨"ScratchLadder", "ring", "(I)I"⟩, prog_1_method_23_code, 2, (some .int), 1)
def ck_m100 : ck_MT := (⟨"ScratchLadder$Ties", "shortestRing", "(I)I"⟩, prog_12_method_6_code, 4, (some .int), 1)
def ck_m101 : ck_MT := (⟨"ScratchLadder$Ties", "belowAnyOf", "(I)I"⟩, prog_12_method_7_code, 4, (some .int), 1)
def ck_m102 : ck_MT := (⟨"ScratchLadder", "untried", "()I"⟩, prog_1_method_24_code, 3, (some .int), 0)
def ck_m103 : ck_MT := (⟨"java/lang/Integer", "bitCount", "(I)I"⟩, prog_16_method_49_code, 1, (some .int), 1)
def ck_m104 : ck_MT := (⟨"ScratchLadder", "best", "()I"⟩, prog_1_method_25_code, 1, (some .int), 0)
def ck_m105 : ck_MT := (⟨"ScratchLadder$Orders", "findBest", "([I)I"⟩, prog_5_method_4_code, 4, (some .int), 1)
def ck_m106 : ck_MT := (⟨"ScratchLadder$Orders", "countHalves", "([I)V"⟩, prog_5_method_5_code, 7, none, 1)
def ck_m107 : ck_MT := (⟨"ScratchLadder$Orders", "least", "(I)I"⟩, prog_5_method_7_code, 4, (some .int), 1)
def ck_m108 : ck_MT := (⟨"ScratchLadder$Orders", "withFirst", "(II)I"⟩, prog_5_method_6_code, 4, (some .int), 2)
def ck_m109 : ck_MT := (⟨"ScratchLadder$Orders", "keepBest", "(I)V"⟩, prog_5_method_8_code, 5, none, 1)
def ck_m110 : ck_MT := (⟨"ScratchLadder$Orders", "lowestFirst", "(I)I"⟩, prog_5_method_9_code, 3, (some .int), 1)
def ck_m111 : ck_MT := (⟨"ScratchLadder", "place", "(I)I"⟩, prog_1_method_26_code, 2, (some .int), 1)
def ck_m112 : ck_MT := (⟨"ScratchLadder", "drop", "(I)I"⟩, prog_1_method_27_code, 4, (some .int), 1)
def ck_m113 : ck_MT := (⟨"ScratchLadder$Orders", "isAgainst", "(I)Z"⟩, prog_5_method_11_code, 2, (some .boolean), 1)
def ck_m114 : ck_MT := (⟨"ScratchLadder$Orders", "isBehind", "(II)Z"⟩, prog_5_method_10_code, 3, (some .boolean), 2)
def ck_m115 : ck_MT := (⟨"ScratchLadder", "span", "(II)I"⟩, prog_1_method_28_code, 3, (some .int), 2)
def ck_m116 : ck_MT := (⟨"ScratchLadder$Rungs", "numberBelow", "(I)I"⟩, prog_8_method_2_code, 5, (some .int), 1)
def ck_m117 : ck_MT := (⟨"ScratchLadder$Rungs", "isRung", "(LScratchLadder$Text;I)Z"⟩, prog_8_method_7_code, 3, (some .boolean), 2)
def ck_m118 : ck_MT := (⟨"ScratchLadder$Rungs", "stoneOf", "(LScratchLadder$Text;I)I"⟩, prog_8_method_9_code, 2, (some .int), 2)
def ck_m119 : ck_MT := (⟨"ScratchLadder$Rungs", "numberOf", "(LScratchLadder$Text;I)I"⟩, prog_8_method_8_code, 2, (some .int), 2)
def ck_m120 : ck_MT := (⟨"ScratchLadder$Rungs", "numberAbove", "(I)I"⟩, prog_8_method_3_code, 5, (some .int), 1)
def ck_m121 : ck_MT := (⟨"ScratchLadder", "settle", "(I)I"⟩, prog_1_method_29_code, 2, (some .int), 1)
def ck_m122 : ck_MT := (⟨"ScratchLadder$Rungs", "middleFor", "(I)I"⟩, prog_8_method_4_code, 7, (some .int), 1)
def ck_m123 : ck_MT := (⟨"ScratchLadder$Rungs", "isBetween", "(LScratchLadder$Text;IIII)Z"⟩, prog_8_method_6_code, 6, (some .boolean), 5)
def ck_m124 : ck_MT := (⟨"ScratchLadder$Rungs", "aheadOf", "(LScratchLadder$Text;III)I"⟩, prog_8_method_5_code, 9, (some .int), 4)
def ck_m125 : ck_MT := (⟨"ScratchLadder", "fewest", "(II)I"⟩, prog_1_method_30_code, 4, (some .int), 2)
def ck_m126 : ck_MT := (⟨"ScratchLadder$Sorter", "take", "(ILScratchLadder$Ties;)Z"⟩, prog_9_method_2_code, 5, (some .boolean), 2)
def ck_m127 : ck_MT := (⟨"ScratchLadder$Sorter", "isOver", "(III)Z"⟩, prog_9_method_8_code, 3, (some .boolean), 3)
def ck_m128 : ck_MT := (⟨"ScratchLadder$Sorter", "trialsNeeded", "()I"⟩, prog_9_method_3_code, 4, (some .int), 0)
def ck_m129 : ck_MT := (⟨"ScratchLadder$Sorter", "rowsLeft", "(I)I"⟩, prog_9_method_10_code, 6, (some .int), 1)
def ck_m130 : ck_MT := (⟨"ScratchLadder$Sorter", "goodPair", "(III)I"⟩, prog_9_method_5_code, 6, (some .int), 3)
def ck_m131 : ck_MT := (⟨"ScratchLadder$Sorter", "isGood", "(IIIII)Z"⟩, prog_9_method_6_code, 9, (some .boolean), 5)
def ck_m132 : ck_MT := (⟨"ScratchLadder$Sorter", "with", "(III)I"⟩, prog_9_method_9_code, 7, (some .int), 3)
def ck_m133 : ck_MT := (⟨"ScratchLadder$Sorter", "areEnough", "(III)Z"⟩, prog_9_method_7_code, 4, (some .boolean), 3)
def ck_m134 : ck_MT := (⟨"ScratchLadder$Sorter", "firstTrial", "()I"⟩, prog_9_method_4_code, 1, (some .int), 0)
def ck_m135 : ck_MT := (⟨"ScratchLadder", "choice", "(II)I"⟩, prog_1_method_31_code, 4, (some .int), 2)
def ck_m136 : ck_MT := (⟨"ScratchLadder$Orders", "chosenPlaces", "(I)I"⟩, prog_5_method_13_code, 6, (some .int), 1)
def ck_m137 : ck_MT := (⟨"ScratchLadder$Orders", "piecesToldApart", "(I)I"⟩, prog_5_method_14_code, 7, (some .int), 1)
def ck_m138 : ck_MT := (⟨"ScratchLadder$Orders", "hasPlace", "(II)Z"⟩, prog_5_method_12_code, 3, (some .boolean), 2)
def ck_m139 : ck_MT := (⟨"ScratchLadder$Orders", "stonesAt", "(I)I"⟩, prog_5_method_15_code, 4, (some .int), 1)
def ck_m140 : ck_MT := (⟨"ScratchLadder", "dents", "(II)I"⟩, prog_1_method_32_code, 3, (some .int), 2)
def ck_m141 : ck_MT := (⟨"ScratchLadder$Lineup", "byDents", "(I)V"⟩, prog_3_method_2_code, 3, none, 1)
def ck_m142 : ck_MT := (⟨"ScratchLadder$Lineup", "sort", "()V"⟩, prog_3_method_4_code, 3, none, 0)
def ck_m143 : ck_MT := (⟨"ScratchLadder", "grooves", "(I)I"⟩, prog_1_method_33_code, 2, (some .int), 1)
def ck_m144 : ck_MT := (⟨"ScratchLadder$Lineup", "byGrooves", "()V"⟩, prog_3_method_3_code, 3, none, 0)
def ck_m145 : ck_MT := (⟨"ScratchLadder", "otherwise", "(I)I"⟩, prog_1_method_34_code, 2, (some .int), 1)
def ck_m146 : ck_MT := (⟨"ScratchLadder$Lineup", "pairsOtherwise", "(LScratchLadder$Orders;)I"⟩, prog_3_method_5_code, 5, (some .int), 1)
def ck_m147 : ck_MT := (⟨"ScratchLadder", "shapes", "(II)I"⟩, prog_1_method_35_code, 5, (some .int), 2)
def ck_m148 : ck_MT := (⟨"ScratchLadder$Question", "hasShape", "(III)Z"⟩, prog_6_method_5_code, 5, (some .boolean), 3)
def ck_m149 : ck_MT := (⟨"ScratchLadder$Question", "waysCut", "(III)I"⟩, prog_6_method_4_code, 6, (some .int), 3)
def ck_m150 : ck_MT := (⟨"ScratchLadder", "slips", "(II)I"⟩, prog_1_method_36_code, 5, (some .int), 2)
def ck_m151 : ck_MT := (⟨"ScratchLadder", "glass", "(III)I"⟩, prog_1_method_37_code, 8, (some .int), 3)
def ck_m152 : ck_MT := (⟨"ScratchLadder$Question", "spotsCut", "(II)I"⟩, prog_6_method_6_code, 5, (some .int), 2)
def ck_m153 : ck_MT := (⟨"ScratchLadder", "called", "(I)I"⟩, prog_1_method_38_code, 2, (some .int), 1)
def ck_m154 : ck_MT := (⟨"ScratchLadder$Naming", "allRows", "()I"⟩, prog_4_method_2_code, 1, (some .int), 0)
def ck_m155 : ck_MT := (⟨"ScratchLadder$Naming", "rowsWith", "(I)I"⟩, prog_4_method_6_code, 7, (some .int), 1)
def ck_m156 : ck_MT := (⟨"ScratchLadder$Naming", "nextNumber", "(I)I"⟩, prog_4_method_7_code, 5, (some .int), 1)
def ck_m157 : ck_MT := (⟨"ScratchLadder$Bench", "knownNumber", "(I)I"⟩, prog_2_method_8_code, 2, (some .int), 1)
def ck_m158 : ck_MT := (⟨"ScratchLadder$Naming", "namesKnownAs", "(I)I"⟩, prog_4_method_8_code, 4, (some .int), 1)
def ck_m159 : ck_MT := (⟨"ScratchLadder$Naming", "giveOut", "(III)V"⟩, prog_4_method_9_code, 8, none, 3)
def ck_m160 : ck_MT := (⟨"ScratchLadder$Naming", "readyAfter", "(I)I"⟩, prog_4_method_10_code, 4, (some .int), 1)
def ck_m161 : ck_MT := (⟨"ScratchLadder$Naming", "wrongInAll", "()I"⟩, prog_4_method_3_code, 4, (some .int), 0)
def ck_m162 : ck_MT := (⟨"ScratchLadder$Naming", "wrongInSome", "()I"⟩, prog_4_method_4_code, 4, (some .int), 0)
def ck_m163 : ck_MT := (⟨"ScratchLadder$Naming", "canBeExchanged", "(I)Z"⟩, prog_4_method_5_code, 3, (some .boolean), 1)
def ck_m164 : ck_MT := (⟨"ScratchLadder", "lose", "()I"⟩, prog_1_method_39_code, 3, (some .int), 0)
def ck_m165 : ck_MT := (⟨"ScratchLadder", "image", "(I)I"⟩, prog_1_method_40_code, 2, (some .int), 1)
def ck_m166 : ck_MT := (⟨"ScratchLadder$Bench", "copyFrom", "(LScratchLadder$Bench;)V"⟩, prog_2_method_2_code, 3, none, 1)
def ck_m167 : ck_MT := (⟨"ScratchLadder$Bench", "copyRow", "([I[I)V"⟩, prog_2_method_3_code, 2, none, 2)
def ck_m168 : ck_MT := (⟨"ScratchLadder", "back", "(I)I"⟩, prog_1_method_41_code, 2, (some .int), 1)
def ck_m169 : ck_MT := (⟨"ScratchLadder", "count", "(I)I"⟩, prog_1_method_42_code, 2, (some .int), 1)
def ck_m170 : ck_MT := (⟨"ScratchLadder$Bench", "usesLeft", "()I"⟩, prog_2_method_7_code, 3, (some .int), 0)
def ck_m171 : ck_MT := (⟨"ScratchLadder", "status", "()I"⟩, prog_1_method_43_code, 1, (some .int), 0)
def ck_m172 : ck_MT := (⟨"ScratchLadderModel", "<init>", "()V"⟩, prog_14_method_4_code, 1, none, 0)
def ck_m173 : ck_MT := (⟨"ScratchLadderModel", "image", "(I)I"⟩, prog_14_method_5_code, 3, (some .int), 1)
def ck_m174 : ck_MT := (⟨"ScratchLadderModel", "in", "(III)Z"⟩, prog_14_method_1_code, 3, (some .boolean), 3)
def ck_m175 : ck_MT := (⟨"ScratchLadderModel", "refuses", "(I)I"⟩, prog_14_method_2_code, 2, (some .int), 1)
def ck_m176 : ck_MT := (⟨"ScratchLadderModel", "good", "(I)I"⟩, prog_14_method_3_code, 2, (some .int), 1)
def ck_m177 : ck_MT := (⟨"ScratchLadderModel", "back", "(I)I"⟩, prog_14_method_6_code, 3, (some .int), 1)
def ck_m178 : ck_MT := (⟨"ScratchLadderModel", "stone", "(III)I"⟩, prog_14_method_11_code, 6, (some .int), 3)
def ck_m179 : ck_MT := (⟨"ScratchLadderModel", "many", "()I"⟩, prog_14_method_7_code, 1, (some .int), 0)
def ck_m180 : ck_MT := (⟨"ScratchLadderModel", "plane", "(IIII)I"⟩, prog_14_method_13_code, 5, (some .int), 4)
def ck_m181 : ck_MT := (⟨"ScratchLadderModel", "isStone", "(I)Z"⟩, prog_14_method_8_code, 2, (some .boolean), 1)
def ck_m182 : ck_MT := (⟨"ScratchLadderModel", "replaces", "(II)I"⟩, prog_14_method_12_code, 4, (some .int), 2)
def ck_m183 : ck_MT := (⟨"ScratchLadderModel", "point", "(II)I"⟩, prog_14_method_14_code, 3, (some .int), 2)
def ck_m184 : ck_MT := (⟨"ScratchLadderModel", "known", "(II)I"⟩, prog_14_method_15_code, 3, (some .int), 2)
def ck_m185 : ck_MT := (⟨"ScratchLadderModel", "hand", "(III)I"⟩, prog_14_method_16_code, 4, (some .int), 3)
def ck_m186 : ck_MT := (⟨"ScratchLadderModel", "seed", "(I)I"⟩, prog_14_method_17_code, 2, (some .int), 1)
def ck_m187 : ck_MT := (⟨"ScratchLadderModel", "feed", "(IIIII)I"⟩, prog_14_method_19_code, 7, (some .int), 5)
def ck_m188 : ck_MT := (⟨"ScratchLadderModel", "end", "(I)I"⟩, prog_14_method_20_code, 2, (some .int), 1)
def ck_m189 : ck_MT := (⟨"ScratchLadderModel", "text", "()I"⟩, prog_14_method_40_code, 3, (some .int), 0)
def ck_m190 : ck_MT := (⟨"ScratchLadderModel", "reads", "()Z"⟩, prog_14_method_39_code, 2, (some .boolean), 0)
def ck_m191 : ck_MT := (⟨"ScratchLadderModel", "splits", "(I)V"⟩, prog_14_method_24_code, 6, none, 1)
def ck_m192 : ck_MT := (⟨"ScratchLadderModel", "isSmall", "(I)Z"⟩, prog_14_method_21_code, 1, (some .boolean), 1)
def ck_m193 : ck_MT := (⟨"ScratchLadderModel", "isDigit", "(I)Z"⟩, prog_14_method_22_code, 1, (some .boolean), 1)
def ck_m194 : ck_MT := (⟨"ScratchLadderModel", "wordOf", "(II)I"⟩, prog_14_method_23_code, 8, (some .int), 2)
def ck_m195 : ck_MT := (⟨"ScratchLadderModel", "readClause", "()V"⟩, prog_14_method_32_code, 1, none, 0)
def ck_m196 : ck_MT := (⟨"ScratchLadderModel", "takes", "(I)Z"⟩, prog_14_method_27_code, 3, (some .boolean), 1)
def ck_m197 : ck_MT := (⟨"ScratchLadderModel", "fine", "()Z"⟩, prog_14_method_25_code, 1, (some .boolean), 0)
def ck_m198 : ck_MT := (⟨"ScratchLadderModel", "number", "(I)V"⟩, prog_14_method_31_code, 2, none, 1)
def ck_m199 : ck_MT := (⟨"ScratchLadderModel", "faults", "()V"⟩, prog_14_method_26_code, 1, none, 0)
def ck_m200 : ck_MT := (⟨"ScratchLadderModel", "must", "(I)V"⟩, prog_14_method_28_code, 2, none, 1)
def ck_m201 : ck_MT := (⟨"ScratchLadderModel", "readSum", "(I)V"⟩, prog_14_method_36_code, 2, none, 1)
def ck_m202 : ck_MT := (⟨"ScratchLadderModel", "readTerm", "(I)V"⟩, prog_14_method_37_code, 2, none, 1)
def ck_m203 : ck_MT := (⟨"ScratchLadderModel", "readPart", "(I)V"⟩, prog_14_method_38_code, 3, none, 1)
def ck_m204 : ck_MT := (⟨"ScratchLadderModel", "sign", "(C)I"⟩, prog_14_method_30_code, 1, (some .int), 1)
def ck_m205 : ck_MT := (⟨"ScratchLadderModel", "leaf", "()V"⟩, prog_14_method_29_code, 1, none, 0)
def ck_m206 : ck_MT := (⟨"ScratchLadderModel", "readTest", "(I)V"⟩, prog_14_method_33_code, 2, none, 1)
def ck_m207 : ck_MT := (⟨"ScratchLadderModel", "readBoth", "(I)V"⟩, prog_14_method_34_code, 2, none, 1)
def ck_m208 : ck_MT := (⟨"ScratchLadderModel", "readPlain", "(I)V"⟩, prog_14_method_35_code, 4, none, 1)
def ck_m209 : ck_MT := (⟨"ScratchLadderModel", "fault", "()I"⟩, prog_14_method_41_code, 1, (some .int), 0)
def ck_m210 : ck_MT := (⟨"ScratchLadderModel", "law", "(I)I"⟩, prog_14_method_42_code, 2, (some .int), 1)
def ck_m211 : ck_MT := (⟨"ScratchLadderModel", "isText", "(I)Z"⟩, prog_14_method_9_code, 2, (some .boolean), 1)
def ck_m212 : ck_MT := (⟨"ScratchLadderModel", "cuts", "(IIII)I"⟩, prog_14_method_57_code, 5, (some .int), 4)
def ck_m213 : ck_MT := (⟨"ScratchLadderModel", "isSpot", "(II)Z"⟩, prog_14_method_56_code, 2, (some .boolean), 2)
def ck_m214 : ck_MT := (⟨"ScratchLadderModel", "isCut", "(IIII)Z"⟩, prog_14_method_55_code, 5, (some .boolean), 4)
def ck_m215 : ck_MT := (⟨"ScratchLadderModel", "asks", "(IIIIII)V"⟩, prog_14_method_54_code, 12, none, 6)
def ck_m216 : ck_MT := (⟨"ScratchLadderModel", "stoneOf", "(II)I"⟩, prog_14_method_10_code, 3, (some .int), 2)
def ck_m217 : ck_MT := (⟨"ScratchLadderModel", "codeAt", "(I)I"⟩, prog_14_method_43_code, 2, (some .int), 1)
def ck_m218 : ck_MT := (⟨"ScratchLadderModel", "sumOf", "(Z)J"⟩, prog_14_method_46_code, 7, (some .long), 1)
def ck_m219 : ck_MT := (⟨"ScratchLadderModel", "termOf", "(Z)J"⟩, prog_14_method_47_code, 7, (some .long), 1)
def ck_m220 : ck_MT := (⟨"ScratchLadderModel", "partOf", "(Z)J"⟩, prog_14_method_48_code, 4, (some .long), 1)
def ck_m221 : ck_MT := (⟨"ScratchLadderModel", "passes", "(I)Z"⟩, prog_14_method_44_code, 3, (some .boolean), 1)
def ck_m222 : ck_MT := (⟨"ScratchLadderModel", "bounded", "(JZ)J"⟩, prog_14_method_45_code, 4, (some .long), 2)
def ck_m223 : ck_MT := (⟨"ScratchLadderModel", "testOf", "(Z)Z"⟩, prog_14_method_49_code, 4, (some .boolean), 1)
def ck_m224 : ck_MT := (⟨"ScratchLadderModel", "bothOf", "(Z)Z"⟩, prog_14_method_50_code, 4, (some .boolean), 1)
def ck_m225 : ck_MT := (⟨"ScratchLadderModel", "plainOf", "(Z)Z"⟩, prog_14_method_51_code, 3, (some .boolean), 1)
def ck_m226 : ck_MT := (⟨"ScratchLadderModel", "positiveOf", "(Z)Z"⟩, prog_14_method_52_code, 7, (some .boolean), 1)
def ck_m227 : ck_MT := (⟨"ScratchLadderModel", "near", "(J)I"⟩, prog_14_method_53_code, 2, (some .int), 1)
def ck_m228 : ck_MT := (⟨"ScratchLadderModel", "trial", "(IIIIII)I"⟩, prog_14_method_61_code, 11, (some .int), 6)
def ck_m229 : ck_MT := (⟨"ScratchLadderModel", "draws", "(I)I"⟩, prog_14_method_18_code, 2, (some .int), 1)
def ck_m230 : ck_MT := (⟨"ScratchLadderModel", "keeps", "(IIIIIIII)V"⟩, prog_14_method_60_code, 10, none, 8)
def ck_m231 : ck_MT := (⟨"ScratchLadderModel", "row", "()I"⟩, prog_14_method_62_code, 7, (some .int), 0)
def ck_m232 : ck_MT := (⟨"ScratchLadderModel", "of", "(II)I"⟩, prog_14_method_63_code, 3, (some .int), 2)
def ck_m233 : ck_MT := (⟨"ScratchLadderModel", "isTrial", "(I)Z"⟩, prog_14_method_59_code, 2, (some .boolean), 1)
def ck_m234 : ck_MT := (⟨"ScratchLadderModel", "trialOf", "(II)I"⟩, prog_14_method_58_code, 3, (some .int), 2)
def ck_m235 : ck_MT := (⟨"ScratchLadderModel", "found", "(I)I"⟩, prog_14_method_64_code, 2, (some .int), 1)
def ck_m236 : ck_MT := (⟨"ScratchLadderModel", "view", "(III)I"⟩, prog_14_method_67_code, 6, (some .int), 3)
def ck_m237 : ck_MT := (⟨"ScratchLadderModel", "counts", "(I)Z"⟩, prog_14_method_65_code, 2, (some .boolean), 1)
def ck_m238 : ck_MT := (⟨"ScratchLadderModel", "says", "(II)I"⟩, prog_14_method_70_code, 3, (some .int), 2)
def ck_m239 : ck_MT := (⟨"ScratchLadderModel", "hears", "()V"⟩, prog_14_method_68_code, 3, none, 0)
def ck_m240 : ck_MT := (⟨"ScratchLadderModel", "speaks", "(I)Z"⟩, prog_14_method_66_code, 2, (some .boolean), 1)
def ck_m241 : ck_MT := (⟨"ScratchLadderModel", "over", "(II)I"⟩, prog_14_method_71_code, 3, (some .int), 2)
def ck_m242 : ck_MT := (⟨"ScratchLadderModel", "isOver", "(II)Z"⟩, prog_14_method_69_code, 3, (some .boolean), 2)
def ck_m243 : ck_MT := (⟨"ScratchLadderModel", "orders", "()I"⟩, prog_14_method_73_code, 1, (some .int), 0)
def ck_m244 : ck_MT := (⟨"ScratchLadderModel", "ordersWith", "(II)I"⟩, prog_14_method_72_code, 8, (some .int), 2)
def ck_m245 : ck_MT := (⟨"ScratchLadderModel", "ahead", "(II)I"⟩, prog_14_method_74_code, 3, (some .int), 2)
def ck_m246 : ck_MT := (⟨"ScratchLadderModel", "ring", "(I)I"⟩, prog_14_method_75_code, 7, (some .int), 1)
def ck_m247 : ck_MT := (⟨"ScratchLadderModel", "untried", "()I"⟩, prog_14_method_76_code, 6, (some .int), 0)
def ck_m248 : ck_MT := (⟨"ScratchLadderModel", "best", "()I"⟩, prog_14_method_78_code, 5, (some .int), 0)
def ck_m249 : ck_MT := (⟨"ScratchLadderModel", "against", "(II)I"⟩, prog_14_method_77_code, 5, (some .int), 2)
def ck_m250 : ck_MT := (⟨"ScratchLadderModel", "place", "(I)I"⟩, prog_14_method_79_code, 2, (some .int), 1)
def ck_m251 : ck_MT := (⟨"ScratchLadderModel", "drop", "(I)I"⟩, prog_14_method_82_code, 4, (some .int), 1)
def ck_m252 : ck_MT := (⟨"ScratchLadderModel", "isAgainst", "(I)Z"⟩, prog_14_method_81_code, 4, (some .boolean), 1)
def ck_m253 : ck_MT := (⟨"ScratchLadderModel", "placeOf", "(I)I"⟩, prog_14_method_80_code, 3, (some .int), 1)
def ck_m254 : ck_MT := (⟨"ScratchLadderModel", "span", "(II)I"⟩, prog_14_method_85_code, 3, (some .int), 2)
def ck_m255 : ck_MT := (⟨"ScratchLadderModel", "spans", "(I)V"⟩, prog_14_method_84_code, 3, none, 1)
def ck_m256 : ck_MT := (⟨"ScratchLadderModel", "climbs", "()V"⟩, prog_14_method_83_code, 4, none, 0)
def ck_m257 : ck_MT := (⟨"ScratchLadderModel", "settle", "(I)I"⟩, prog_14_method_87_code, 6, (some .int), 1)
def ck_m258 : ck_MT := (⟨"ScratchLadderModel", "isBetween", "(II)Z"⟩, prog_14_method_86_code, 3, (some .boolean), 2)
def ck_m259 : ck_MT := (⟨"ScratchLadderModel", "fewest", "(II)I"⟩, prog_14_method_97_code, 8, (some .int), 2)
def ck_m260 : ck_MT := (⟨"ScratchLadderModel", "ones", "(I)I"⟩, prog_14_method_96_code, 3, (some .int), 1)
def ck_m261 : ck_MT := (⟨"ScratchLadderModel", "closed", "(I)I"⟩, prog_14_method_91_code, 5, (some .int), 1)
def ck_m262 : ck_MT := (⟨"ScratchLadderModel", "fews", "(I)V"⟩, prog_14_method_95_code, 8, none, 1)
def ck_m263 : ck_MT := (⟨"ScratchLadderModel", "codes", "(I)I"⟩, prog_14_method_89_code, 1, (some .int), 1)
def ck_m264 : ck_MT := (⟨"ScratchLadderModel", "untold", "(II)I"⟩, prog_14_method_93_code, 6, (some .int), 2)
def ck_m265 : ck_MT := (⟨"ScratchLadderModel", "lays", "(II)V"⟩, prog_14_method_90_code, 7, none, 2)
def ck_m266 : ck_MT := (⟨"ScratchLadderModel", "worst", "(IIII)I"⟩, prog_14_method_94_code, 7, (some .int), 4)
def ck_m267 : ck_MT := (⟨"ScratchLadderModel", "fewAt", "(I)I"⟩, prog_14_method_88_code, 1, (some .int), 1)
def ck_m268 : ck_MT := (⟨"ScratchLadderModel", "with", "(IIII)I"⟩, prog_14_method_92_code, 5, (some .int), 4)
def ck_m269 : ck_MT := (⟨"ScratchLadderModel", "choice", "(II)I"⟩, prog_14_method_101_code, 7, (some .int), 2)
def ck_m270 : ck_MT := (⟨"ScratchLadderModel", "isBestThere", "()Z"⟩, prog_14_method_98_code, 2, (some .boolean), 0)
def ck_m271 : ck_MT := (⟨"ScratchLadderModel", "apart", "(I)I"⟩, prog_14_method_99_code, 6, (some .int), 1)
def ck_m272 : ck_MT := (⟨"ScratchLadderModel", "isFirst", "(II)Z"⟩, prog_14_method_100_code, 3, (some .boolean), 2)
def ck_m273 : ck_MT := (⟨"ScratchLadderModel", "dents", "(II)I"⟩, prog_14_method_106_code, 3, (some .int), 2)
def ck_m274 : ck_MT := (⟨"ScratchLadderModel", "dentsOf", "(I)V"⟩, prog_14_method_102_code, 3, none, 1)
def ck_m275 : ck_MT := (⟨"ScratchLadderModel", "standing", "(I)I"⟩, prog_14_method_105_code, 5, (some .int), 1)
def ck_m276 : ck_MT := (⟨"ScratchLadderModel", "isAhead", "(II)Z"⟩, prog_14_method_104_code, 3, (some .boolean), 2)
def ck_m277 : ck_MT := (⟨"ScratchLadderModel", "grooves", "(I)I"⟩, prog_14_method_107_code, 2, (some .int), 1)
def ck_m278 : ck_MT := (⟨"ScratchLadderModel", "groovesOf", "()V"⟩, prog_14_method_103_code, 5, none, 0)
def ck_m279 : ck_MT := (⟨"ScratchLadderModel", "otherwise", "(I)I"⟩, prog_14_method_108_code, 5, (some .int), 1)
def ck_m280 : ck_MT := (⟨"ScratchLadderModel", "shapes", "(II)I"⟩, prog_14_method_109_code, 8, (some .int), 2)
def ck_m281 : ck_MT := (⟨"ScratchLadderModel", "slips", "(II)I"⟩, prog_14_method_110_code, 5, (some .int), 2)
def ck_m282 : ck_MT := (⟨"ScratchLadderModel", "glass", "(III)I"⟩, prog_14_method_112_code, 8, (some .int), 3)
def ck_m283 : ck_MT := (⟨"ScratchLadderModel", "cutsOn", "(II)I"⟩, prog_14_method_111_code, 6, (some .int), 2)
def ck_m284 : ck_MT := (⟨"ScratchLadderModel", "called", "(I)I"⟩, prog_14_method_116_code, 9, (some .int), 1)
def ck_m285 : ck_MT := (⟨"ScratchLadderModel", "isRow", "(I)Z"⟩, prog_14_method_114_code, 5, (some .boolean), 1)
def ck_m286 : ck_MT := (⟨"ScratchLadderModel", "knownOf", "(I)I"⟩, prog_14_method_113_code, 2, (some .int), 1)
def ck_m287 : ck_MT := (⟨"ScratchLadderModel", "nextRow", "(I)Z"⟩, prog_14_method_115_code, 7, (some .boolean), 1)
def ck_m288 : ck_MT := (⟨"ScratchLadderModel", "lose", "()I"⟩, prog_14_method_117_code, 3, (some .int), 0)
def ck_m289 : ck_MT := (⟨"ScratchLadderModel", "count", "(I)I"⟩, prog_14_method_118_code, 4, (some .int), 1)
def ck_m290 : ck_MT := (⟨"ScratchLadderModel", "status", "()I"⟩, prog_14_method_119_code, 1, (some .int), 0)
def ck_m291 : ck_MT := (⟨"", "", ""⟩, ⟨#[]⟩, 0, none, 0)
def ck_mts : List ck_MT := [ck_m0, ck_m1, ck_m2, ck_m3, ck_m4, ck_m5, ck_m6, ck_m7, ck_m8, ck_m9, ck_m10, ck_m11, ck_m12, ck_m13, ck_m14, ck_m15, ck_m16, ck_m17, ck_m18, ck_m19, ck_m20, ck_m21, ck_m22, ck_m23, ck_m24, ck_m25, ck_m26, ck_m27, ck_m28, ck_m29, ck_m30, ck_m31, ck_m32, ck_m33, ck_m34, ck_m35, ck_m36, ck_m37, ck_m38, ck_m39, ck_m40, ck_m41, ck_m42, ck_m43, ck_m44, ck_m45, ck_m46, ck_m47, ck_m48, ck_m49, ck_m50, ck_m51, ck_m52, ck_m53, ck_m54, ck_m55, ck_m56, ck_m57, ck_m58, ck_m59, ck_m60, ck_m61, ck_m62, ck_m63, ck_m64, ck_m65, ck_m66, ck_m67, ck_m68, ck_m69, ck_m70, ck_m71, ck_m72, ck_m73, ck_m74, ck_m75, ck_m76, ck_m77, ck_m78, ck_m79, ck_m80, ck_m81, ck_m82, ck_m83, ck_m84, ck_m85, ck_m86, ck_m87, ck_m88, ck_m89, ck_m90, ck_m91, ck_m92, ck_m93, ck_m94, ck_m95, ck_m96, ck_m97, ck_m98, ck_m99, ck_m100, ck_m101, ck_m102, ck_m103, ck_m104, ck_m105, ck_m106, ck_m107, ck_m108, ck_m109, ck_m110, ck_m111, ck_m112, ck_m113, ck_m114, ck_m115, ck_m116, ck_m117, ck_m118, ck_m119, ck_m120, ck_m121, ck_m122, ck_m123, ck_m124, ck_m125, ck_m126, ck_m127, ck_m128, ck_m129, ck_m130, ck_m131, ck_m132, ck_m133, ck_m134, ck_m135, ck_m136, ck_m137, ck_m138, ck_m139, ck_m140, ck_m141, ck_m142, ck_m143, ck_m144, ck_m145, ck_m146, ck_m147, ck_m148, ck_m149, ck_m150, ck_m151, ck_m152, ck_m153, ck_m154, ck_m155, ck_m156, ck_m157, ck_m158, ck_m159, ck_m160, ck_m161, ck_m162, ck_m163, ck_m164, ck_m165, ck_m166, ck_m167, ck_m168, ck_m169, ck_m170, ck_m171, ck_m172, ck_m173, ck_m174, ck_m175, ck_m176, ck_m177, ck_m178, ck_m179, ck_m180, ck_m181, ck_m182, ck_m183, ck_m184, ck_m185, ck_m186, ck_m187, ck_m188, ck_m189, ck_m190, ck_m191, ck_m192, ck_m193, ck_m194, ck_m195, ck_m196, ck_m197, ck_m198, ck_m199, ck_m200, ck_m201, ck_m202, ck_m203, ck_m204, ck_m205, ck_m206, ck_m207, ck_m208, ck_m209, ck_m210, ck_m211, ck_m212, ck_m213, ck_m214, ck_m215, ck_m216, ck_m217, ck_m218, ck_m219, ck_m220, ck_m221, ck_m222, ck_m223, ck_m224, ck_m225, ck_m226, ck_m227, ck_m228, ck_m229, ck_m230, ck_m231, ck_m232, ck_m233, ck_m234, ck_m235, ck_m236, ck_m237, ck_m238, ck_m239, ck_m240, ck_m241, ck_m242, ck_m243, ck_m244, ck_m245, ck_m246, ck_m247, ck_m248, ck_m249, ck_m250, ck_m251, ck_m252, ck_m253, ck_m254, ck_m255, ck_m256, ck_m257, ck_m258, ck_m259, ck_m260, ck_m261, ck_m262, ck_m263, ck_m264, ck_m265, ck_m266, ck_m267, ck_m268, ck_m269, ck_m270, ck_m271, ck_m272, ck_m273, ck_m274, ck_m275, ck_m276, ck_m277, ck_m278, ck_m279, ck_m280, ck_m281, ck_m282, ck_m283, ck_m284, ck_m285, ck_m286, ck_m287, ck_m288, ck_m289, ck_m290, ck_m291]
def ck_NM : List (String × Nat × MethodName × String) := [("ScratchLadder", 11, ⟨"ScratchLadder$Bench", "<init>", "()V"⟩, "ScratchLadder"), ("ScratchLadder", 26, ⟨"ScratchLadder$Tape", "<init>", "()V"⟩, "ScratchLadder"), ("ScratchLadder", 83, ⟨"ScratchLadder$Sorter", "<init>", "()V"⟩, "ScratchLadder"), ("ScratchLadder$Bench", 92, ⟨"ScratchLadder", "within", "(III)Z"⟩, "ScratchLadder"), ("ScratchLadder$Bench", 101, ⟨"ScratchLadder", "isSpot", "(II)Z"⟩, "ScratchLadder"), ("ScratchLadder$Bench", 105, ⟨"ScratchLadder", "isHand", "(I)Z"⟩, "ScratchLadder"), ("ScratchLadder$Question", 96, ⟨"ScratchLadder", "within", "(III)Z"⟩, "ScratchLadder"), ("ScratchLadder$Reader", 141, ⟨"ScratchLadder", "within", "(III)Z"⟩, "ScratchLadder")]
def ck_AO : List String := ["ScratchLadder$Bench", "ScratchLadder$Text"]
def ck_SL : List (String × Nat × Nat) := [("ScratchLadder$Reader", 104, 0), ("ScratchLadder$Reader", 118, 1), ("ScratchLadder$Reader", 139, 2), ("ScratchLadder$Reader", 127, 3), ("ScratchLadder$Reader", 129, 4), ("ScratchLadder$Reader", 131, 5), ("ScratchLadder$Reader", 133, 6), ("ScratchLadder$Reader", 187, 7), ("ScratchLadder$Reader", 189, 8), ("ScratchLadder$Reader", 191, 9), ("ScratchLadder$Reader", 193, 10), ("ScratchLadder$Reader", 195, 11), ("ScratchLadder$Reader", 197, 12), ("ScratchLadder$Reader", 199, 13), ("ScratchLadder$Reader", 201, 14), ("ScratchLadder$Reader", 148, 15), ("ScratchLadder$Reader", 161, 16), ("ScratchLadder$Reader", 163, 17)]
def ck_sh : List ck_Sh := [.inl (11, 15), .inl (0, 19), .inr (.int, 12), .inr (.int, 12), .inr (.int, 12), .inr (.int, 12), .inr (.int, 144), .inr (.int, 12), .inr (.int, 4), .inr (.int, 4), .inr ((.object "ScratchLadder$Text"), 10), .inl (9, 2), .inr (.int, 0), .inr (.int, 0), .inr (.int, 1080), .inr ((.object "ScratchLadder$Bench"), 2), .inl (0, 19), .inr (.int, 12), .inr (.int, 12), .inr (.int, 12), .inr (.int, 12), .inr (.int, 144), .inr (.int, 12), .inr (.int, 4), .inr (.int, 4), .inr ((.object "ScratchLadder$Text"), 10), .inl (9, 2), .inr (.int, 0), .inr (.int, 0), .inr (.int, 1080), .inl (0, 19), .inr (.int, 12), .inr (.int, 12), .inr (.int, 12), .inr (.int, 12), .inr (.int, 144), .inr (.int, 12), .inr (.int, 4), .inr (.int, 4), .inr ((.object "ScratchLadder$Text"), 10), .inl (9, 2), .inr (.int, 0), .inr (.int, 0), .inr (.int, 1080), .inr (.boolean, 2), .inl (8, 2), .inr (.int, 400), .inl (5, 11), .inr (.int, 48), .inr (.int, 800), .inl (4, 3), .inr (.long, 51), .inr (.int, 8), .inl (10, 6), .inr (.int, 144), .inr (.int, 12), .inr (.int, 12), .inr (.int, 12), .inr (.int, 12), .inl (3, 7), .inr (.int, 4096), .inr (.int, 768), .inr (.int, 768), .inr (.int, 12), .inr (.int, 12), .inl (1, 6), .inr (.int, 12), .inr (.int, 12), .inr (.int, 12), .inr (.int, 12), .inl (6, 2), .inl (7, 5), .inr (.int, 5), .inr (.int, 32), .inl (2, 3), .inr (.int, 256), .inr (.int, 9), .inl (12, 41), .inr (.int, 9310), .inr (.int, 18620), .inr (.boolean, 2), .inr (.byte, 86), .inr (.byte, 400), .inr (.int, 5), .inr (.int, 401), .inr (.int, 401), .inr (.int, 401), .inr (.int, 8), .inr (.int, 144), .inr (.int, 12), .inr (.int, 4096), .inr (.int, 4096), .inr (.int, 12), .inr (.int, 12), .inr (.int, 12), .inr (.byte, 59808), .inr (.boolean, 6), .inr (.int, 25), .inr (.int, 12), .inr (.int, 12), .inr (.int, 8)]
def ck_ats : List FieldType := [.byte, .int, .long, .boolean]
theorem ck_okAt : ∀ t ∈ ck_ats, Cond.arrayClass t ∈ ck_TS := (ck_cons (ck_mem 783 (by decide +kernel) rfl) (ck_cons (ck_mem 173 (by decide +kernel) rfl) (ck_cons (ck_mem 332 (by decide +kernel) rfl) (ck_cons (ck_mem 275 (by decide +kernel) rfl) ck_nil))))
def ck_tr : List (Nat × List ab_P) := [(14, [(0, 9, 120), (1, 9, 120), (0, 1, 1080)]), (15, [(0, 1, 1), (1, 1, 1)]), (29, [(0, 9, 120), (1, 9, 120), (0, 1, 1080)]), (43, [(0, 9, 120), (1, 9, 120), (0, 1, 1080)]), (78, [(0, 16, 12), (1, 16, 12), (2, 16, 12), (212, 9, 120), (213, 9, 120), (1292, 1, 1), (1293, 1, 1), (1294, 1, 1), (1295, 1, 1), (1296, 1, 1), (1297, 1, 3), (1300, 1, 10), (0, 1, 9310)]), (79, [(0, 16, 12), (1, 16, 12), (2, 16, 12), (212, 9, 120), (213, 9, 120), (1292, 1, 1), (1293, 1, 1), (1294, 1, 1), (1295, 1, 1), (1296, 1, 1), (1297, 1, 3), (1300, 1, 10), (9310, 16, 12), (9311, 16, 12), (9312, 16, 12), (9522, 9, 120), (9523, 9, 120), (10602, 1, 1), (10603, 1, 1), (10604, 1, 1), (10605, 1, 1), (10606, 1, 1), (10607, 1, 3), (10610, 1, 10), (0, 1, 18620)])]
