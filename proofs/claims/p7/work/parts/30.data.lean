/-! THE TABLES OF THIS PROGRAM: written by wip/gen2/pr2.py out of what TURN printed -/
def RX0 : String := "ScratchLadder$Bench"
def TX0 : u_T := fun k => match k with
  | 0 => ("ScratchLadder$Bench", "stones", "I", false)
  | 1 => ("ScratchLadder$Bench", "names", "[I", true)
  | 2 => ("ScratchLadder$Bench", "pieces", "[I", true)
  | 3 => ("ScratchLadder$Bench", "uses", "[I", true)
  | 4 => ("ScratchLadder$Bench", "points", "[I", true)
  | 5 => ("ScratchLadder$Bench", "planes", "[I", true)
  | 6 => ("ScratchLadder$Bench", "knownAs", "[I", true)
  | 7 => ("ScratchLadder$Bench", "slipOf", "[I", true)
  | 8 => ("ScratchLadder$Bench", "dustOf", "[I", true)
  | 9 => ("ScratchLadder$Bench", "drawn", "I", false)
  | 10 => ("ScratchLadder$Bench", "law", "I", false)
  | 11 => ("ScratchLadder$Bench", "texts", "I", false)
  | 12 => ("ScratchLadder$Bench", "written", "[LScratchLadder$Text;", true)
  | 13 => ("ScratchLadder$Bench", "noLaw", "LScratchLadder$Text;", true)
  | 14 => ("ScratchLadder$Bench", "trials", "I", false)
  | 15 => ("ScratchLadder$Bench", "columns", "[I", true)
  | 16 => ("ScratchLadder$Bench", "facesSeen", "I", false)
  | 17 => ("ScratchLadder$Bench", "waysSeen", "I", false)
  | _ => ("ScratchLadder$Bench", "handsSeen", "I", false)
def tyX0 : Nat → FieldType := fun k => match k with
  | 0 => .int
  | 1 => .array .int
  | 2 => .array .int
  | 3 => .array .int
  | 4 => .array .int
  | 5 => .array .int
  | 6 => .array .int
  | 7 => .array .int
  | 8 => .array .int
  | 9 => .int
  | 10 => .int
  | 11 => .int
  | 12 => .array (.object "ScratchLadder$Text")
  | 13 => .object "ScratchLadder$Text"
  | 14 => .int
  | 15 => .array .int
  | 16 => .int
  | 17 => .int
  | _ => .int
theorem nmX0 : ∀ a, a < 19 → ∀ b, b < 19 → a ≠ b → (TX0 a).2.1 ≠ (TX0 b).2.1 := by decide +kernel
theorem tyX0_ok : ∀ k, k < 19 → parseFieldDescriptor (TX0 k).2.2.1 = some (tyX0 k) := by decide +kernel
def RX1 : String := "ScratchLadder$Lineup"
def TX1 : u_T := fun k => match k with
  | 0 => ("ScratchLadder$Lineup", "bench", "LScratchLadder$Bench;", true)
  | 1 => ("ScratchLadder$Lineup", "question", "LScratchLadder$Question;", true)
  | 2 => ("ScratchLadder$Lineup", "keys", "[I", true)
  | 3 => ("ScratchLadder$Lineup", "depths", "[I", true)
  | 4 => ("ScratchLadder$Lineup", "loads", "[I", true)
  | _ => ("ScratchLadder$Lineup", "stoneAt", "[I", true)
def tyX1 : Nat → FieldType := fun k => match k with
  | 0 => .object "ScratchLadder$Bench"
  | 1 => .object "ScratchLadder$Question"
  | 2 => .array .int
  | 3 => .array .int
  | 4 => .array .int
  | _ => .array .int
theorem nmX1 : ∀ a, a < 6 → ∀ b, b < 6 → a ≠ b → (TX1 a).2.1 ≠ (TX1 b).2.1 := by decide +kernel
theorem tyX1_ok : ∀ k, k < 6 → parseFieldDescriptor (TX1 k).2.2.1 = some (tyX1 k) := by decide +kernel
def RX2 : String := "ScratchLadder$Naming"
def TX2 : u_T := fun k => match k with
  | 0 => ("ScratchLadder$Naming", "bench", "LScratchLadder$Bench;", true)
  | 1 => ("ScratchLadder$Naming", "ties", "LScratchLadder$Ties;", true)
  | _ => ("ScratchLadder$Naming", "rows", "[I", true)
def tyX2 : Nat → FieldType := fun k => match k with
  | 0 => .object "ScratchLadder$Bench"
  | 1 => .object "ScratchLadder$Ties"
  | _ => .array .int
theorem nmX2 : ∀ a, a < 3 → ∀ b, b < 3 → a ≠ b → (TX2 a).2.1 ≠ (TX2 b).2.1 := by decide +kernel
theorem tyX2_ok : ∀ k, k < 3 → parseFieldDescriptor (TX2 k).2.2.1 = some (tyX2 k) := by decide +kernel
def RX3 : String := "ScratchLadder$Orders"
def TX3 : u_T := fun k => match k with
  | 0 => ("ScratchLadder$Orders", "bench", "LScratchLadder$Bench;", true)
  | 1 => ("ScratchLadder$Orders", "table", "[I", true)
  | 2 => ("ScratchLadder$Orders", "againstLow", "[I", true)
  | 3 => ("ScratchLadder$Orders", "againstHigh", "[I", true)
  | 4 => ("ScratchLadder$Orders", "size", "I", false)
  | 5 => ("ScratchLadder$Orders", "best", "[I", true)
  | _ => ("ScratchLadder$Orders", "placeInBest", "[I", true)
def tyX3 : Nat → FieldType := fun k => match k with
  | 0 => .object "ScratchLadder$Bench"
  | 1 => .array .int
  | 2 => .array .int
  | 3 => .array .int
  | 4 => .int
  | 5 => .array .int
  | _ => .array .int
theorem nmX3 : ∀ a, a < 7 → ∀ b, b < 7 → a ≠ b → (TX3 a).2.1 ≠ (TX3 b).2.1 := by decide +kernel
theorem tyX3_ok : ∀ k, k < 7 → parseFieldDescriptor (TX3 k).2.2.1 = some (tyX3 k) := by decide +kernel
def RX4 : String := "ScratchLadder$Question"
def TX4 : u_T := fun k => match k with
  | 0 => ("ScratchLadder$Question", "bench", "LScratchLadder$Bench;", true)
  | 1 => ("ScratchLadder$Question", "stack", "[J", true)
  | _ => ("ScratchLadder$Question", "words", "[I", true)
def tyX4 : Nat → FieldType := fun k => match k with
  | 0 => .object "ScratchLadder$Bench"
  | 1 => .array .long
  | _ => .array .int
theorem nmX4 : ∀ a, a < 3 → ∀ b, b < 3 → a ≠ b → (TX4 a).2.1 ≠ (TX4 b).2.1 := by decide +kernel
theorem tyX4_ok : ∀ k, k < 3 → parseFieldDescriptor (TX4 k).2.2.1 = some (tyX4 k) := by decide +kernel
def RX5 : String := "ScratchLadder$Reader"
def TX5 : u_T := fun k => match k with
  | 0 => ("ScratchLadder$Reader", "tape", "LScratchLadder$Tape;", true)
  | 1 => ("ScratchLadder$Reader", "clauses", "[I", true)
  | 2 => ("ScratchLadder$Reader", "clauseCount", "I", false)
  | 3 => ("ScratchLadder$Reader", "steps", "[I", true)
  | 4 => ("ScratchLadder$Reader", "stepCount", "I", false)
  | 5 => ("ScratchLadder$Reader", "parts", "I", false)
  | 6 => ("ScratchLadder$Reader", "brackets", "I", false)
  | 7 => ("ScratchLadder$Reader", "tokenKind", "I", false)
  | 8 => ("ScratchLadder$Reader", "tokenStart", "I", false)
  | 9 => ("ScratchLadder$Reader", "tokenEnd", "I", false)
  | _ => ("ScratchLadder$Reader", "tokenNumber", "I", false)
def tyX5 : Nat → FieldType := fun k => match k with
  | 0 => .object "ScratchLadder$Tape"
  | 1 => .array .int
  | 2 => .int
  | 3 => .array .int
  | 4 => .int
  | 5 => .int
  | 6 => .int
  | 7 => .int
  | 8 => .int
  | 9 => .int
  | _ => .int
theorem nmX5 : ∀ a, a < 11 → ∀ b, b < 11 → a ≠ b → (TX5 a).2.1 ≠ (TX5 b).2.1 := by decide +kernel
theorem tyX5_ok : ∀ k, k < 11 → parseFieldDescriptor (TX5 k).2.2.1 = some (tyX5 k) := by decide +kernel
def RX6 : String := "ScratchLadder$Rungs"
def TX6 : u_T := fun k => match k with
  | 0 => ("ScratchLadder$Rungs", "bench", "LScratchLadder$Bench;", true)
  | _ => ("ScratchLadder$Rungs", "ties", "LScratchLadder$Ties;", true)
def tyX6 : Nat → FieldType := fun k => match k with
  | 0 => .object "ScratchLadder$Bench"
  | _ => .object "ScratchLadder$Ties"
theorem nmX6 : ∀ a, a < 2 → ∀ b, b < 2 → a ≠ b → (TX6 a).2.1 ≠ (TX6 b).2.1 := by decide +kernel
theorem tyX6_ok : ∀ k, k < 2 → parseFieldDescriptor (TX6 k).2.2.1 = some (tyX6 k) := by decide +kernel
def RX7 : String := "ScratchLadder$Sorter"
def TX7 : u_T := fun k => match k with
  | 0 => ("ScratchLadder$Sorter", "told", "[I", true)
  | 1 => ("ScratchLadder$Sorter", "rows", "[I", true)
  | 2 => ("ScratchLadder$Sorter", "size", "I", false)
  | 3 => ("ScratchLadder$Sorter", "start", "I", false)
  | _ => ("ScratchLadder$Sorter", "firstPair", "I", false)
def tyX7 : Nat → FieldType := fun k => match k with
  | 0 => .array .int
  | 1 => .array .int
  | 2 => .int
  | 3 => .int
  | _ => .int
theorem nmX7 : ∀ a, a < 5 → ∀ b, b < 5 → a ≠ b → (TX7 a).2.1 ≠ (TX7 b).2.1 := by decide +kernel
theorem tyX7_ok : ∀ k, k < 5 → parseFieldDescriptor (TX7 k).2.2.1 = some (tyX7 k) := by decide +kernel
def RX8 : String := "ScratchLadder$Tape"
def TX8 : u_T := fun k => match k with
  | 0 => ("ScratchLadder$Tape", "bytes", "[I", true)
  | _ => ("ScratchLadder$Tape", "length", "I", false)
def tyX8 : Nat → FieldType := fun k => match k with
  | 0 => .array .int
  | _ => .int
theorem nmX8 : ∀ a, a < 2 → ∀ b, b < 2 → a ≠ b → (TX8 a).2.1 ≠ (TX8 b).2.1 := by decide +kernel
theorem tyX8_ok : ∀ k, k < 2 → parseFieldDescriptor (TX8 k).2.2.1 = some (tyX8 k) := by decide +kernel
def RX9 : String := "ScratchLadder$Text"
def TX9 : u_T := fun k => match k with
  | 0 => ("ScratchLadder$Text", "clauses", "[I", true)
  | _ => ("ScratchLadder$Text", "steps", "[I", true)
def tyX9 : Nat → FieldType := fun k => match k with
  | 0 => .array .int
  | _ => .array .int
theorem nmX9 : ∀ a, a < 2 → ∀ b, b < 2 → a ≠ b → (TX9 a).2.1 ≠ (TX9 b).2.1 := by decide +kernel
theorem tyX9_ok : ∀ k, k < 2 → parseFieldDescriptor (TX9 k).2.2.1 = some (tyX9 k) := by decide +kernel
def RX10 : String := "ScratchLadder$Ties"
def TX10 : u_T := fun k => match k with
  | 0 => ("ScratchLadder$Ties", "bench", "LScratchLadder$Bench;", true)
  | 1 => ("ScratchLadder$Ties", "said", "[I", true)
  | 2 => ("ScratchLadder$Ties", "above", "[I", true)
  | 3 => ("ScratchLadder$Ties", "below", "[I", true)
  | 4 => ("ScratchLadder$Ties", "under", "[I", true)
  | _ => ("ScratchLadder$Ties", "tried", "[I", true)
def tyX10 : Nat → FieldType := fun k => match k with
  | 0 => .object "ScratchLadder$Bench"
  | 1 => .array .int
  | 2 => .array .int
  | 3 => .array .int
  | 4 => .array .int
  | _ => .array .int
theorem nmX10 : ∀ a, a < 6 → ∀ b, b < 6 → a ≠ b → (TX10 a).2.1 ≠ (TX10 b).2.1 := by decide +kernel
theorem tyX10_ok : ∀ k, k < 6 → parseFieldDescriptor (TX10 k).2.2.1 = some (tyX10 k) := by decide +kernel
def RX11 : String := "ScratchLadder"
def TX11 : u_T := fun k => match k with
  | 0 => ("ScratchLadder", "now", "LScratchLadder$Bench;", true)
  | 1 => ("ScratchLadder", "images", "[LScratchLadder$Bench;", true)
  | 2 => ("ScratchLadder", "imageKept", "[Z", true)
  | 3 => ("ScratchLadder", "tape", "LScratchLadder$Tape;", true)
  | 4 => ("ScratchLadder", "reader", "LScratchLadder$Reader;", true)
  | 5 => ("ScratchLadder", "question", "LScratchLadder$Question;", true)
  | 6 => ("ScratchLadder", "ties", "LScratchLadder$Ties;", true)
  | 7 => ("ScratchLadder", "ladder", "LScratchLadder$Orders;", true)
  | 8 => ("ScratchLadder", "lineup", "LScratchLadder$Lineup;", true)
  | 9 => ("ScratchLadder", "rungs", "LScratchLadder$Rungs;", true)
  | 10 => ("ScratchLadder", "sorter", "LScratchLadder$Sorter;", true)
  | 11 => ("ScratchLadder", "naming", "LScratchLadder$Naming;", true)
  | 12 => ("ScratchLadder", "newTrial", "[I", true)
  | 13 => ("ScratchLadder", "latestFault", "I", false)
  | _ => ("ScratchLadder", "latestRefusal", "I", false)
def tyX11 : Nat → FieldType := fun k => match k with
  | 0 => .object "ScratchLadder$Bench"
  | 1 => .array (.object "ScratchLadder$Bench")
  | 2 => .array .boolean
  | 3 => .object "ScratchLadder$Tape"
  | 4 => .object "ScratchLadder$Reader"
  | 5 => .object "ScratchLadder$Question"
  | 6 => .object "ScratchLadder$Ties"
  | 7 => .object "ScratchLadder$Orders"
  | 8 => .object "ScratchLadder$Lineup"
  | 9 => .object "ScratchLadder$Rungs"
  | 10 => .object "ScratchLadder$Sorter"
  | 11 => .object "ScratchLadder$Naming"
  | 12 => .array .int
  | 13 => .int
  | _ => .int
theorem nmX11 : ∀ a, a < 15 → ∀ b, b < 15 → a ≠ b → (TX11 a).2.1 ≠ (TX11 b).2.1 := by decide +kernel
theorem tyX11_ok : ∀ k, k < 15 → parseFieldDescriptor (TX11 k).2.2.1 = some (tyX11 k) := by decide +kernel
def RX12 : String := "ScratchLadderModel"
def TX12 : u_T := fun k => match k with
  | 0 => ("ScratchLadderModel", "status", "I", false)
  | 1 => ("ScratchLadderModel", "kept", "[I", true)
  | 2 => ("ScratchLadderModel", "images", "[I", true)
  | 3 => ("ScratchLadderModel", "hasImage", "[Z", true)
  | 4 => ("ScratchLadderModel", "words", "[B", true)
  | 5 => ("ScratchLadderModel", "tape", "[B", true)
  | 6 => ("ScratchLadderModel", "five", "[I", true)
  | 7 => ("ScratchLadderModel", "taped", "I", false)
  | 8 => ("ScratchLadderModel", "fault", "I", false)
  | 9 => ("ScratchLadderModel", "code", "[I", true)
  | 10 => ("ScratchLadderModel", "value", "[I", true)
  | 11 => ("ScratchLadderModel", "placed", "[I", true)
  | 12 => ("ScratchLadderModel", "tokens", "I", false)
  | 13 => ("ScratchLadderModel", "token", "I", false)
  | 14 => ("ScratchLadderModel", "leaves", "I", false)
  | 15 => ("ScratchLadderModel", "bad", "I", false)
  | 16 => ("ScratchLadderModel", "go", "I", false)
  | 17 => ("ScratchLadderModel", "goEnd", "I", false)
  | 18 => ("ScratchLadderModel", "broken", "Z", false)
  | 19 => ("ScratchLadderModel", "asked", "[I", true)
  | 20 => ("ScratchLadderModel", "cutsIt", "Z", false)
  | 21 => ("ScratchLadderModel", "bothOfIt", "Z", false)
  | 22 => ("ScratchLadderModel", "depth", "I", false)
  | 23 => ("ScratchLadderModel", "dent", "I", false)
  | 24 => ("ScratchLadderModel", "said", "[I", true)
  | 25 => ("ScratchLadderModel", "over", "[I", true)
  | 26 => ("ScratchLadderModel", "ways", "[I", true)
  | 27 => ("ScratchLadderModel", "least", "[I", true)
  | 28 => ("ScratchLadderModel", "bestRow", "[I", true)
  | 29 => ("ScratchLadderModel", "bestMany", "I", false)
  | 30 => ("ScratchLadderModel", "rungStone", "[I", true)
  | 31 => ("ScratchLadderModel", "rungNumber", "[I", true)
  | 32 => ("ScratchLadderModel", "rungs", "I", false)
  | 33 => ("ScratchLadderModel", "low", "I", false)
  | 34 => ("ScratchLadderModel", "high", "I", false)
  | 35 => ("ScratchLadderModel", "few", "[B", true)
  | 36 => ("ScratchLadderModel", "hasFew", "[Z", true)
  | 37 => ("ScratchLadderModel", "lies", "[I", true)
  | 38 => ("ScratchLadderModel", "chosen", "[I", true)
  | 39 => ("ScratchLadderModel", "has", "[I", true)
  | _ => ("ScratchLadderModel", "given", "[I", true)
def tyX12 : Nat → FieldType := fun k => match k with
  | 0 => .int
  | 1 => .array .int
  | 2 => .array .int
  | 3 => .array .boolean
  | 4 => .array .byte
  | 5 => .array .byte
  | 6 => .array .int
  | 7 => .int
  | 8 => .int
  | 9 => .array .int
  | 10 => .array .int
  | 11 => .array .int
  | 12 => .int
  | 13 => .int
  | 14 => .int
  | 15 => .int
  | 16 => .int
  | 17 => .int
  | 18 => .boolean
  | 19 => .array .int
  | 20 => .boolean
  | 21 => .boolean
  | 22 => .int
  | 23 => .int
  | 24 => .array .int
  | 25 => .array .int
  | 26 => .array .int
  | 27 => .array .int
  | 28 => .array .int
  | 29 => .int
  | 30 => .array .int
  | 31 => .array .int
  | 32 => .int
  | 33 => .int
  | 34 => .int
  | 35 => .array .byte
  | 36 => .array .boolean
  | 37 => .array .int
  | 38 => .array .int
  | 39 => .array .int
  | _ => .array .int
theorem nmX12 : ∀ a, a < 41 → ∀ b, b < 41 → a ≠ b → (TX12 a).2.1 ≠ (TX12 b).2.1 := by decide +kernel
theorem tyX12_ok : ∀ k, k < 41 → parseFieldDescriptor (TX12 k).2.2.1 = some (tyX12 k) := by decide +kernel
abbrev vwCl : List vw_C := [(RX0, TX0, 19), (RX1, TX1, 6), (RX2, TX2, 3), (RX3, TX3, 7), (RX4, TX4, 3), (RX5, TX5, 11), (RX6, TX6, 2), (RX7, TX7, 5), (RX8, TX8, 2), (RX9, TX9, 2), (RX10, TX10, 6), (RX11, TX11, 15), (RX12, TX12, 41)]
def ck_TS : List Cond := lw_tbl.filter goodWord
theorem ck_mem {w : Cond} (i : Nat) (h : lw_tbl[i]? = some w) (hg : goodWord w = true) : w ∈ ck_TS := List.mem_filter.mpr ⟨List.mem_of_getElem? h, hg⟩
theorem ck_TSgood : GoodIn ck_TS ck_TS := fun w hw => ⟨hw, good_of_word (List.mem_filter.mp hw).2⟩
theorem ck_nil {α : Type} {P : α → Prop} : ∀ c ∈ ([] : List α), P c := fun _ h => absurd h List.not_mem_nil
theorem ck_cons {α : Type} {P : α → Prop} {a : α} {l : List α} (h : P a) (t : ∀ c ∈ l, P c) : ∀ c ∈ a :: l, P c := fun c hc => (List.mem_cons.mp hc).elim (fun e => e ▸ h) (t c)
theorem ck_in0 : ∀ w ∈ u_ws RX0 TX0 19, w ∈ ck_TS := fun w h => List.mem_filter.mpr ⟨(show ∀ w ∈ u_ws RX0 TX0 19, w ∈ lw_tbl by decide +kernel) w h, List.all_eq_true.mp (show (u_ws RX0 TX0 19).all goodWord = true by decide +kernel) w h⟩
theorem ck_in1 : ∀ w ∈ u_ws RX1 TX1 6, w ∈ ck_TS := fun w h => List.mem_filter.mpr ⟨(show ∀ w ∈ u_ws RX1 TX1 6, w ∈ lw_tbl by decide +kernel) w h, List.all_eq_true.mp (show (u_ws RX1 TX1 6).all goodWord = true by decide +kernel) w h⟩
theorem ck_in2 : ∀ w ∈ u_ws RX2 TX2 3, w ∈ ck_TS := fun w h => List.mem_filter.mpr ⟨(show ∀ w ∈ u_ws RX2 TX2 3, w ∈ lw_tbl by decide +kernel) w h, List.all_eq_true.mp (show (u_ws RX2 TX2 3).all goodWord = true by decide +kernel) w h⟩
theorem ck_in3 : ∀ w ∈ u_ws RX3 TX3 7, w ∈ ck_TS := fun w h => List.mem_filter.mpr ⟨(show ∀ w ∈ u_ws RX3 TX3 7, w ∈ lw_tbl by decide +kernel) w h, List.all_eq_true.mp (show (u_ws RX3 TX3 7).all goodWord = true by decide +kernel) w h⟩
theorem ck_in4 : ∀ w ∈ u_ws RX4 TX4 3, w ∈ ck_TS := fun w h => List.mem_filter.mpr ⟨(show ∀ w ∈ u_ws RX4 TX4 3, w ∈ lw_tbl by decide +kernel) w h, List.all_eq_true.mp (show (u_ws RX4 TX4 3).all goodWord = true by decide +kernel) w h⟩
theorem ck_in5 : ∀ w ∈ u_ws RX5 TX5 11, w ∈ ck_TS := fun w h => List.mem_filter.mpr ⟨(show ∀ w ∈ u_ws RX5 TX5 11, w ∈ lw_tbl by decide +kernel) w h, List.all_eq_true.mp (show (u_ws RX5 TX5 11).all goodWord = true by decide +kernel) w h⟩
theorem ck_in6 : ∀ w ∈ u_ws RX6 TX6 2, w ∈ ck_TS := fun w h => List.mem_filter.mpr ⟨(show ∀ w ∈ u_ws RX6 TX6 2, w ∈ lw_tbl by decide +kernel) w h, List.all_eq_true.mp (show (u_ws RX6 TX6 2).all goodWord = true by decide +kernel) w h⟩
theorem ck_in7 : ∀ w ∈ u_ws RX7 TX7 5, w ∈ ck_TS := fun w h => List.mem_filter.mpr ⟨(show ∀ w ∈ u_ws RX7 TX7 5, w ∈ lw_tbl by decide +kernel) w h, List.all_eq_true.mp (show (u_ws RX7 TX7 5).all goodWord = true by decide +kernel) w h⟩
theorem ck_in8 : ∀ w ∈ u_ws RX8 TX8 2, w ∈ ck_TS := fun w h => List.mem_filter.mpr ⟨(show ∀ w ∈ u_ws RX8 TX8 2, w ∈ lw_tbl by decide +kernel) w h, List.all_eq_true.mp (show (u_ws RX8 TX8 2).all goodWord = true by decide +kernel) w h⟩
theorem ck_in9 : ∀ w ∈ u_ws RX9 TX9 2, w ∈ ck_TS := fun w h => List.mem_filter.mpr ⟨(show ∀ w ∈ u_ws RX9 TX9 2, w ∈ lw_tbl by decide +kernel) w h, List.all_eq_true.mp (show (u_ws RX9 TX9 2).all goodWord = true by decide +kernel) w h⟩
theorem ck_in10 : ∀ w ∈ u_ws RX10 TX10 6, w ∈ ck_TS := fun w h => List.mem_filter.mpr ⟨(show ∀ w ∈ u_ws RX10 TX10 6, w ∈ lw_tbl by decide +kernel) w h, List.all_eq_true.mp (show (u_ws RX10 TX10 6).all goodWord = true by decide +kernel) w h⟩
theorem ck_in11 : ∀ w ∈ u_ws RX11 TX11 15, w ∈ ck_TS := fun w h => List.mem_filter.mpr ⟨(show ∀ w ∈ u_ws RX11 TX11 15, w ∈ lw_tbl by decide +kernel) w h, List.all_eq_true.mp (show (u_ws RX11 TX11 15).all goodWord = true by decide +kernel) w h⟩
theorem ck_in12 : ∀ w ∈ u_ws RX12 TX12 41, w ∈ ck_TS := fun w h => List.mem_filter.mpr ⟨(show ∀ w ∈ u_ws RX12 TX12 41, w ∈ lw_tbl by decide +kernel) w h, List.all_eq_true.mp (show (u_ws RX12 TX12 41).all goodWord = true by decide +kernel) w h⟩
theorem ck_okCl : ck_okC vwCl ck_TS := by
  intro ci C T N h
  match ci, h with
  | 0, h => cases h; exact ⟨ck_in0, ⟨tyX0, tyX0_ok⟩, nmX0⟩
  | 1, h => cases h; exact ⟨ck_in1, ⟨tyX1, tyX1_ok⟩, nmX1⟩
  | 2, h => cases h; exact ⟨ck_in2, ⟨tyX2, tyX2_ok⟩, nmX2⟩
  | 3, h => cases h; exact ⟨ck_in3, ⟨tyX3, tyX3_ok⟩, nmX3⟩
  | 4, h => cases h; exact ⟨ck_in4, ⟨tyX4, tyX4_ok⟩, nmX4⟩
  | 5, h => cases h; exact ⟨ck_in5, ⟨tyX5, tyX5_ok⟩, nmX5⟩
  | 6, h => cases h; exact ⟨ck_in6, ⟨tyX6, tyX6_ok⟩, nmX6⟩
  | 7, h => cases h; exact ⟨ck_in7, ⟨tyX7, tyX7_ok⟩, nmX7⟩
  | 8, h => cases h; exact ⟨ck_in8, ⟨tyX8, tyX8_ok⟩, nmX8⟩
  | 9, h => cases h; exact ⟨ck_in9, ⟨tyX9, tyX9_ok⟩, nmX9⟩
  | 10, h => cases h; exact ⟨ck_in10, ⟨tyX10, tyX10_ok⟩, nmX10⟩
  | 11, h => cases h; exact ⟨ck_in11, ⟨tyX11, tyX11_ok⟩, nmX11⟩
  | 12, h => cases h; exact ⟨ck_in12, ⟨tyX12, tyX12_ok⟩, nmX12⟩
  | k + 13, h => simp [vwCl] at h
def ck_dt : List (List FieldType) := [[.int, (.array .int), (.array .int), (.array .int), (.array .int), (.array .int), (.array .int), (.array .int), (.array .int), .int, .int, .int, (.array (.object "ScratchLadder$Text")), (.object "ScratchLadder$Text"), .int, (.array .int), .int, .int, .int], [(.object "ScratchLadder$Bench"), (.object "ScratchLadder$Question"), (.array .int), (.array .int), (.array .int), (.array .int)], [(.object "ScratchLadder$Bench"), (.object "ScratchLadder$Ties"), (.array .int)], [(.object "ScratchLadder$Bench"), (.array .int), (.array .int), (.array .int), .int, (.array .int), (.array .int)], [(.object "ScratchLadder$Bench"), (.array .long), (.array .int)], [(.object "ScratchLadder$Tape"), (.array .int), .int, (.array .int), .int, .int, .int, .int, .int, .int, .int], [(.object "ScratchLadder$Bench"), (.object "ScratchLadder$Ties")], [(.array .int), (.array .int), .int, .int, .int], [(.array .int), .int], [(.array .int), (.array .int)], [(.object "ScratchLadder$Bench"), (.array .int), (.array .int), (.array .int), (.array .int), (.array .int)], [(.object "ScratchLadder$Bench"), (.array (.object "ScratchLadder$Bench")), (.array .boolean), (.object "ScratchLadder$Tape"), (.object "ScratchLadder$Reader"), (.object "ScratchLadder$Question"), (.object "ScratchLadder$Ties"), (.object "ScratchLadder$Orders"), (.object "ScratchLadder$Lineup"), (.object "ScratchLadder$Rungs"), (.object "ScratchLadder$Sorter"), (.object "ScratchLadder$Naming"), (.array .int), .int, .int], [.int, (.array .int), (.array .int), (.array .boolean), (.array .byte), (.array .byte), (.array .int), .int, .int, (.array .int), (.array .int), (.array .int), .int, .int, .int, .int, .int, .int, .boolean, (.array .int), .boolean, .boolean, .int, .int, (.array .int), (.array .int), (.array .int), (.array .int), (.array .int), .int, (.array .int), (.array .int), .int, .int, .int, (.array .byte), (.array .boolean), (.array .int), (.array .int), (.array .int), (.array .int)]]
theorem ck_okDt : ck_okD vwCl ck_dt := by
  intro ci tl h
  match ci, h with
  | 0, h =>
    cases h
    refine ⟨RX0, TX0, rfl, fun k t hk => ?_⟩
    have hl : k < 19 := (List.getElem?_eq_some_iff.mp hk).1
    have h1 := tyX0_ok k hl
    have h2 : ∀ k, k < 19 → ([.int, (.array .int), (.array .int), (.array .int), (.array .int), (.array .int), (.array .int), (.array .int), (.array .int), .int, .int, .int, (.array (.object "ScratchLadder$Text")), (.object "ScratchLadder$Text"), .int, (.array .int), .int, .int, .int] : List FieldType)[k]? = some (tyX0 k) := by decide +kernel
    rw [h1, ← Option.some.inj ((h2 k hl).symm.trans hk)]
  | 1, h =>
    cases h
    refine ⟨RX1, TX1, rfl, fun k t hk => ?_⟩
    have hl : k < 6 := (List.getElem?_eq_some_iff.mp hk).1
    have h1 := tyX1_ok k hl
    have h2 : ∀ k, k < 6 → ([(.object "ScratchLadder$Bench"), (.object "ScratchLadder$Question"), (.array .int), (.array .int), (.array .int), (.array .int)] : List FieldType)[k]? = some (tyX1 k) := by decide +kernel
    rw [h1, ← Option.some.inj ((h2 k hl).symm.trans hk)]
  | 2, h =>
    cases h
    refine ⟨RX2, TX2, rfl, fun k t hk => ?_⟩
    have hl : k < 3 := (List.getElem?_eq_some_iff.mp hk).1
    have h1 := tyX2_ok k hl
    have h2 : ∀ k, k < 3 → ([(.object "ScratchLadder$Bench"), (.object "ScratchLadder$Ties"), (.array .int)] : List FieldType)[k]? = some (tyX2 k) := by decide +kernel
    rw [h1, ← Option.some.inj ((h2 k hl).symm.trans hk)]
  | 3, h =>
    cases h
    refine ⟨RX3, TX3, rfl, fun k t hk => ?_⟩
    have hl : k < 7 := (List.getElem?_eq_some_iff.mp hk).1
    have h1 := tyX3_ok k hl
    have h2 : ∀ k, k < 7 → ([(.object "ScratchLadder$Bench"), (.array .int), (.array .int), (.array .int), .int, (.array .int), (.array .int)] : List FieldType)[k]? = some (tyX3 k) := by decide +kernel
    rw [h1, ← Option.some.inj ((h2 k hl).symm.trans hk)]
  | 4, h =>
    cases h
    refine ⟨RX4, TX4, rfl, fun k t hk => ?_⟩
    have hl : k < 3 := (List.getElem?_eq_some_iff.mp hk).1
    have h1 := tyX4_ok k hl
    have h2 : ∀ k, k < 3 → ([(.object "ScratchLadder$Bench"), (.array .long), (.array .int)] : List FieldType)[k]? = some (tyX4 k) := by decide +kernel
    rw [h1, ← Option.some.inj ((h2 k hl).symm.trans hk)]
  | 5, h =>
    cases h
    refine ⟨RX5, TX5, rfl, fun k t hk => ?_⟩
    have hl : k < 11 := (List.getElem?_eq_some_iff.mp hk).1
    have h1 := tyX5_ok k hl
    have h2 : ∀ k, k < 11 → ([(.object "ScratchLadder$Tape"), (.array .int), .int, (.array .int), .int, .int, .int, .int, .int, .int, .int] : List FieldType)[k]? = some (tyX5 k) := by decide +kernel
    rw [h1, ← Option.some.inj ((h2 k hl).symm.trans hk)]
  | 6, h =>
    cases h
    refine ⟨RX6, TX6, rfl, fun k t hk => ?_⟩
    have hl : k < 2 := (List.getElem?_eq_some_iff.mp hk).1
    have h1 := tyX6_ok k hl
    have h2 : ∀ k, k < 2 → ([(.object "ScratchLadder$Bench"), (.object "ScratchLadder$Ties")] : List FieldType)[k]? = some (tyX6 k) := by decide +kernel
    rw [h1, ← Option.some.inj ((h2 k hl).symm.trans hk)]
  | 7, h =>
    cases h
    refine ⟨RX7, TX7, rfl, fun k t hk => ?_⟩
    have hl : k < 5 := (List.getElem?_eq_some_iff.mp hk).1
    have h1 := tyX7_ok k hl
    have h2 : ∀ k, k < 5 → ([(.array .int), (.array .int), .int, .int, .int] : List FieldType)[k]? = some (tyX7 k) := by decide +kernel
    rw [h1, ← Option.some.inj ((h2 k hl).symm.trans hk)]
  | 8, h =>
    cases h
    refine ⟨RX8, TX8, rfl, fun k t hk => ?_⟩
    have hl : k < 2 := (List.getElem?_eq_some_iff.mp hk).1
    have h1 := tyX8_ok k hl
    have h2 : ∀ k, k < 2 → ([(.array .int), .int] : List FieldType)[k]? = some (tyX8 k) := by decide +kernel
    rw [h1, ← Option.some.inj ((h2 k hl).symm.trans hk)]
  | 9, h =>
    cases h
    refine ⟨RX9, TX9, rfl, fun k t hk => ?_⟩
    have hl : k < 2 := (List.getElem?_eq_some_iff.mp hk).1
    have h1 := tyX9_ok k hl
    have h2 : ∀ k, k < 2 → ([(.array .int), (.array .int)] : List FieldType)[k]? = some (tyX9 k) := by decide +kernel
    rw [h1, ← Option.some.inj ((h2 k hl).symm.trans hk)]
  | 10, h =>
    cases h
    refine ⟨RX10, TX10, rfl, fun k t hk => ?_⟩
    have hl : k < 6 := (List.getElem?_eq_some_iff.mp hk).1
    have h1 := tyX10_ok k hl
    have h2 : ∀ k, k < 6 → ([(.object "ScratchLadder$Bench"), (.array .int), (.array .int), (.array .int), (.array .int), (.array .int)] : List FieldType)[k]? = some (tyX10 k) := by decide +kernel
    rw [h1, ← Option.some.inj ((h2 k hl).symm.trans hk)]
  | 11, h =>
    cases h
    refine ⟨RX11, TX11, rfl, fun k t hk => ?_⟩
    have hl : k < 15 := (List.getElem?_eq_some_iff.mp hk).1
    have h1 := tyX11_ok k hl
    have h2 : ∀ k, k < 15 → ([(.object "ScratchLadder$Bench"), (.array (.object "ScratchLadder$Bench")), (.array .boolean), (.object "ScratchLadder$Tape"), (.object "ScratchLadder$Reader"), (.object "ScratchLadder$Question"), (.object "ScratchLadder$Ties"), (.object "ScratchLadder$Orders"), (.object "ScratchLadder$Lineup"), (.object "ScratchLadder$Rungs"), (.object "ScratchLadder$Sorter"), (.object "ScratchLadder$Naming"), (.array .int), .int, .int] : List FieldType)[k]? = some (tyX11 k) := by decide +kernel
    rw [h1, ← Option.some.inj ((h2 k hl).symm.trans hk)]
  | 12, h =>
    cases h
    refine ⟨RX12, TX12, rfl, fun k t hk => ?_⟩
    have hl : k < 41 := (List.getElem?_eq_some_iff.mp hk).1
    have h1 := tyX12_ok k hl
    have h2 : ∀ k, k < 41 → ([.int, (.array .int), (.array .int), (.array .boolean), (.array .byte), (.array .byte), (.array .int), .int, .int, (.array .int), (.array .int), (.array .int), .int, .int, .int, .int, .int, .int, .boolean, (.array .int), .boolean, .boolean, .int, .int, (.array .int), (.array .int), (.array .int), (.array .int), (.array .int), .int, (.array .int), (.array .int), .int, .int, .int, (.array .byte), (.array .boolean), (.array .int), (.array .int), (.array .int), (.array .int)] : List FieldType)[k]? = some (tyX12 k) := by decide +kernel
    rw [h1, ← Option.some.inj ((h2 k hl).symm.trans hk)]
  | k + 13, h => simp [ck_dt] at h
def ck_m0 : ck_MT := (⟨"", "", ""⟩, ⟨#[]⟩, 0, none, 0)
def ck_m1 : ck_MT := (⟨"ScratchLadder", "<init>", "()V"⟩, prog_1_method_1_code, 1, none, 0)
def ck_m2 : ck_MT := (⟨"ScratchLadder$Bench", "<init>", "()V"⟩, prog_2_method_1_code, 1, none, 0)
def ck_m3 : ck_MT := (⟨"ScratchLadder$Text", "<init>", "([I[I)V"⟩, prog_11_method_1_code, 3, none, 2)
def ck_m4 : ck_MT := (⟨"ScratchLadder$Tape", "<init>", "()V"⟩, prog_10_method_1_code, 1, none, 0)
def ck_m5 : ck_MT := (⟨"ScratchLadder$Reader", "<init>", "(LScratchLadder$Tape;)V"⟩, prog_7_method_1_code, 2, none, 1)
def ck_m6 : ck_MT := (⟨"ScratchLadder$Question", "<init>", "(LScratchLadder$Bench;)V"⟩, prog_6_method_1_code, 2, none, 1)
def ck_m7 : ck_MT := (⟨"ScratchLadder$Ties", "<init>", "(LScratchLadder$Bench;)V"⟩, prog_12_method_1_code, 2, none, 1)
def ck_m8 : ck_MT := (⟨"ScratchLadder$Orders", "<init>", "(LScratchLadder$Bench;)V"⟩, prog_5_method_1_code, 2, none, 1)
def ck_m9 : ck_MT := (⟨"java/util/Arrays", "fill", "([II)V"⟩, prog_22_method_103_code, 4, none, 2)
def ck_m10 : ck_MT := (⟨"ScratchLadder$Lineup", "<init>", "(LScratchLadder$Bench;LScratchLadder$Question;)V"⟩, prog_3_method_1_code, 3, none, 2)
def ck_m11 : ck_MT := (⟨"ScratchLadder$Rungs", "<init>", "(LScratchLadder$Bench;LScratchLadder$Ties;)V"⟩, prog_8_method_1_code, 3, none, 2)
def ck_m12 : ck_MT := (⟨"ScratchLadder$Sorter", "<init>", "()V"⟩, prog_9_method_1_code, 1, none, 0)
def ck_m13 : ck_MT := (⟨"ScratchLadder$Naming", "<init>", "(LScratchLadder$Bench;LScratchLadder$Ties;)V"⟩, prog_4_method_1_code, 3, none, 2)
def ck_m14 : ck_MT := (⟨"ScratchLadderModel", "<init>", "()V"⟩, prog_14_method_4_code, 1, none, 0)
def ck_m15 : ck_MT := (⟨"ScratchLadder", "stone", "(III)I"⟩, prog_1_method_2_code, 4, (some .int), 3)
def ck_m16 : ck_MT := (⟨"ScratchLadder", "within", "(III)Z"⟩, prog_1_method_51_code, 3, (some .boolean), 3)
def ck_m17 : ck_MT := (⟨"ScratchLadder", "refuse", "(I)I"⟩, prog_1_method_44_code, 2, (some .int), 1)
def ck_m18 : ck_MT := (⟨"ScratchLadder$Bench", "addStone", "(III)I"⟩, prog_2_method_4_code, 5, (some .int), 3)
def ck_m19 : ck_MT := (⟨"ScratchLadder", "accept", "(I)I"⟩, prog_1_method_45_code, 2, (some .int), 1)
def ck_m20 : ck_MT := (⟨"ScratchLadderModel", "stone", "(III)I"⟩, prog_14_method_11_code, 6, (some .int), 3)
def ck_m21 : ck_MT := (⟨"ScratchLadderModel", "in", "(III)Z"⟩, prog_14_method_1_code, 3, (some .boolean), 3)
def ck_m22 : ck_MT := (⟨"ScratchLadderModel", "refuses", "(I)I"⟩, prog_14_method_2_code, 2, (some .int), 1)
def ck_m23 : ck_MT := (⟨"ScratchLadderModel", "many", "()I"⟩, prog_14_method_7_code, 1, (some .int), 0)
def ck_m24 : ck_MT := (⟨"ScratchLadderModel", "good", "(I)I"⟩, prog_14_method_3_code, 2, (some .int), 1)
def ck_m25 : ck_MT := (⟨"ScratchLadder", "known", "(II)I"⟩, prog_1_method_5_code, 3, (some .int), 2)
def ck_m26 : ck_MT := (⟨"ScratchLadder", "exchange", "([III)I"⟩, prog_1_method_48_code, 4, (some .int), 3)
def ck_m27 : ck_MT := (⟨"ScratchLadderModel", "known", "(II)I"⟩, prog_14_method_15_code, 3, (some .int), 2)
def ck_m28 : ck_MT := (⟨"ScratchLadderModel", "replaces", "(II)I"⟩, prog_14_method_12_code, 4, (some .int), 2)
def ck_m29 : ck_MT := (⟨"ScratchLadder", "hand", "(III)I"⟩, prog_1_method_6_code, 4, (some .int), 3)
def ck_m30 : ck_MT := (⟨"ScratchLadder", "isHand", "(I)Z"⟩, prog_1_method_50_code, 1, (some .boolean), 1)
def ck_m31 : ck_MT := (⟨"ScratchLadderModel", "hand", "(III)I"⟩, prog_14_method_16_code, 4, (some .int), 3)
def ck_m32 : ck_MT := (⟨"ScratchLadder", "seed", "(I)I"⟩, prog_1_method_7_code, 2, (some .int), 1)
def ck_m33 : ck_MT := (⟨"ScratchLadderModel", "seed", "(I)I"⟩, prog_14_method_17_code, 2, (some .int), 1)
def ck_m34 : ck_MT := (⟨"ScratchLadder", "feed", "(IIIII)I"⟩, prog_1_method_8_code, 6, (some .int), 5)
def ck_m35 : ck_MT := (⟨"ScratchLadder$Tape", "append", "(I)V"⟩, prog_10_method_2_code, 3, none, 1)
def ck_m36 : ck_MT := (⟨"ScratchLadderModel", "feed", "(IIIII)I"⟩, prog_14_method_19_code, 7, (some .int), 5)
def ck_m37 : ck_MT := (⟨"ScratchLadder", "end", "(I)I"⟩, prog_1_method_9_code, 2, (some .int), 1)
def ck_m38 : ck_MT := (⟨"ScratchLadderModel", "end", "(I)I"⟩, prog_14_method_20_code, 2, (some .int), 1)
def ck_m39 : ck_MT := (⟨"ScratchLadder", "law", "(I)I"⟩, prog_1_method_12_code, 3, (some .int), 1)
def ck_m40 : ck_MT := (⟨"ScratchLadderModel", "law", "(I)I"⟩, prog_14_method_42_code, 2, (some .int), 1)
def ck_m41 : ck_MT := (⟨"ScratchLadderModel", "isText", "(I)Z"⟩, prog_14_method_9_code, 2, (some .boolean), 1)
def ck_m42 : ck_MT := (⟨"ScratchLadder", "of", "(II)I"⟩, prog_1_method_16_code, 3, (some .int), 2)
def ck_m43 : ck_MT := (⟨"ScratchLadder$Bench", "hasTrial", "(I)Z"⟩, prog_2_method_13_code, 2, (some .boolean), 1)
def ck_m44 : ck_MT := (⟨"ScratchLadder$Bench", "column", "(II)I"⟩, prog_2_method_14_code, 3, (some .int), 2)
def ck_m45 : ck_MT := (⟨"ScratchLadderModel", "of", "(II)I"⟩, prog_14_method_63_code, 3, (some .int), 2)
def ck_m46 : ck_MT := (⟨"ScratchLadderModel", "isTrial", "(I)Z"⟩, prog_14_method_59_code, 2, (some .boolean), 1)
def ck_m47 : ck_MT := (⟨"ScratchLadderModel", "trialOf", "(II)I"⟩, prog_14_method_58_code, 3, (some .int), 2)
def ck_m48 : ck_MT := (⟨"ScratchLadder", "found", "(I)I"⟩, prog_1_method_17_code, 2, (some .int), 1)
def ck_m49 : ck_MT := (⟨"ScratchLadder$Bench", "letFallOut", "(I)V"⟩, prog_2_method_15_code, 2, none, 1)
def ck_m50 : ck_MT := (⟨"ScratchLadderModel", "found", "(I)I"⟩, prog_14_method_64_code, 2, (some .int), 1)
def ck_m51 : ck_MT := (⟨"ScratchLadder", "view", "(III)I"⟩, prog_1_method_18_code, 6, (some .int), 3)
def ck_m52 : ck_MT := (⟨"ScratchLadder$Bench", "counts", "(I)Z"⟩, prog_2_method_16_code, 2, (some .boolean), 1)
def ck_m53 : ck_MT := (⟨"ScratchLadderModel", "view", "(III)I"⟩, prog_14_method_67_code, 6, (some .int), 3)
def ck_m54 : ck_MT := (⟨"ScratchLadderModel", "counts", "(I)Z"⟩, prog_14_method_65_code, 2, (some .boolean), 1)
def ck_m55 : ck_MT := (⟨"ScratchLadder", "place", "(I)I"⟩, prog_1_method_26_code, 2, (some .int), 1)
def ck_m56 : ck_MT := (⟨"ScratchLadderModel", "place", "(I)I"⟩, prog_14_method_79_code, 2, (some .int), 1)
def ck_m57 : ck_MT := (⟨"ScratchLadder", "count", "(I)I"⟩, prog_1_method_42_code, 2, (some .int), 1)
def ck_m58 : ck_MT := (⟨"ScratchLadder$Bench", "usesLeft", "()I"⟩, prog_2_method_7_code, 3, (some .int), 0)
def ck_m59 : ck_MT := (⟨"ScratchLadderModel", "count", "(I)I"⟩, prog_14_method_118_code, 4, (some .int), 1)
def ck_m60 : ck_MT := (⟨"ScratchLadderModel", "stoneOf", "(II)I"⟩, prog_14_method_10_code, 3, (some .int), 2)
def ck_m61 : ck_MT := (⟨"ScratchLadder", "status", "()I"⟩, prog_1_method_43_code, 1, (some .int), 0)
def ck_m62 : ck_MT := (⟨"ScratchLadderModel", "status", "()I"⟩, prog_14_method_119_code, 1, (some .int), 0)
def ck_mts : List ck_MT := [ck_m0, ck_m1, ck_m2, ck_m3, ck_m4, ck_m5, ck_m6, ck_m7, ck_m8, ck_m9, ck_m10, ck_m11, ck_m12, ck_m13, ck_m14, ck_m15, ck_m16, ck_m17, ck_m18, ck_m19, ck_m20, ck_m21, ck_m22, ck_m23, ck_m24, ck_m25, ck_m26, ck_m27, ck_m28, ck_m29, ck_m30, ck_m31, ck_m32, ck_m33, ck_m34, ck_m35, ck_m36, ck_m37, ck_m38, ck_m39, ck_m40, ck_m41, ck_m42, ck_m43, ck_m44, ck_m45, ck_m46, ck_m47, ck_m48, ck_m49, ck_m50, ck_m51, ck_m52, ck_m53, ck_m54, ck_m55, ck_m56, ck_m57, ck_m58, ck_m59, ck_m60, ck_m61, ck_m62]
def ck_NM : List (String × Nat × MethodName × String) := [("ScratchLadder", 11, ⟨"ScratchLadder$Bench", "<init>", "()V"⟩, "ScratchLadder"), ("ScratchLadder", 26, ⟨"ScratchLadder$Tape", "<init>", "()V"⟩, "ScratchLadder"), ("ScratchLadder", 83, ⟨"ScratchLadder$Sorter", "<init>", "()V"⟩, "ScratchLadder"), ("ScratchLadder$Bench", 92, ⟨"ScratchLadder", "within", "(III)Z"⟩, "ScratchLadder")]
def ck_AO : List String := ["ScratchLadder$Bench", "ScratchLadder$Text"]
def ck_SL : List (String × Nat × Nat) := []
def ck_sh : List ck_Sh := [.inl (11, 15), .inl (0, 19), .inr (.int, 12), .inr (.int, 12), .inr (.int, 12), .inr (.int, 12), .inr (.int, 144), .inr (.int, 12), .inr (.int, 4), .inr (.int, 4), .inr ((.object "ScratchLadder$Text"), 10), .inl (9, 2), .inr (.int, 0), .inr (.int, 0), .inr (.int, 1080), .inr ((.object "ScratchLadder$Bench"), 2), .inl (0, 19), .inr (.int, 12), .inr (.int, 12), .inr (.int, 12), .inr (.int, 12), .inr (.int, 144), .inr (.int, 12), .inr (.int, 4), .inr (.int, 4), .inr ((.object "ScratchLadder$Text"), 10), .inl (9, 2), .inr (.int, 0), .inr (.int, 0), .inr (.int, 1080), .inl (0, 19), .inr (.int, 12), .inr (.int, 12), .inr (.int, 12), .inr (.int, 12), .inr (.int, 144), .inr (.int, 12), .inr (.int, 4), .inr (.int, 4), .inr ((.object "ScratchLadder$Text"), 10), .inl (9, 2), .inr (.int, 0), .inr (.int, 0), .inr (.int, 1080), .inr (.boolean, 2), .inl (8, 2), .inr (.int, 400), .inl (5, 11), .inr (.int, 48), .inr (.int, 800), .inl (4, 3), .inr (.long, 51), .inr (.int, 8), .inl (10, 6), .inr (.int, 144), .inr (.int, 12), .inr (.int, 12), .inr (.int, 12), .inr (.int, 12), .inl (3, 7), .inr (.int, 4096), .inr (.int, 768), .inr (.int, 768), .inr (.int, 12), .inr (.int, 12), .inl (1, 6), .inr (.int, 12), .inr (.int, 12), .inr (.int, 12), .inr (.int, 12), .inl (6, 2), .inl (7, 5), .inr (.int, 5), .inr (.int, 32), .inl (2, 3), .inr (.int, 256), .inr (.int, 9), .inl (12, 41), .inr (.int, 9310), .inr (.int, 18620), .inr (.boolean, 2), .inr (.byte, 86), .inr (.byte, 400), .inr (.int, 5), .inr (.int, 401), .inr (.int, 401), .inr (.int, 401), .inr (.int, 8), .inr (.int, 144), .inr (.int, 12), .inr (.int, 4096), .inr (.int, 4096), .inr (.int, 12), .inr (.int, 12), .inr (.int, 12), .inr (.byte, 59808), .inr (.boolean, 6), .inr (.int, 25), .inr (.int, 12), .inr (.int, 12), .inr (.int, 8)]
def ck_ats : List FieldType := [.byte, .int, .long, .boolean]
theorem ck_okAt : ∀ t ∈ ck_ats, Cond.arrayClass t ∈ ck_TS := (ck_cons (ck_mem 783 (by decide +kernel) (by decide +kernel)) (ck_cons (ck_mem 173 (by decide +kernel) (by decide +kernel)) (ck_cons (ck_mem 332 (by decide +kernel) (by decide +kernel)) (ck_cons (ck_mem 275 (by decide +kernel) (by decide +kernel)) ck_nil))))
def ck_tr : List (Nat × List ab_P) := [(14, [(0, 9, 120), (1, 9, 120), (0, 1, 1080)]), (15, [(0, 1, 1), (1, 1, 1)]), (29, [(0, 9, 120), (1, 9, 120), (0, 1, 1080)]), (43, [(0, 9, 120), (1, 9, 120), (0, 1, 1080)]), (78, [(0, 16, 12), (1, 16, 12), (2, 16, 12), (212, 9, 120), (213, 9, 120), (1292, 1, 1), (1293, 1, 1), (1294, 1, 1), (1295, 1, 1), (1296, 1, 1), (1297, 1, 3), (1300, 1, 10), (0, 1, 9310)]), (79, [(0, 16, 12), (1, 16, 12), (2, 16, 12), (212, 9, 120), (213, 9, 120), (1292, 1, 1), (1293, 1, 1), (1294, 1, 1), (1295, 1, 1), (1296, 1, 1), (1297, 1, 3), (1300, 1, 10), (9310, 16, 12), (9311, 16, 12), (9312, 16, 12), (9522, 9, 120), (9523, 9, 120), (10602, 1, 1), (10603, 1, 1), (10604, 1, 1), (10605, 1, 1), (10606, 1, 1), (10607, 1, 3), (10610, 1, 10), (0, 1, 18620)])]
