/-- the good words of the tables: those that a callee has too -/
def jWS : List Cond := lw_tbl.filter goodWord
theorem jgood : ∀ w ∈ jWS, (w.onTables && w.keeps) = true ∨ ∃ ty, w = .arrayClass ty := fun w h => good_of_word (List.mem_filter.mp h).2
theorem jm {w : Cond} (i : Nat) (h : lw_tbl[i]? = some w) (g : goodWord w = true) : w ∈ jWS := List.mem_filter.mpr ⟨List.mem_of_getElem? h, g⟩
abbrev jDec (cc : ByteArray) (t : List (Nat × Instr × Nat)) : Prop := ∀ q ∈ t, decode cc q.1 = .ok q.2
theorem jd {cc : ByteArray} {t : List (Nat × Instr × Nat)} (K : jDec cc t) (i : Nat) {pc len : Nat} {ins : Instr} (h : t[i]? = some (pc, ins, len)) : decode cc pc = .ok (ins, len) := K (pc, ins, len) (List.mem_of_getElem? h)
def T_SR : u_T := fun k => match k with
  | 0 => ("SharingRoom", "fields", "[LSharingRoom$Field;", true)
  | 1 => ("SharingRoom", "points", "LSharingRoom$Points;", true)
  | _ => ("SharingRoom", "room", "LSharingRoom$Room;", true)
def ty_SR : Nat → FieldType := fun k => match k with
  | 0 => .array (.object "SharingRoom$Field")
  | 1 => .object "SharingRoom$Points"
  | _ => .object "SharingRoom$Room"
theorem nm_SR : ∀ a, a < 3 → ∀ b, b < 3 → a ≠ b → (T_SR a).2.1 ≠ (T_SR b).2.1 := by decide +kernel
theorem tk_SR : ∀ k, k < 3 → parseFieldDescriptor (T_SR k).2.2.1 = some (ty_SR k) := by decide +kernel
set_option maxRecDepth 100000 in
theorem in_SR : ∀ w ∈ u_ws "SharingRoom" T_SR 3, w ∈ jWS := by
  have h : u_ws "SharingRoom" T_SR 3 = [Cond.laysFinal "SharingRoom" "SharingRoom" "fields" "[LSharingRoom$Field;", Cond.laysFinal "SharingRoom" "SharingRoom" "points" "LSharingRoom$Points;", Cond.laysFinal "SharingRoom" "SharingRoom" "room" "LSharingRoom$Room;"] := by decide +kernel
  rw [h]
  exact List.forall_mem_cons.mpr ⟨jm 326 rfl rfl, List.forall_mem_cons.mpr ⟨jm 328 rfl rfl, List.forall_mem_cons.mpr ⟨jm 330 rfl rfl, fun _ h => absurd h List.not_mem_nil⟩⟩⟩
def T_Board : u_T := fun k => match k with
  | 0 => ("SharingRoom$Board", "bytes", "[B", true)
  | 1 => ("SharingRoom$Board", "sha", "LSharingRoom$Sha256;", true)
  | _ => ("SharingRoom$Board", "size", "I", false)
def ty_Board : Nat → FieldType := fun k => match k with
  | 0 => .array .byte
  | 1 => .object "SharingRoom$Sha256"
  | _ => .int
theorem nm_Board : ∀ a, a < 3 → ∀ b, b < 3 → a ≠ b → (T_Board a).2.1 ≠ (T_Board b).2.1 := by decide +kernel
theorem tk_Board : ∀ k, k < 3 → parseFieldDescriptor (T_Board k).2.2.1 = some (ty_Board k) := by decide +kernel
set_option maxRecDepth 100000 in
theorem in_Board : ∀ w ∈ u_ws "SharingRoom$Board" T_Board 3, w ∈ jWS := by
  have h : u_ws "SharingRoom$Board" T_Board 3 = [Cond.laysFinal "SharingRoom$Board" "SharingRoom$Board" "bytes" "[B", Cond.laysFinal "SharingRoom$Board" "SharingRoom$Board" "sha" "LSharingRoom$Sha256;", Cond.lays "SharingRoom$Board" "SharingRoom$Board" "size" "I"] := by decide +kernel
  rw [h]
  exact List.forall_mem_cons.mpr ⟨jm 218 rfl rfl, List.forall_mem_cons.mpr ⟨jm 220 rfl rfl, List.forall_mem_cons.mpr ⟨jm 222 rfl rfl, fun _ h => absurd h List.not_mem_nil⟩⟩⟩
def T_Byte : u_T := fun k => match k with
  | _ => ("SharingRoom$Field", "size", "I", true)
def ty_Byte : Nat → FieldType := fun k => match k with
  | _ => .int
theorem nm_Byte : ∀ a, a < 1 → ∀ b, b < 1 → a ≠ b → (T_Byte a).2.1 ≠ (T_Byte b).2.1 := by decide +kernel
theorem tk_Byte : ∀ k, k < 1 → parseFieldDescriptor (T_Byte k).2.2.1 = some (ty_Byte k) := by decide +kernel
set_option maxRecDepth 100000 in
theorem in_Byte : ∀ w ∈ u_ws "SharingRoom$ByteField" T_Byte 1, w ∈ jWS := by
  have h : u_ws "SharingRoom$ByteField" T_Byte 1 = [Cond.laysFinal "SharingRoom$ByteField" "SharingRoom$Field" "size" "I"] := by decide +kernel
  rw [h]
  exact List.forall_mem_cons.mpr ⟨jm 118 rfl rfl, fun _ h => absurd h List.not_mem_nil⟩
def T_Curve : u_T := fun k => match k with
  | 0 => ("SharingRoom$Group", "exponents", "LSharingRoom$Field;", true)
  | 1 => ("SharingRoom$Group", "neutral", "I", true)
  | 2 => ("SharingRoom$Group", "g", "I", true)
  | 3 => ("SharingRoom$Group", "h", "I", true)
  | _ => ("SharingRoom$CurveGroup", "inverses", "[I", true)
def ty_Curve : Nat → FieldType := fun k => match k with
  | 0 => .object "SharingRoom$Field"
  | 1 => .int
  | 2 => .int
  | 3 => .int
  | _ => .array .int
theorem nm_Curve : ∀ a, a < 5 → ∀ b, b < 5 → a ≠ b → (T_Curve a).2.1 ≠ (T_Curve b).2.1 := by decide +kernel
theorem tk_Curve : ∀ k, k < 5 → parseFieldDescriptor (T_Curve k).2.2.1 = some (ty_Curve k) := by decide +kernel
set_option maxRecDepth 100000 in
theorem in_Curve : ∀ w ∈ u_ws "SharingRoom$CurveGroup" T_Curve 5, w ∈ jWS := by
  have h : u_ws "SharingRoom$CurveGroup" T_Curve 5 = [Cond.laysFinal "SharingRoom$CurveGroup" "SharingRoom$Group" "exponents" "LSharingRoom$Field;", Cond.laysFinal "SharingRoom$CurveGroup" "SharingRoom$Group" "neutral" "I", Cond.laysFinal "SharingRoom$CurveGroup" "SharingRoom$Group" "g" "I", Cond.laysFinal "SharingRoom$CurveGroup" "SharingRoom$Group" "h" "I", Cond.laysFinal "SharingRoom$CurveGroup" "SharingRoom$CurveGroup" "inverses" "[I"] := by decide +kernel
  rw [h]
  exact List.forall_mem_cons.mpr ⟨jm 181 rfl rfl, List.forall_mem_cons.mpr ⟨jm 182 rfl rfl, List.forall_mem_cons.mpr ⟨jm 183 rfl rfl, List.forall_mem_cons.mpr ⟨jm 184 rfl rfl, List.forall_mem_cons.mpr ⟨jm 179 rfl rfl, fun _ h => absurd h List.not_mem_nil⟩⟩⟩⟩⟩
def T_Party : u_T := fun k => match k with
  | 0 => ("SharingRoom$Party", "coefficients", "[[I", true)
  | 1 => ("SharingRoom$Party", "faults", "[I", true)
  | 2 => ("SharingRoom$Party", "shown", "[[I", true)
  | 3 => ("SharingRoom$Party", "numbers", "[[I", true)
  | 4 => ("SharingRoom$Party", "answers", "[[I", true)
  | 5 => ("SharingRoom$Party", "shares", "[I", true)
  | 6 => ("SharingRoom$Party", "crashRound", "I", false)
  | 7 => ("SharingRoom$Party", "complaints", "I", false)
  | 8 => ("SharingRoom$Party", "dealt", "Z", false)
  | _ => ("SharingRoom$Party", "extracted", "Z", false)
def ty_Party : Nat → FieldType := fun k => match k with
  | 0 => .array (.array .int)
  | 1 => .array .int
  | 2 => .array (.array .int)
  | 3 => .array (.array .int)
  | 4 => .array (.array .int)
  | 5 => .array .int
  | 6 => .int
  | 7 => .int
  | 8 => .boolean
  | _ => .boolean
theorem nm_Party : ∀ a, a < 10 → ∀ b, b < 10 → a ≠ b → (T_Party a).2.1 ≠ (T_Party b).2.1 := by decide +kernel
theorem tk_Party : ∀ k, k < 10 → parseFieldDescriptor (T_Party k).2.2.1 = some (ty_Party k) := by decide +kernel
set_option maxRecDepth 100000 in
theorem in_Party : ∀ w ∈ u_ws "SharingRoom$Party" T_Party 10, w ∈ jWS := by
  have h : u_ws "SharingRoom$Party" T_Party 10 = [Cond.laysFinal "SharingRoom$Party" "SharingRoom$Party" "coefficients" "[[I", Cond.laysFinal "SharingRoom$Party" "SharingRoom$Party" "faults" "[I", Cond.laysFinal "SharingRoom$Party" "SharingRoom$Party" "shown" "[[I", Cond.laysFinal "SharingRoom$Party" "SharingRoom$Party" "numbers" "[[I", Cond.laysFinal "SharingRoom$Party" "SharingRoom$Party" "answers" "[[I", Cond.laysFinal "SharingRoom$Party" "SharingRoom$Party" "shares" "[I", Cond.lays "SharingRoom$Party" "SharingRoom$Party" "crashRound" "I", Cond.lays "SharingRoom$Party" "SharingRoom$Party" "complaints" "I", Cond.lays "SharingRoom$Party" "SharingRoom$Party" "dealt" "Z", Cond.lays "SharingRoom$Party" "SharingRoom$Party" "extracted" "Z"] := by decide +kernel
  rw [h]
  exact List.forall_mem_cons.mpr ⟨jm 256 rfl rfl, List.forall_mem_cons.mpr ⟨jm 258 rfl rfl, List.forall_mem_cons.mpr ⟨jm 260 rfl rfl, List.forall_mem_cons.mpr ⟨jm 262 rfl rfl, List.forall_mem_cons.mpr ⟨jm 264 rfl rfl, List.forall_mem_cons.mpr ⟨jm 266 rfl rfl, List.forall_mem_cons.mpr ⟨jm 268 rfl rfl, List.forall_mem_cons.mpr ⟨jm 270 rfl rfl, List.forall_mem_cons.mpr ⟨jm 272 rfl rfl, List.forall_mem_cons.mpr ⟨jm 274 rfl rfl, fun _ h => absurd h List.not_mem_nil⟩⟩⟩⟩⟩⟩⟩⟩⟩⟩
def T_Points : u_T := fun k => match k with
  | 0 => ("SharingRoom$Points", "xs", "[I", true)
  | 1 => ("SharingRoom$Points", "ys", "[I", true)
  | 2 => ("SharingRoom$Points", "differences", "[I", true)
  | 3 => ("SharingRoom$Points", "field", "LSharingRoom$Field;", false)
  | _ => ("SharingRoom$Points", "count", "I", false)
def ty_Points : Nat → FieldType := fun k => match k with
  | 0 => .array .int
  | 1 => .array .int
  | 2 => .array .int
  | 3 => .object "SharingRoom$Field"
  | _ => .int
theorem nm_Points : ∀ a, a < 5 → ∀ b, b < 5 → a ≠ b → (T_Points a).2.1 ≠ (T_Points b).2.1 := by decide +kernel
theorem tk_Points : ∀ k, k < 5 → parseFieldDescriptor (T_Points k).2.2.1 = some (ty_Points k) := by decide +kernel
set_option maxRecDepth 100000 in
theorem in_Points : ∀ w ∈ u_ws "SharingRoom$Points" T_Points 5, w ∈ jWS := by
  have h : u_ws "SharingRoom$Points" T_Points 5 = [Cond.laysFinal "SharingRoom$Points" "SharingRoom$Points" "xs" "[I", Cond.laysFinal "SharingRoom$Points" "SharingRoom$Points" "ys" "[I", Cond.laysFinal "SharingRoom$Points" "SharingRoom$Points" "differences" "[I", Cond.lays "SharingRoom$Points" "SharingRoom$Points" "field" "LSharingRoom$Field;", Cond.lays "SharingRoom$Points" "SharingRoom$Points" "count" "I"] := by decide +kernel
  rw [h]
  exact List.forall_mem_cons.mpr ⟨jm 131 rfl rfl, List.forall_mem_cons.mpr ⟨jm 133 rfl rfl, List.forall_mem_cons.mpr ⟨jm 135 rfl rfl, List.forall_mem_cons.mpr ⟨jm 137 rfl rfl, List.forall_mem_cons.mpr ⟨jm 139 rfl rfl, fun _ h => absurd h List.not_mem_nil⟩⟩⟩⟩⟩
def T_Prime : u_T := fun k => match k with
  | _ => ("SharingRoom$Field", "size", "I", true)
def ty_Prime : Nat → FieldType := fun k => match k with
  | _ => .int
theorem nm_Prime : ∀ a, a < 1 → ∀ b, b < 1 → a ≠ b → (T_Prime a).2.1 ≠ (T_Prime b).2.1 := by decide +kernel
theorem tk_Prime : ∀ k, k < 1 → parseFieldDescriptor (T_Prime k).2.2.1 = some (ty_Prime k) := by decide +kernel
set_option maxRecDepth 100000 in
theorem in_Prime : ∀ w ∈ u_ws "SharingRoom$PrimeField" T_Prime 1, w ∈ jWS := by
  have h : u_ws "SharingRoom$PrimeField" T_Prime 1 = [Cond.laysFinal "SharingRoom$PrimeField" "SharingRoom$Field" "size" "I"] := by decide +kernel
  rw [h]
  exact List.forall_mem_cons.mpr ⟨jm 107 rfl rfl, fun _ h => absurd h List.not_mem_nil⟩
def T_Room : u_T := fun k => match k with
  | 0 => ("SharingRoom$Room", "groups", "[LSharingRoom$Group;", true)
  | 1 => ("SharingRoom$Room", "seats", "[LSharingRoom$Party;", true)
  | 2 => ("SharingRoom$Room", "board", "LSharingRoom$Board;", true)
  | 3 => ("SharingRoom$Room", "through", "LSharingRoom$Points;", true)
  | 4 => ("SharingRoom$Room", "newShares", "[I", true)
  | 5 => ("SharingRoom$Room", "group", "LSharingRoom$Group;", false)
  | 6 => ("SharingRoom$Room", "numbers", "LSharingRoom$Field;", false)
  | 7 => ("SharingRoom$Room", "n", "I", false)
  | 8 => ("SharingRoom$Room", "t", "I", false)
  | 9 => ("SharingRoom$Room", "stage", "I", false)
  | 10 => ("SharingRoom$Room", "round", "I", false)
  | 11 => ("SharingRoom$Room", "qualified", "I", false)
  | 12 => ("SharingRoom$Room", "accused", "I", false)
  | 13 => ("SharingRoom$Room", "opened", "I", false)
  | _ => ("SharingRoom$Room", "key", "I", false)
def ty_Room : Nat → FieldType := fun k => match k with
  | 0 => .array (.object "SharingRoom$Group")
  | 1 => .array (.object "SharingRoom$Party")
  | 2 => .object "SharingRoom$Board"
  | 3 => .object "SharingRoom$Points"
  | 4 => .array .int
  | 5 => .object "SharingRoom$Group"
  | 6 => .object "SharingRoom$Field"
  | 7 => .int
  | 8 => .int
  | 9 => .int
  | 10 => .int
  | 11 => .int
  | 12 => .int
  | 13 => .int
  | _ => .int
theorem nm_Room : ∀ a, a < 15 → ∀ b, b < 15 → a ≠ b → (T_Room a).2.1 ≠ (T_Room b).2.1 := by decide +kernel
theorem tk_Room : ∀ k, k < 15 → parseFieldDescriptor (T_Room k).2.2.1 = some (ty_Room k) := by decide +kernel
set_option maxRecDepth 100000 in
theorem in_Room : ∀ w ∈ u_ws "SharingRoom$Room" T_Room 15, w ∈ jWS := by
  have h : u_ws "SharingRoom$Room" T_Room 15 = [Cond.laysFinal "SharingRoom$Room" "SharingRoom$Room" "groups" "[LSharingRoom$Group;", Cond.laysFinal "SharingRoom$Room" "SharingRoom$Room" "seats" "[LSharingRoom$Party;", Cond.laysFinal "SharingRoom$Room" "SharingRoom$Room" "board" "LSharingRoom$Board;", Cond.laysFinal "SharingRoom$Room" "SharingRoom$Room" "through" "LSharingRoom$Points;", Cond.laysFinal "SharingRoom$Room" "SharingRoom$Room" "newShares" "[I", Cond.lays "SharingRoom$Room" "SharingRoom$Room" "group" "LSharingRoom$Group;", Cond.lays "SharingRoom$Room" "SharingRoom$Room" "numbers" "LSharingRoom$Field;", Cond.lays "SharingRoom$Room" "SharingRoom$Room" "n" "I", Cond.lays "SharingRoom$Room" "SharingRoom$Room" "t" "I", Cond.lays "SharingRoom$Room" "SharingRoom$Room" "stage" "I", Cond.lays "SharingRoom$Room" "SharingRoom$Room" "round" "I", Cond.lays "SharingRoom$Room" "SharingRoom$Room" "qualified" "I", Cond.lays "SharingRoom$Room" "SharingRoom$Room" "accused" "I", Cond.lays "SharingRoom$Room" "SharingRoom$Room" "opened" "I", Cond.lays "SharingRoom$Room" "SharingRoom$Room" "key" "I"] := by decide +kernel
  rw [h]
  exact List.forall_mem_cons.mpr ⟨jm 292 rfl rfl, List.forall_mem_cons.mpr ⟨jm 294 rfl rfl, List.forall_mem_cons.mpr ⟨jm 296 rfl rfl, List.forall_mem_cons.mpr ⟨jm 298 rfl rfl, List.forall_mem_cons.mpr ⟨jm 300 rfl rfl, List.forall_mem_cons.mpr ⟨jm 302 rfl rfl, List.forall_mem_cons.mpr ⟨jm 304 rfl rfl, List.forall_mem_cons.mpr ⟨jm 306 rfl rfl, List.forall_mem_cons.mpr ⟨jm 308 rfl rfl, List.forall_mem_cons.mpr ⟨jm 310 rfl rfl, List.forall_mem_cons.mpr ⟨jm 312 rfl rfl, List.forall_mem_cons.mpr ⟨jm 314 rfl rfl, List.forall_mem_cons.mpr ⟨jm 316 rfl rfl, List.forall_mem_cons.mpr ⟨jm 318 rfl rfl, List.forall_mem_cons.mpr ⟨jm 320 rfl rfl, fun _ h => absurd h List.not_mem_nil⟩⟩⟩⟩⟩⟩⟩⟩⟩⟩⟩⟩⟩⟩⟩
def T_Sha : u_T := fun k => match k with
  | 0 => ("SharingRoom$Sha256", "schedule", "[I", true)
  | 1 => ("SharingRoom$Sha256", "hash", "[I", true)
  | _ => ("SharingRoom$Sha256", "work", "[I", true)
def ty_Sha : Nat → FieldType := fun k => match k with
  | 0 => .array .int
  | 1 => .array .int
  | _ => .array .int
theorem nm_Sha : ∀ a, a < 3 → ∀ b, b < 3 → a ≠ b → (T_Sha a).2.1 ≠ (T_Sha b).2.1 := by decide +kernel
theorem tk_Sha : ∀ k, k < 3 → parseFieldDescriptor (T_Sha k).2.2.1 = some (ty_Sha k) := by decide +kernel
set_option maxRecDepth 100000 in
theorem in_Sha : ∀ w ∈ u_ws "SharingRoom$Sha256" T_Sha 3, w ∈ jWS := by
  have h : u_ws "SharingRoom$Sha256" T_Sha 3 = [Cond.laysFinal "SharingRoom$Sha256" "SharingRoom$Sha256" "schedule" "[I", Cond.laysFinal "SharingRoom$Sha256" "SharingRoom$Sha256" "hash" "[I", Cond.laysFinal "SharingRoom$Sha256" "SharingRoom$Sha256" "work" "[I"] := by decide +kernel
  rw [h]
  exact List.forall_mem_cons.mpr ⟨jm 207 rfl rfl, List.forall_mem_cons.mpr ⟨jm 209 rfl rfl, List.forall_mem_cons.mpr ⟨jm 211 rfl rfl, fun _ h => absurd h List.not_mem_nil⟩⟩⟩
def T_Square : u_T := fun k => match k with
  | 0 => ("SharingRoom$Group", "exponents", "LSharingRoom$Field;", true)
  | 1 => ("SharingRoom$Group", "neutral", "I", true)
  | 2 => ("SharingRoom$Group", "g", "I", true)
  | _ => ("SharingRoom$Group", "h", "I", true)
def ty_Square : Nat → FieldType := fun k => match k with
  | 0 => .object "SharingRoom$Field"
  | 1 => .int
  | 2 => .int
  | _ => .int
theorem nm_Square : ∀ a, a < 4 → ∀ b, b < 4 → a ≠ b → (T_Square a).2.1 ≠ (T_Square b).2.1 := by decide +kernel
theorem tk_Square : ∀ k, k < 4 → parseFieldDescriptor (T_Square k).2.2.1 = some (ty_Square k) := by decide +kernel
set_option maxRecDepth 100000 in
theorem in_Square : ∀ w ∈ u_ws "SharingRoom$SquareGroup" T_Square 4, w ∈ jWS := by
  have h : u_ws "SharingRoom$SquareGroup" T_Square 4 = [Cond.laysFinal "SharingRoom$SquareGroup" "SharingRoom$Group" "exponents" "LSharingRoom$Field;", Cond.laysFinal "SharingRoom$SquareGroup" "SharingRoom$Group" "neutral" "I", Cond.laysFinal "SharingRoom$SquareGroup" "SharingRoom$Group" "g" "I", Cond.laysFinal "SharingRoom$SquareGroup" "SharingRoom$Group" "h" "I"] := by decide +kernel
  rw [h]
  exact List.forall_mem_cons.mpr ⟨jm 163 rfl rfl, List.forall_mem_cons.mpr ⟨jm 165 rfl rfl, List.forall_mem_cons.mpr ⟨jm 167 rfl rfl, List.forall_mem_cons.mpr ⟨jm 169 rfl rfl, fun _ h => absurd h List.not_mem_nil⟩⟩⟩⟩
def T_Mod : u_T := fun k => match k with
  | 0 => ("SharingRoomModel", "code", "I", false)
  | 1 => ("SharingRoomModel", "field", "I", false)
  | 2 => ("SharingRoomModel", "many", "I", false)
  | 3 => ("SharingRoomModel", "px", "[I", true)
  | 4 => ("SharingRoomModel", "py", "[I", true)
  | 5 => ("SharingRoomModel", "difference", "[I", true)
  | 6 => ("SharingRoomModel", "squares", "[I", true)
  | 7 => ("SharingRoomModel", "curve", "[I", true)
  | 8 => ("SharingRoomModel", "heights", "[I", true)
  | 9 => ("SharingRoomModel", "group", "I", false)
  | 10 => ("SharingRoomModel", "q", "I", false)
  | 11 => ("SharingRoomModel", "n", "I", false)
  | 12 => ("SharingRoomModel", "t", "I", false)
  | 13 => ("SharingRoomModel", "first", "I", false)
  | 14 => ("SharingRoomModel", "shown", "I", false)
  | 15 => ("SharingRoomModel", "there", "Z", false)
  | 16 => ("SharingRoomModel", "done", "Z", false)
  | 17 => ("SharingRoomModel", "failed", "Z", false)
  | 18 => ("SharingRoomModel", "round", "I", false)
  | 19 => ("SharingRoomModel", "a", "[I", true)
  | 20 => ("SharingRoomModel", "b", "[I", true)
  | 21 => ("SharingRoomModel", "faults", "[I", true)
  | 22 => ("SharingRoomModel", "crashes", "[I", true)
  | 23 => ("SharingRoomModel", "dealt", "I", false)
  | 24 => ("SharingRoomModel", "extracted", "I", false)
  | 25 => ("SharingRoomModel", "qualified", "I", false)
  | 26 => ("SharingRoomModel", "accused", "I", false)
  | 27 => ("SharingRoomModel", "opened", "I", false)
  | 28 => ("SharingRoomModel", "complaints", "[I", true)
  | 29 => ("SharingRoomModel", "answers", "[I", true)
  | 30 => ("SharingRoomModel", "u", "[I", true)
  | 31 => ("SharingRoomModel", "v", "[I", true)
  | 32 => ("SharingRoomModel", "answerU", "[I", true)
  | 33 => ("SharingRoomModel", "answerV", "[I", true)
  | 34 => ("SharingRoomModel", "c", "[I", true)
  | 35 => ("SharingRoomModel", "e", "[I", true)
  | 36 => ("SharingRoomModel", "shares", "[I", true)
  | 37 => ("SharingRoomModel", "blinds", "[I", true)
  | 38 => ("SharingRoomModel", "fresh", "[I", true)
  | 39 => ("SharingRoomModel", "key", "I", false)
  | 40 => ("SharingRoomModel", "size", "I", false)
  | 41 => ("SharingRoomModel", "bytes", "[I", true)
  | 42 => ("SharingRoomModel", "k1", "[I", true)
  | 43 => ("SharingRoomModel", "k2", "[I", true)
  | 44 => ("SharingRoomModel", "hash", "[I", true)
  | 45 => ("SharingRoomModel", "start", "[I", true)
  | 46 => ("SharingRoomModel", "word", "[I", true)
  | _ => ("SharingRoomModel", "turn", "[I", true)
def ty_Mod : Nat → FieldType := fun k => match k with
  | 0 => .int
  | 1 => .int
  | 2 => .int
  | 3 => .array .int
  | 4 => .array .int
  | 5 => .array .int
  | 6 => .array .int
  | 7 => .array .int
  | 8 => .array .int
  | 9 => .int
  | 10 => .int
  | 11 => .int
  | 12 => .int
  | 13 => .int
  | 14 => .int
  | 15 => .boolean
  | 16 => .boolean
  | 17 => .boolean
  | 18 => .int
  | 19 => .array .int
  | 20 => .array .int
  | 21 => .array .int
  | 22 => .array .int
  | 23 => .int
  | 24 => .int
  | 25 => .int
  | 26 => .int
  | 27 => .int
  | 28 => .array .int
  | 29 => .array .int
  | 30 => .array .int
  | 31 => .array .int
  | 32 => .array .int
  | 33 => .array .int
  | 34 => .array .int
  | 35 => .array .int
  | 36 => .array .int
  | 37 => .array .int
  | 38 => .array .int
  | 39 => .int
  | 40 => .int
  | 41 => .array .int
  | 42 => .array .int
  | 43 => .array .int
  | 44 => .array .int
  | 45 => .array .int
  | 46 => .array .int
  | _ => .array .int
theorem nm_Mod : ∀ a, a < 48 → ∀ b, b < 48 → a ≠ b → (T_Mod a).2.1 ≠ (T_Mod b).2.1 := by decide +kernel
theorem tk_Mod : ∀ k, k < 48 → parseFieldDescriptor (T_Mod k).2.2.1 = some (ty_Mod k) := by decide +kernel
set_option maxRecDepth 100000 in
theorem in_Mod : ∀ w ∈ u_ws "SharingRoomModel" T_Mod 48, w ∈ jWS := by
  have h : u_ws "SharingRoomModel" T_Mod 48 = [Cond.lays "SharingRoomModel" "SharingRoomModel" "code" "I", Cond.lays "SharingRoomModel" "SharingRoomModel" "field" "I", Cond.lays "SharingRoomModel" "SharingRoomModel" "many" "I", Cond.laysFinal "SharingRoomModel" "SharingRoomModel" "px" "[I", Cond.laysFinal "SharingRoomModel" "SharingRoomModel" "py" "[I", Cond.laysFinal "SharingRoomModel" "SharingRoomModel" "difference" "[I", Cond.laysFinal "SharingRoomModel" "SharingRoomModel" "squares" "[I", Cond.laysFinal "SharingRoomModel" "SharingRoomModel" "curve" "[I", Cond.laysFinal "SharingRoomModel" "SharingRoomModel" "heights" "[I", Cond.lays "SharingRoomModel" "SharingRoomModel" "group" "I", Cond.lays "SharingRoomModel" "SharingRoomModel" "q" "I", Cond.lays "SharingRoomModel" "SharingRoomModel" "n" "I", Cond.lays "SharingRoomModel" "SharingRoomModel" "t" "I", Cond.lays "SharingRoomModel" "SharingRoomModel" "first" "I", Cond.lays "SharingRoomModel" "SharingRoomModel" "shown" "I", Cond.lays "SharingRoomModel" "SharingRoomModel" "there" "Z", Cond.lays "SharingRoomModel" "SharingRoomModel" "done" "Z", Cond.lays "SharingRoomModel" "SharingRoomModel" "failed" "Z", Cond.lays "SharingRoomModel" "SharingRoomModel" "round" "I", Cond.laysFinal "SharingRoomModel" "SharingRoomModel" "a" "[I", Cond.laysFinal "SharingRoomModel" "SharingRoomModel" "b" "[I", Cond.laysFinal "SharingRoomModel" "SharingRoomModel" "faults" "[I", Cond.laysFinal "SharingRoomModel" "SharingRoomModel" "crashes" "[I", Cond.lays "SharingRoomModel" "SharingRoomModel" "dealt" "I", Cond.lays "SharingRoomModel" "SharingRoomModel" "extracted" "I", Cond.lays "SharingRoomModel" "SharingRoomModel" "qualified" "I", Cond.lays "SharingRoomModel" "SharingRoomModel" "accused" "I", Cond.lays "SharingRoomModel" "SharingRoomModel" "opened" "I", Cond.laysFinal "SharingRoomModel" "SharingRoomModel" "complaints" "[I", Cond.laysFinal "SharingRoomModel" "SharingRoomModel" "answers" "[I", Cond.laysFinal "SharingRoomModel" "SharingRoomModel" "u" "[I", Cond.laysFinal "SharingRoomModel" "SharingRoomModel" "v" "[I", Cond.laysFinal "SharingRoomModel" "SharingRoomModel" "answerU" "[I", Cond.laysFinal "SharingRoomModel" "SharingRoomModel" "answerV" "[I", Cond.laysFinal "SharingRoomModel" "SharingRoomModel" "c" "[I", Cond.laysFinal "SharingRoomModel" "SharingRoomModel" "e" "[I", Cond.laysFinal "SharingRoomModel" "SharingRoomModel" "shares" "[I", Cond.laysFinal "SharingRoomModel" "SharingRoomModel" "blinds" "[I", Cond.laysFinal "SharingRoomModel" "SharingRoomModel" "fresh" "[I", Cond.lays "SharingRoomModel" "SharingRoomModel" "key" "I", Cond.lays "SharingRoomModel" "SharingRoomModel" "size" "I", Cond.laysFinal "SharingRoomModel" "SharingRoomModel" "bytes" "[I", Cond.laysFinal "SharingRoomModel" "SharingRoomModel" "k1" "[I", Cond.laysFinal "SharingRoomModel" "SharingRoomModel" "k2" "[I", Cond.laysFinal "SharingRoomModel" "SharingRoomModel" "hash" "[I", Cond.laysFinal "SharingRoomModel" "SharingRoomModel" "start" "[I", Cond.laysFinal "SharingRoomModel" "SharingRoomModel" "word" "[I", Cond.laysFinal "SharingRoomModel" "SharingRoomModel" "turn" "[I"] := by decide +kernel
  rw [h]
  exact List.forall_mem_cons.mpr ⟨jm 1173 rfl rfl, List.forall_mem_cons.mpr ⟨jm 1175 rfl rfl, List.forall_mem_cons.mpr ⟨jm 1177 rfl rfl, List.forall_mem_cons.mpr ⟨jm 1179 rfl rfl, List.forall_mem_cons.mpr ⟨jm 1181 rfl rfl, List.forall_mem_cons.mpr ⟨jm 1183 rfl rfl, List.forall_mem_cons.mpr ⟨jm 1185 rfl rfl, List.forall_mem_cons.mpr ⟨jm 1187 rfl rfl, List.forall_mem_cons.mpr ⟨jm 1189 rfl rfl, List.forall_mem_cons.mpr ⟨jm 1191 rfl rfl, List.forall_mem_cons.mpr ⟨jm 1193 rfl rfl, List.forall_mem_cons.mpr ⟨jm 1195 rfl rfl, List.forall_mem_cons.mpr ⟨jm 1197 rfl rfl, List.forall_mem_cons.mpr ⟨jm 1199 rfl rfl, List.forall_mem_cons.mpr ⟨jm 1201 rfl rfl, List.forall_mem_cons.mpr ⟨jm 1203 rfl rfl, List.forall_mem_cons.mpr ⟨jm 1205 rfl rfl, List.forall_mem_cons.mpr ⟨jm 1207 rfl rfl, List.forall_mem_cons.mpr ⟨jm 1209 rfl rfl, List.forall_mem_cons.mpr ⟨jm 1211 rfl rfl, List.forall_mem_cons.mpr ⟨jm 1213 rfl rfl, List.forall_mem_cons.mpr ⟨jm 1215 rfl rfl, List.forall_mem_cons.mpr ⟨jm 1217 rfl rfl, List.forall_mem_cons.mpr ⟨jm 1219 rfl rfl, List.forall_mem_cons.mpr ⟨jm 1221 rfl rfl, List.forall_mem_cons.mpr ⟨jm 1223 rfl rfl, List.forall_mem_cons.mpr ⟨jm 1225 rfl rfl, List.forall_mem_cons.mpr ⟨jm 1227 rfl rfl, List.forall_mem_cons.mpr ⟨jm 1229 rfl rfl, List.forall_mem_cons.mpr ⟨jm 1231 rfl rfl, List.forall_mem_cons.mpr ⟨jm 1233 rfl rfl, List.forall_mem_cons.mpr ⟨jm 1235 rfl rfl, List.forall_mem_cons.mpr ⟨jm 1237 rfl rfl, List.forall_mem_cons.mpr ⟨jm 1239 rfl rfl, List.forall_mem_cons.mpr ⟨jm 1241 rfl rfl, List.forall_mem_cons.mpr ⟨jm 1243 rfl rfl, List.forall_mem_cons.mpr ⟨jm 1245 rfl rfl, List.forall_mem_cons.mpr ⟨jm 1247 rfl rfl, List.forall_mem_cons.mpr ⟨jm 1249 rfl rfl, List.forall_mem_cons.mpr ⟨jm 1251 rfl rfl, List.forall_mem_cons.mpr ⟨jm 1253 rfl rfl, List.forall_mem_cons.mpr ⟨jm 1255 rfl rfl, List.forall_mem_cons.mpr ⟨jm 1257 rfl rfl, List.forall_mem_cons.mpr ⟨jm 1259 rfl rfl, List.forall_mem_cons.mpr ⟨jm 1261 rfl rfl, List.forall_mem_cons.mpr ⟨jm 1263 rfl rfl, List.forall_mem_cons.mpr ⟨jm 1265 rfl rfl, List.forall_mem_cons.mpr ⟨jm 1267 rfl rfl, fun _ h => absurd h List.not_mem_nil⟩⟩⟩⟩⟩⟩⟩⟩⟩⟩⟩⟩⟩⟩⟩⟩⟩⟩⟩⟩⟩⟩⟩⟩⟩⟩⟩⟩⟩⟩⟩⟩⟩⟩⟩⟩⟩⟩⟩⟩⟩⟩⟩⟩⟩⟩⟩⟩
/-- the classes whose objects a world holds -/
abbrev vwCl : List vw_C := [("SharingRoom", T_SR, 3), ("SharingRoom$Board", T_Board, 3), ("SharingRoom$ByteField", T_Byte, 1), ("SharingRoom$CurveGroup", T_Curve, 5), ("SharingRoom$Party", T_Party, 10), ("SharingRoom$Points", T_Points, 5), ("SharingRoom$PrimeField", T_Prime, 1), ("SharingRoom$Room", T_Room, 15), ("SharingRoom$Sha256", T_Sha, 3), ("SharingRoom$SquareGroup", T_Square, 4), ("SharingRoomModel", T_Mod, 48)]
/-- class, code, locals, what it answers, name, handlers -/
abbrev jM : Type := String × ByteArray × Nat × Option FieldType × String × List (Nat × Nat × Nat × Nat)
