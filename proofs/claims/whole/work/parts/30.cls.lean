/-! ===== the class: its world, by a store of ints ===== -/
abbrev jU : Type := Nat → Nat → Nat → Int32
def ups (s : jU) (K i : Nat) (a : Nat → Int32) : jU := va_up s K (va_up (s K) i a)
/-- the numbers of the field of the points (p = 0), of the points of the room (1), of the room's numbers; of the room's group -/
def fnum (x : Int32) : Nat := if x = 0 then 0 else if x = 1 then 1 else 2
theorem fnum_lt (x : Int32) : fnum x < 3 := by unfold fnum; split <;> (try split) <;> omega
def gnum (x : Int32) : Nat := if x = 0 then 0 else 1
theorem gnum_lt (x : Int32) : gnum x < 2 := by unfold gnum; split <;> omega
def fsz (f : Nat) : Int32 := if f = 0 then 256 else if f = 1 then 1019 else 31
def invT : Nat → Int32 := fun k => ([0, 1, 22, 29, 11, 26, 36, 37, 27, 24, 13, 4, 18, 10, 40, 23, 35, 38, 12, 34, 28, 41, 2, 15, 9, 31, 5, 8, 20, 3, 33, 25, 39, 30, 19, 16, 6, 7, 17, 32, 14, 21, 42] : List Int32).getD k 0
def rT (a : Nat) (b : Nat) : Nat → Option Nat := fun k => if k = 0 then some a else if k = 1 then some b else none
def rT2 (a : Nat) (b : Nat) : vp_A := (2, .inr (.inr (.inr (.inr (fun k => if k < 2 then some (if k = 0 then a else b) else none)))))
def flPt (ad : Nat → Nat) (s : jU) (p : Nat) : List Value := [.ref (ad (6 + 16 * p)), .ref (ad (7 + 16 * p)), .ref (ad (8 + 16 * p)), .ref (ad (2 + fnum (s (51 + p) 0 0))), .int (s (33 + 4 * p) 0 0)]
def flRm (ad : Nat → Nat) (s : jU) : List Value := [.ref (ad 10), .ref (ad 14), .ref (ad 15), .ref (ad 21), .ref (ad 25), .ref (ad (11 + gnum (s 50 0 0))), .ref (ad (2 + fnum (s 53 0 0))), .int (s 20 0 0), .int (s 21 0 0), .int (s 22 0 0), .int (s 23 0 0), .int (s 24 0 0), .int (s 25 0 0), .int (s 26 0 0), .int (s 27 0 0)]
def flPy (ad : Nat → Nat) (s : jU) (i : Nat) : List Value := [.ref (ad (27 + 15 * i)), .ref (ad (30 + 15 * i)), .ref (ad (31 + 15 * i)), .ref (ad (34 + 15 * i)), .ref (ad (37 + 15 * i)), .ref (ad (40 + 15 * i)), .int (s 10 i 0), .int (s 11 i 0), .int (s 12 i 0), .int (s 13 i 0)]
def flBd (ad : Nat → Nat) (s : jU) : List Value := [.ref (ad 16), .ref (ad 17), .int (s 41 0 0)]
def mkC (ad : Nat → Nat) (G : jG) (s : jU) : va_W := [(ad 0, .inr (0, [.ref (ad 1), .ref (ad 5), .ref (ad 9)])), (ad 1, .inl (G.1 3, 3, .inr (.inr (.inr (.inr (fun k => if k < 3 then some (ad (2 + k)) else none)))))), (ad 2, .inr (2, [.int 256])), (ad 3, .inr (6, [.int 1019])), (ad 4, .inr (6, [.int 31])), (ad 5, .inr (5, flPt ad s 0)), (ad (6), .inl (G.1 0, 12, .inl (s 30 0))), (ad (7), .inl (G.1 0, 12, .inl (s 31 0))), (ad (8), .inl (G.1 0, 12, .inl (s 32 0))), (ad 9, .inr (7, flRm ad s)), (ad 10, .inl (G.1 4, 2, .inr (.inr (.inr (.inr (fun k => if k < 2 then some (ad (11 + k)) else none)))))), (ad 11, .inr (9, [.ref (ad 3), .int 1, .int 4, .int 9])), (ad 12, .inr (3, [.ref (ad 4), .int 4000, .int 140, .int 1362, .ref (ad 13)])), (ad 13, .inl (G.1 0, 43, .inl invT)), (ad 14, .inl (G.1 5, 7, .inr (.inr (.inr (.inr (fun k => if k < 7 then some (ad (26 + 15 * k)) else none)))))), (ad 15, .inr (1, flBd ad s)), (ad 16, .inl (G.1 1, 1050, .inl (s 40 0))), (ad 17, .inr (8, [.ref (ad 18), .ref (ad 19), .ref (ad 20)])), (ad (18), .inl (G.1 0, 64, .inl (s 42 0))), (ad (19), .inl (G.1 0, 8, .inl (s 43 0))), (ad (20), .inl (G.1 0, 8, .inl (s 44 0))), (ad 21, .inr (5, flPt ad s 1)), (ad (22), .inl (G.1 0, 12, .inl (s 34 0))), (ad (23), .inl (G.1 0, 12, .inl (s 35 0))), (ad (24), .inl (G.1 0, 12, .inl (s 36 0))), (ad (25), .inl (G.1 0, 8, .inl (s 28 0))), (ad 26, .inr (4, flPy ad s 0)), (ad 27, .inl (G.1 6, rT2 (ad 28) (ad 29))), (ad (28), .inl (G.1 0, 7, .inl (s 0 0))), (ad (29), .inl (G.1 0, 7, .inl (s 1 0))), (ad (30), .inl (G.1 0, 7, .inl (s 2 0))), (ad 31, .inl (G.1 6, rT2 (ad 32) (ad 33))), (ad (32), .inl (G.1 0, 7, .inl (s 3 0))), (ad (33), .inl (G.1 0, 7, .inl (s 4 0))), (ad 34, .inl (G.1 6, rT2 (ad 35) (ad 36))), (ad (35), .inl (G.1 0, 8, .inl (s 5 0))), (ad (36), .inl (G.1 0, 8, .inl (s 6 0))), (ad 37, .inl (G.1 6, rT2 (ad 38) (ad 39))), (ad (38), .inl (G.1 0, 8, .inl (s 7 0))), (ad (39), .inl (G.1 0, 8, .inl (s 8 0))), (ad (40), .inl (G.1 0, 2, .inl (s 9 0))), (ad 41, .inr (4, flPy ad s 1)), (ad 42, .inl (G.1 6, rT2 (ad 43) (ad 44))), (ad (43), .inl (G.1 0, 7, .inl (s 0 1))), (ad (44), .inl (G.1 0, 7, .inl (s 1 1))), (ad (45), .inl (G.1 0, 7, .inl (s 2 1))), (ad 46, .inl (G.1 6, rT2 (ad 47) (ad 48))), (ad (47), .inl (G.1 0, 7, .inl (s 3 1))), (ad (48), .inl (G.1 0, 7, .inl (s 4 1))), (ad 49, .inl (G.1 6, rT2 (ad 50) (ad 51))), (ad (50), .inl (G.1 0, 8, .inl (s 5 1))), (ad (51), .inl (G.1 0, 8, .inl (s 6 1))), (ad 52, .inl (G.1 6, rT2 (ad 53) (ad 54))), (ad (53), .inl (G.1 0, 8, .inl (s 7 1))), (ad (54), .inl (G.1 0, 8, .inl (s 8 1))), (ad (55), .inl (G.1 0, 2, .inl (s 9 1))), (ad 56, .inr (4, flPy ad s 2)), (ad 57, .inl (G.1 6, rT2 (ad 58) (ad 59))), (ad (58), .inl (G.1 0, 7, .inl (s 0 2))), (ad (59), .inl (G.1 0, 7, .inl (s 1 2))), (ad (60), .inl (G.1 0, 7, .inl (s 2 2))), (ad 61, .inl (G.1 6, rT2 (ad 62) (ad 63))), (ad (62), .inl (G.1 0, 7, .inl (s 3 2))), (ad (63), .inl (G.1 0, 7, .inl (s 4 2))), (ad 64, .inl (G.1 6, rT2 (ad 65) (ad 66))), (ad (65), .inl (G.1 0, 8, .inl (s 5 2))), (ad (66), .inl (G.1 0, 8, .inl (s 6 2))), (ad 67, .inl (G.1 6, rT2 (ad 68) (ad 69))), (ad (68), .inl (G.1 0, 8, .inl (s 7 2))), (ad (69), .inl (G.1 0, 8, .inl (s 8 2))), (ad (70), .inl (G.1 0, 2, .inl (s 9 2))), (ad 71, .inr (4, flPy ad s 3)), (ad 72, .inl (G.1 6, rT2 (ad 73) (ad 74))), (ad (73), .inl (G.1 0, 7, .inl (s 0 3))), (ad (74), .inl (G.1 0, 7, .inl (s 1 3))), (ad (75), .inl (G.1 0, 7, .inl (s 2 3))), (ad 76, .inl (G.1 6, rT2 (ad 77) (ad 78))), (ad (77), .inl (G.1 0, 7, .inl (s 3 3))), (ad (78), .inl (G.1 0, 7, .inl (s 4 3))), (ad 79, .inl (G.1 6, rT2 (ad 80) (ad 81))), (ad (80), .inl (G.1 0, 8, .inl (s 5 3))), (ad (81), .inl (G.1 0, 8, .inl (s 6 3))), (ad 82, .inl (G.1 6, rT2 (ad 83) (ad 84))), (ad (83), .inl (G.1 0, 8, .inl (s 7 3))), (ad (84), .inl (G.1 0, 8, .inl (s 8 3))), (ad (85), .inl (G.1 0, 2, .inl (s 9 3))), (ad 86, .inr (4, flPy ad s 4)), (ad 87, .inl (G.1 6, rT2 (ad 88) (ad 89))), (ad (88), .inl (G.1 0, 7, .inl (s 0 4))), (ad (89), .inl (G.1 0, 7, .inl (s 1 4))), (ad (90), .inl (G.1 0, 7, .inl (s 2 4))), (ad 91, .inl (G.1 6, rT2 (ad 92) (ad 93))), (ad (92), .inl (G.1 0, 7, .inl (s 3 4))), (ad (93), .inl (G.1 0, 7, .inl (s 4 4))), (ad 94, .inl (G.1 6, rT2 (ad 95) (ad 96))), (ad (95), .inl (G.1 0, 8, .inl (s 5 4))), (ad (96), .inl (G.1 0, 8, .inl (s 6 4))), (ad 97, .inl (G.1 6, rT2 (ad 98) (ad 99))), (ad (98), .inl (G.1 0, 8, .inl (s 7 4))), (ad (99), .inl (G.1 0, 8, .inl (s 8 4))), (ad (100), .inl (G.1 0, 2, .inl (s 9 4))), (ad 101, .inr (4, flPy ad s 5)), (ad 102, .inl (G.1 6, rT2 (ad 103) (ad 104))), (ad (103), .inl (G.1 0, 7, .inl (s 0 5))), (ad (104), .inl (G.1 0, 7, .inl (s 1 5))), (ad (105), .inl (G.1 0, 7, .inl (s 2 5))), (ad 106, .inl (G.1 6, rT2 (ad 107) (ad 108))), (ad (107), .inl (G.1 0, 7, .inl (s 3 5))), (ad (108), .inl (G.1 0, 7, .inl (s 4 5))), (ad 109, .inl (G.1 6, rT2 (ad 110) (ad 111))), (ad (110), .inl (G.1 0, 8, .inl (s 5 5))), (ad (111), .inl (G.1 0, 8, .inl (s 6 5))), (ad 112, .inl (G.1 6, rT2 (ad 113) (ad 114))), (ad (113), .inl (G.1 0, 8, .inl (s 7 5))), (ad (114), .inl (G.1 0, 8, .inl (s 8 5))), (ad (115), .inl (G.1 0, 2, .inl (s 9 5))), (ad 116, .inr (4, flPy ad s 6)), (ad 117, .inl (G.1 6, rT2 (ad 118) (ad 119))), (ad (118), .inl (G.1 0, 7, .inl (s 0 6))), (ad (119), .inl (G.1 0, 7, .inl (s 1 6))), (ad (120), .inl (G.1 0, 7, .inl (s 2 6))), (ad 121, .inl (G.1 6, rT2 (ad 122) (ad 123))), (ad (122), .inl (G.1 0, 7, .inl (s 3 6))), (ad (123), .inl (G.1 0, 7, .inl (s 4 6))), (ad 124, .inl (G.1 6, rT2 (ad 125) (ad 126))), (ad (125), .inl (G.1 0, 8, .inl (s 5 6))), (ad (126), .inl (G.1 0, 8, .inl (s 6 6))), (ad 127, .inl (G.1 6, rT2 (ad 128) (ad 129))), (ad (128), .inl (G.1 0, 8, .inl (s 7 6))), (ad (129), .inl (G.1 0, 8, .inl (s 8 6))), (ad (130), .inl (G.1 0, 2, .inl (s 9 6)))]
set_option maxRecDepth 20000 in
theorem lkPt (ad : Nat → Nat) (G : jG) (s : jU) {i : Nat} (hi : i < 2) : (mkC ad G s)[5 + 16 * i]? = some (ad (5 + 16 * i), .inr (5, flPt ad s i)) := by
  match i, hi with | 0, _ => rfl | 1, _ => rfl
set_option maxRecDepth 20000 in
theorem lkPa_6 (ad : Nat → Nat) (G : jG) (s : jU) {i : Nat} (hi : i < 2) : (mkC ad G s)[6 + 16 * i]? = some (ad (6 + 16 * i), .inl (G.1 0, 12, .inl (s (30 + 4 * i) 0))) := by
  match i, hi with | 0, _ => rfl | 1, _ => rfl
set_option maxRecDepth 20000 in
theorem lkPa_7 (ad : Nat → Nat) (G : jG) (s : jU) {i : Nat} (hi : i < 2) : (mkC ad G s)[7 + 16 * i]? = some (ad (7 + 16 * i), .inl (G.1 0, 12, .inl (s (31 + 4 * i) 0))) := by
  match i, hi with | 0, _ => rfl | 1, _ => rfl
set_option maxRecDepth 20000 in
theorem lkPa_8 (ad : Nat → Nat) (G : jG) (s : jU) {i : Nat} (hi : i < 2) : (mkC ad G s)[8 + 16 * i]? = some (ad (8 + 16 * i), .inl (G.1 0, 12, .inl (s (32 + 4 * i) 0))) := by
  match i, hi with | 0, _ => rfl | 1, _ => rfl
set_option maxRecDepth 20000 in
theorem lkPy (ad : Nat → Nat) (G : jG) (s : jU) {i : Nat} (hi : i < 7) : (mkC ad G s)[26 + 15 * i]? = some (ad (26 + 15 * i), .inr (4, flPy ad s i)) := by
  match i, hi with | 0, _ => rfl | 1, _ => rfl | 2, _ => rfl | 3, _ => rfl | 4, _ => rfl | 5, _ => rfl | 6, _ => rfl
set_option maxRecDepth 20000 in
theorem lkAA_1 (ad : Nat → Nat) (G : jG) (s : jU) {i : Nat} (hi : i < 7) : (mkC ad G s)[27 + 15 * i]? = some (ad (27 + 15 * i), .inl (G.1 6, rT2 (ad (28 + 15 * i)) (ad (29 + 15 * i)))) := by
  match i, hi with | 0, _ => rfl | 1, _ => rfl | 2, _ => rfl | 3, _ => rfl | 4, _ => rfl | 5, _ => rfl | 6, _ => rfl
set_option maxRecDepth 20000 in
theorem lkAA_5 (ad : Nat → Nat) (G : jG) (s : jU) {i : Nat} (hi : i < 7) : (mkC ad G s)[31 + 15 * i]? = some (ad (31 + 15 * i), .inl (G.1 6, rT2 (ad (32 + 15 * i)) (ad (33 + 15 * i)))) := by
  match i, hi with | 0, _ => rfl | 1, _ => rfl | 2, _ => rfl | 3, _ => rfl | 4, _ => rfl | 5, _ => rfl | 6, _ => rfl
set_option maxRecDepth 20000 in
theorem lkAA_8 (ad : Nat → Nat) (G : jG) (s : jU) {i : Nat} (hi : i < 7) : (mkC ad G s)[34 + 15 * i]? = some (ad (34 + 15 * i), .inl (G.1 6, rT2 (ad (35 + 15 * i)) (ad (36 + 15 * i)))) := by
  match i, hi with | 0, _ => rfl | 1, _ => rfl | 2, _ => rfl | 3, _ => rfl | 4, _ => rfl | 5, _ => rfl | 6, _ => rfl
set_option maxRecDepth 20000 in
theorem lkAA_11 (ad : Nat → Nat) (G : jG) (s : jU) {i : Nat} (hi : i < 7) : (mkC ad G s)[37 + 15 * i]? = some (ad (37 + 15 * i), .inl (G.1 6, rT2 (ad (38 + 15 * i)) (ad (39 + 15 * i)))) := by
  match i, hi with | 0, _ => rfl | 1, _ => rfl | 2, _ => rfl | 3, _ => rfl | 4, _ => rfl | 5, _ => rfl | 6, _ => rfl
set_option maxRecDepth 20000 in
theorem lkA_2 (ad : Nat → Nat) (G : jG) (s : jU) {i : Nat} (hi : i < 7) : (mkC ad G s)[28 + 15 * i]? = some (ad (28 + 15 * i), .inl (G.1 0, 7, .inl (s 0 i))) := by
  match i, hi with | 0, _ => rfl | 1, _ => rfl | 2, _ => rfl | 3, _ => rfl | 4, _ => rfl | 5, _ => rfl | 6, _ => rfl
set_option maxRecDepth 20000 in
theorem wrA_2 (ad : Nat → Nat) (G : jG) (s : jU) {i : Nat} (hi : i < 7) (a : Nat → Int32) : (mkC ad G s).set (28 + 15 * i) (ad (28 + 15 * i), .inl (G.1 0, 7, .inl a)) = mkC ad G (ups s 0 i a) := by
  match i, hi with | 0, _ => rfl | 1, _ => rfl | 2, _ => rfl | 3, _ => rfl | 4, _ => rfl | 5, _ => rfl | 6, _ => rfl
set_option maxRecDepth 20000 in
theorem lkA_3 (ad : Nat → Nat) (G : jG) (s : jU) {i : Nat} (hi : i < 7) : (mkC ad G s)[29 + 15 * i]? = some (ad (29 + 15 * i), .inl (G.1 0, 7, .inl (s 1 i))) := by
  match i, hi with | 0, _ => rfl | 1, _ => rfl | 2, _ => rfl | 3, _ => rfl | 4, _ => rfl | 5, _ => rfl | 6, _ => rfl
set_option maxRecDepth 20000 in
theorem wrA_3 (ad : Nat → Nat) (G : jG) (s : jU) {i : Nat} (hi : i < 7) (a : Nat → Int32) : (mkC ad G s).set (29 + 15 * i) (ad (29 + 15 * i), .inl (G.1 0, 7, .inl a)) = mkC ad G (ups s 1 i a) := by
  match i, hi with | 0, _ => rfl | 1, _ => rfl | 2, _ => rfl | 3, _ => rfl | 4, _ => rfl | 5, _ => rfl | 6, _ => rfl
set_option maxRecDepth 20000 in
theorem lkA_4 (ad : Nat → Nat) (G : jG) (s : jU) {i : Nat} (hi : i < 7) : (mkC ad G s)[30 + 15 * i]? = some (ad (30 + 15 * i), .inl (G.1 0, 7, .inl (s 2 i))) := by
  match i, hi with | 0, _ => rfl | 1, _ => rfl | 2, _ => rfl | 3, _ => rfl | 4, _ => rfl | 5, _ => rfl | 6, _ => rfl
set_option maxRecDepth 20000 in
theorem wrA_4 (ad : Nat → Nat) (G : jG) (s : jU) {i : Nat} (hi : i < 7) (a : Nat → Int32) : (mkC ad G s).set (30 + 15 * i) (ad (30 + 15 * i), .inl (G.1 0, 7, .inl a)) = mkC ad G (ups s 2 i a) := by
  match i, hi with | 0, _ => rfl | 1, _ => rfl | 2, _ => rfl | 3, _ => rfl | 4, _ => rfl | 5, _ => rfl | 6, _ => rfl
set_option maxRecDepth 20000 in
theorem lkA_6 (ad : Nat → Nat) (G : jG) (s : jU) {i : Nat} (hi : i < 7) : (mkC ad G s)[32 + 15 * i]? = some (ad (32 + 15 * i), .inl (G.1 0, 7, .inl (s 3 i))) := by
  match i, hi with | 0, _ => rfl | 1, _ => rfl | 2, _ => rfl | 3, _ => rfl | 4, _ => rfl | 5, _ => rfl | 6, _ => rfl
set_option maxRecDepth 20000 in
theorem wrA_6 (ad : Nat → Nat) (G : jG) (s : jU) {i : Nat} (hi : i < 7) (a : Nat → Int32) : (mkC ad G s).set (32 + 15 * i) (ad (32 + 15 * i), .inl (G.1 0, 7, .inl a)) = mkC ad G (ups s 3 i a) := by
  match i, hi with | 0, _ => rfl | 1, _ => rfl | 2, _ => rfl | 3, _ => rfl | 4, _ => rfl | 5, _ => rfl | 6, _ => rfl
set_option maxRecDepth 20000 in
theorem lkA_7 (ad : Nat → Nat) (G : jG) (s : jU) {i : Nat} (hi : i < 7) : (mkC ad G s)[33 + 15 * i]? = some (ad (33 + 15 * i), .inl (G.1 0, 7, .inl (s 4 i))) := by
  match i, hi with | 0, _ => rfl | 1, _ => rfl | 2, _ => rfl | 3, _ => rfl | 4, _ => rfl | 5, _ => rfl | 6, _ => rfl
set_option maxRecDepth 20000 in
theorem wrA_7 (ad : Nat → Nat) (G : jG) (s : jU) {i : Nat} (hi : i < 7) (a : Nat → Int32) : (mkC ad G s).set (33 + 15 * i) (ad (33 + 15 * i), .inl (G.1 0, 7, .inl a)) = mkC ad G (ups s 4 i a) := by
  match i, hi with | 0, _ => rfl | 1, _ => rfl | 2, _ => rfl | 3, _ => rfl | 4, _ => rfl | 5, _ => rfl | 6, _ => rfl
set_option maxRecDepth 20000 in
theorem lkA_9 (ad : Nat → Nat) (G : jG) (s : jU) {i : Nat} (hi : i < 7) : (mkC ad G s)[35 + 15 * i]? = some (ad (35 + 15 * i), .inl (G.1 0, 8, .inl (s 5 i))) := by
  match i, hi with | 0, _ => rfl | 1, _ => rfl | 2, _ => rfl | 3, _ => rfl | 4, _ => rfl | 5, _ => rfl | 6, _ => rfl
set_option maxRecDepth 20000 in
theorem wrA_9 (ad : Nat → Nat) (G : jG) (s : jU) {i : Nat} (hi : i < 7) (a : Nat → Int32) : (mkC ad G s).set (35 + 15 * i) (ad (35 + 15 * i), .inl (G.1 0, 8, .inl a)) = mkC ad G (ups s 5 i a) := by
  match i, hi with | 0, _ => rfl | 1, _ => rfl | 2, _ => rfl | 3, _ => rfl | 4, _ => rfl | 5, _ => rfl | 6, _ => rfl
set_option maxRecDepth 20000 in
theorem lkA_10 (ad : Nat → Nat) (G : jG) (s : jU) {i : Nat} (hi : i < 7) : (mkC ad G s)[36 + 15 * i]? = some (ad (36 + 15 * i), .inl (G.1 0, 8, .inl (s 6 i))) := by
  match i, hi with | 0, _ => rfl | 1, _ => rfl | 2, _ => rfl | 3, _ => rfl | 4, _ => rfl | 5, _ => rfl | 6, _ => rfl
set_option maxRecDepth 20000 in
theorem wrA_10 (ad : Nat → Nat) (G : jG) (s : jU) {i : Nat} (hi : i < 7) (a : Nat → Int32) : (mkC ad G s).set (36 + 15 * i) (ad (36 + 15 * i), .inl (G.1 0, 8, .inl a)) = mkC ad G (ups s 6 i a) := by
  match i, hi with | 0, _ => rfl | 1, _ => rfl | 2, _ => rfl | 3, _ => rfl | 4, _ => rfl | 5, _ => rfl | 6, _ => rfl
set_option maxRecDepth 20000 in
theorem lkA_12 (ad : Nat → Nat) (G : jG) (s : jU) {i : Nat} (hi : i < 7) : (mkC ad G s)[38 + 15 * i]? = some (ad (38 + 15 * i), .inl (G.1 0, 8, .inl (s 7 i))) := by
  match i, hi with | 0, _ => rfl | 1, _ => rfl | 2, _ => rfl | 3, _ => rfl | 4, _ => rfl | 5, _ => rfl | 6, _ => rfl
set_option maxRecDepth 20000 in
theorem wrA_12 (ad : Nat → Nat) (G : jG) (s : jU) {i : Nat} (hi : i < 7) (a : Nat → Int32) : (mkC ad G s).set (38 + 15 * i) (ad (38 + 15 * i), .inl (G.1 0, 8, .inl a)) = mkC ad G (ups s 7 i a) := by
  match i, hi with | 0, _ => rfl | 1, _ => rfl | 2, _ => rfl | 3, _ => rfl | 4, _ => rfl | 5, _ => rfl | 6, _ => rfl
set_option maxRecDepth 20000 in
theorem lkA_13 (ad : Nat → Nat) (G : jG) (s : jU) {i : Nat} (hi : i < 7) : (mkC ad G s)[39 + 15 * i]? = some (ad (39 + 15 * i), .inl (G.1 0, 8, .inl (s 8 i))) := by
  match i, hi with | 0, _ => rfl | 1, _ => rfl | 2, _ => rfl | 3, _ => rfl | 4, _ => rfl | 5, _ => rfl | 6, _ => rfl
set_option maxRecDepth 20000 in
theorem wrA_13 (ad : Nat → Nat) (G : jG) (s : jU) {i : Nat} (hi : i < 7) (a : Nat → Int32) : (mkC ad G s).set (39 + 15 * i) (ad (39 + 15 * i), .inl (G.1 0, 8, .inl a)) = mkC ad G (ups s 8 i a) := by
  match i, hi with | 0, _ => rfl | 1, _ => rfl | 2, _ => rfl | 3, _ => rfl | 4, _ => rfl | 5, _ => rfl | 6, _ => rfl
set_option maxRecDepth 20000 in
theorem lkA_14 (ad : Nat → Nat) (G : jG) (s : jU) {i : Nat} (hi : i < 7) : (mkC ad G s)[40 + 15 * i]? = some (ad (40 + 15 * i), .inl (G.1 0, 2, .inl (s 9 i))) := by
  match i, hi with | 0, _ => rfl | 1, _ => rfl | 2, _ => rfl | 3, _ => rfl | 4, _ => rfl | 5, _ => rfl | 6, _ => rfl
set_option maxRecDepth 20000 in
theorem wrA_14 (ad : Nat → Nat) (G : jG) (s : jU) {i : Nat} (hi : i < 7) (a : Nat → Int32) : (mkC ad G s).set (40 + 15 * i) (ad (40 + 15 * i), .inl (G.1 0, 2, .inl a)) = mkC ad G (ups s 9 i a) := by
  match i, hi with | 0, _ => rfl | 1, _ => rfl | 2, _ => rfl | 3, _ => rfl | 4, _ => rfl | 5, _ => rfl | 6, _ => rfl
set_option maxRecDepth 20000 in
theorem wrPy_6 (ad : Nat → Nat) (G : jG) (s : jU) {i : Nat} (hi : i < 7) (x : Int32) : (mkC ad G s).set (26 + 15 * i) (ad (26 + 15 * i), .inr (4, (flPy ad s i).set 6 (.int x))) = mkC ad G (ups s 10 i (fun _ => x)) := by
  match i, hi with | 0, _ => rfl | 1, _ => rfl | 2, _ => rfl | 3, _ => rfl | 4, _ => rfl | 5, _ => rfl | 6, _ => rfl
set_option maxRecDepth 20000 in
theorem wrPy_7 (ad : Nat → Nat) (G : jG) (s : jU) {i : Nat} (hi : i < 7) (x : Int32) : (mkC ad G s).set (26 + 15 * i) (ad (26 + 15 * i), .inr (4, (flPy ad s i).set 7 (.int x))) = mkC ad G (ups s 11 i (fun _ => x)) := by
  match i, hi with | 0, _ => rfl | 1, _ => rfl | 2, _ => rfl | 3, _ => rfl | 4, _ => rfl | 5, _ => rfl | 6, _ => rfl
set_option maxRecDepth 20000 in
theorem wrPy_8 (ad : Nat → Nat) (G : jG) (s : jU) {i : Nat} (hi : i < 7) (x : Int32) : (mkC ad G s).set (26 + 15 * i) (ad (26 + 15 * i), .inr (4, (flPy ad s i).set 8 (.int x))) = mkC ad G (ups s 12 i (fun _ => x)) := by
  match i, hi with | 0, _ => rfl | 1, _ => rfl | 2, _ => rfl | 3, _ => rfl | 4, _ => rfl | 5, _ => rfl | 6, _ => rfl
set_option maxRecDepth 20000 in
theorem wrPy_9 (ad : Nat → Nat) (G : jG) (s : jU) {i : Nat} (hi : i < 7) (x : Int32) : (mkC ad G s).set (26 + 15 * i) (ad (26 + 15 * i), .inr (4, (flPy ad s i).set 9 (.int x))) = mkC ad G (ups s 13 i (fun _ => x)) := by
  match i, hi with | 0, _ => rfl | 1, _ => rfl | 2, _ => rfl | 3, _ => rfl | 4, _ => rfl | 5, _ => rfl | 6, _ => rfl
set_option maxRecDepth 20000 in
theorem wrPa_6 (ad : Nat → Nat) (G : jG) (s : jU) {i : Nat} (hi : i < 2) (a : Nat → Int32) : (mkC ad G s).set (6 + 16 * i) (ad (6 + 16 * i), .inl (G.1 0, 12, .inl a)) = mkC ad G (ups s (30 + 4 * i) 0 a) := by
  match i, hi with | 0, _ => rfl | 1, _ => rfl
set_option maxRecDepth 20000 in
theorem wrPa_7 (ad : Nat → Nat) (G : jG) (s : jU) {i : Nat} (hi : i < 2) (a : Nat → Int32) : (mkC ad G s).set (7 + 16 * i) (ad (7 + 16 * i), .inl (G.1 0, 12, .inl a)) = mkC ad G (ups s (31 + 4 * i) 0 a) := by
  match i, hi with | 0, _ => rfl | 1, _ => rfl
set_option maxRecDepth 20000 in
theorem wrPa_8 (ad : Nat → Nat) (G : jG) (s : jU) {i : Nat} (hi : i < 2) (a : Nat → Int32) : (mkC ad G s).set (8 + 16 * i) (ad (8 + 16 * i), .inl (G.1 0, 12, .inl a)) = mkC ad G (ups s (32 + 4 * i) 0 a) := by
  match i, hi with | 0, _ => rfl | 1, _ => rfl
set_option maxRecDepth 20000 in
theorem wrPt_4 (ad : Nat → Nat) (G : jG) (s : jU) {i : Nat} (hi : i < 2) (x : Int32) : (mkC ad G s).set (5 + 16 * i) (ad (5 + 16 * i), .inr (5, (flPt ad s i).set 4 (.int x))) = mkC ad G (ups s (33 + 4 * i) 0 (fun _ => x)) := by
  match i, hi with | 0, _ => rfl | 1, _ => rfl
set_option maxRecDepth 20000 in
theorem wrRm_7 (ad : Nat → Nat) (G : jG) (s : jU) (x : Int32) : (mkC ad G s).set 9 (ad 9, .inr (7, (flRm ad s).set 7 (.int x))) = mkC ad G (ups s 20 0 (fun _ => x)) := rfl
set_option maxRecDepth 20000 in
theorem wrRm_8 (ad : Nat → Nat) (G : jG) (s : jU) (x : Int32) : (mkC ad G s).set 9 (ad 9, .inr (7, (flRm ad s).set 8 (.int x))) = mkC ad G (ups s 21 0 (fun _ => x)) := rfl
set_option maxRecDepth 20000 in
theorem wrRm_9 (ad : Nat → Nat) (G : jG) (s : jU) (x : Int32) : (mkC ad G s).set 9 (ad 9, .inr (7, (flRm ad s).set 9 (.int x))) = mkC ad G (ups s 22 0 (fun _ => x)) := rfl
set_option maxRecDepth 20000 in
theorem wrRm_10 (ad : Nat → Nat) (G : jG) (s : jU) (x : Int32) : (mkC ad G s).set 9 (ad 9, .inr (7, (flRm ad s).set 10 (.int x))) = mkC ad G (ups s 23 0 (fun _ => x)) := rfl
set_option maxRecDepth 20000 in
theorem wrRm_11 (ad : Nat → Nat) (G : jG) (s : jU) (x : Int32) : (mkC ad G s).set 9 (ad 9, .inr (7, (flRm ad s).set 11 (.int x))) = mkC ad G (ups s 24 0 (fun _ => x)) := rfl
set_option maxRecDepth 20000 in
theorem wrRm_12 (ad : Nat → Nat) (G : jG) (s : jU) (x : Int32) : (mkC ad G s).set 9 (ad 9, .inr (7, (flRm ad s).set 12 (.int x))) = mkC ad G (ups s 25 0 (fun _ => x)) := rfl
set_option maxRecDepth 20000 in
theorem wrRm_13 (ad : Nat → Nat) (G : jG) (s : jU) (x : Int32) : (mkC ad G s).set 9 (ad 9, .inr (7, (flRm ad s).set 13 (.int x))) = mkC ad G (ups s 26 0 (fun _ => x)) := rfl
set_option maxRecDepth 20000 in
theorem wrRm_14 (ad : Nat → Nat) (G : jG) (s : jU) (x : Int32) : (mkC ad G s).set 9 (ad 9, .inr (7, (flRm ad s).set 14 (.int x))) = mkC ad G (ups s 27 0 (fun _ => x)) := rfl
set_option maxRecDepth 20000 in
theorem wrBd_2 (ad : Nat → Nat) (G : jG) (s : jU) (x : Int32) : (mkC ad G s).set 15 (ad 15, .inr (1, (flBd ad s).set 2 (.int x))) = mkC ad G (ups s 41 0 (fun _ => x)) := rfl
set_option maxRecDepth 20000 in
theorem wrF_16 (ad : Nat → Nat) (G : jG) (s : jU) (a : Nat → Int32) : (mkC ad G s).set 16 (ad 16, .inl (G.1 1, 1050, .inl a)) = mkC ad G (ups s 40 0 a) := rfl
set_option maxRecDepth 20000 in
theorem wrF_18 (ad : Nat → Nat) (G : jG) (s : jU) (a : Nat → Int32) : (mkC ad G s).set 18 (ad 18, .inl (G.1 0, 64, .inl a)) = mkC ad G (ups s 42 0 a) := rfl
set_option maxRecDepth 20000 in
theorem wrF_19 (ad : Nat → Nat) (G : jG) (s : jU) (a : Nat → Int32) : (mkC ad G s).set 19 (ad 19, .inl (G.1 0, 8, .inl a)) = mkC ad G (ups s 43 0 a) := rfl
set_option maxRecDepth 20000 in
theorem wrF_20 (ad : Nat → Nat) (G : jG) (s : jU) (a : Nat → Int32) : (mkC ad G s).set 20 (ad 20, .inl (G.1 0, 8, .inl a)) = mkC ad G (ups s 44 0 a) := rfl
set_option maxRecDepth 20000 in
theorem wrF_25 (ad : Nat → Nat) (G : jG) (s : jU) (a : Nat → Int32) : (mkC ad G s).set 25 (ad 25, .inl (G.1 0, 8, .inl a)) = mkC ad G (ups s 28 0 a) := rfl
theorem fnum_ofNat {f : Nat} (h : f < 3) : fnum (Int32.ofNat f) = f := by
  match f, h with | 0, _ => rfl | 1, _ => rfl | 2, _ => rfl
theorem gnum_ofNat {f : Nat} (h : f < 2) : gnum (Int32.ofNat f) = f := by
  match f, h with | 0, _ => rfl | 1, _ => rfl
set_option maxRecDepth 20000 in
theorem wrPt_3 (ad : Nat → Nat) (G : jG) (s : jU) {i : Nat} (hi : i < 2) {f : Nat} (hf : f < 3) : (mkC ad G s).set (5 + 16 * i) (ad (5 + 16 * i), .inr (5, (flPt ad s i).set 3 (.ref (ad (2 + f))))) = mkC ad G (ups s (51 + i) 0 (fun _ => Int32.ofNat f)) := by
  match i, hi, f, hf with | 0, _, 0, _ => rfl | 0, _, 1, _ => rfl | 0, _, 2, _ => rfl | 1, _, 0, _ => rfl | 1, _, 1, _ => rfl | 1, _, 2, _ => rfl
set_option maxRecDepth 20000 in
theorem wrRm_5 (ad : Nat → Nat) (G : jG) (s : jU) {f : Nat} (hf : f < 2) : (mkC ad G s).set 9 (ad 9, .inr (7, (flRm ad s).set 5 (.ref (ad (11 + f))))) = mkC ad G (ups s 50 0 (fun _ => Int32.ofNat f)) := by
  match f, hf with | 0, _ => rfl | 1, _ => rfl
set_option maxRecDepth 20000 in
theorem wrRm_6 (ad : Nat → Nat) (G : jG) (s : jU) {f : Nat} (hf : f < 3) : (mkC ad G s).set 9 (ad 9, .inr (7, (flRm ad s).set 6 (.ref (ad (2 + f))))) = mkC ad G (ups s 53 0 (fun _ => Int32.ofNat f)) := by
  match f, hf with | 0, _ => rfl | 1, _ => rfl | 2, _ => rfl
