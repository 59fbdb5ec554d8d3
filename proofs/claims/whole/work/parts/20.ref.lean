/-! ===== the reference: its state, its methods as functions ===== -/
abbrev jS : Type := Nat → Nat → Int32
def jF : Nat := 4000
def jlet {α β : Type} (a : α) (f : α → Option β) : Option β := f a
theorem olet {α β : Type} {a : α} {f : α → Option β} {r : β} (h : jlet a f = some r) : ∃ x, a = x ∧ f x = some r := ⟨a, rfl, h⟩
theorem j_topi {G : jG} {M : jM} {d mc ms : Nat} {P : jR → va_W → Prop} {pc : Nat} {lv : List (Nat × Value)} {st : List Value} {ws : va_W} {k n : Nat} {x y : Int32} (h : x = y) (kk : J G M d mc ms P pc lv (.int y :: st) ws k n) : J G M d mc ms P pc lv (.int x :: st) ws k n := by
  subst h; exact kk
def flR (ad : Nat → Nat) (s : jS) : List Value := [.int (s 0 0), .int (s 1 0), .int (s 2 0), .ref (ad 1), .ref (ad 2), .ref (ad 3), .ref (ad 4), .ref (ad 5), .ref (ad 6), .int (s 9 0), .int (s 10 0), .int (s 11 0), .int (s 12 0), .int (s 13 0), .int (s 14 0), .int (s 15 0), .int (s 16 0), .int (s 17 0), .int (s 18 0), .ref (ad 7), .ref (ad 8), .ref (ad 9), .ref (ad 10), .int (s 23 0), .int (s 24 0), .int (s 25 0), .int (s 26 0), .int (s 27 0), .ref (ad 11), .ref (ad 12), .ref (ad 13), .ref (ad 14), .ref (ad 15), .ref (ad 16), .ref (ad 17), .ref (ad 18), .ref (ad 19), .ref (ad 20), .ref (ad 21), .int (s 39 0), .int (s 40 0), .ref (ad 22), .ref (ad 23), .ref (ad 24), .ref (ad 25), .ref (ad 26), .ref (ad 27), .ref (ad 28)]
def mkR (ad : Nat → Nat) (G : jG) (s : jS) : va_W := [(ad 0, .inr (10, flR ad s)), (ad 1, .inl (G.1 0, 12, .inl (s 3))), (ad 2, .inl (G.1 0, 12, .inl (s 4))), (ad 3, .inl (G.1 0, 12, .inl (s 5))), (ad 4, .inl (G.1 0, 1019, .inl (s 6))), (ad 5, .inl (G.1 0, 31, .inl (s 7))), (ad 6, .inl (G.1 0, 2, .inl (s 8))), (ad 7, .inl (G.1 0, 49, .inl (s 19))), (ad 8, .inl (G.1 0, 49, .inl (s 20))), (ad 9, .inl (G.1 0, 49, .inl (s 21))), (ad 10, .inl (G.1 0, 7, .inl (s 22))), (ad 11, .inl (G.1 0, 7, .inl (s 28))), (ad 12, .inl (G.1 0, 7, .inl (s 29))), (ad 13, .inl (G.1 0, 49, .inl (s 30))), (ad 14, .inl (G.1 0, 49, .inl (s 31))), (ad 15, .inl (G.1 0, 49, .inl (s 32))), (ad 16, .inl (G.1 0, 49, .inl (s 33))), (ad 17, .inl (G.1 0, 49, .inl (s 34))), (ad 18, .inl (G.1 0, 49, .inl (s 35))), (ad 19, .inl (G.1 0, 7, .inl (s 36))), (ad 20, .inl (G.1 0, 7, .inl (s 37))), (ad 21, .inl (G.1 0, 7, .inl (s 38))), (ad 22, .inl (G.1 0, 1100, .inl (s 41))), (ad 23, .inl (G.1 0, 32, .inl (s 42))), (ad 24, .inl (G.1 0, 32, .inl (s 43))), (ad 25, .inl (G.1 0, 8, .inl (s 44))), (ad 26, .inl (G.1 0, 8, .inl (s 45))), (ad 27, .inl (G.1 0, 64, .inl (s 46))), (ad 28, .inl (G.1 0, 8, .inl (s 47)))]
theorem wpR_0 (ad : Nat → Nat) (G : jG) (s : jS) (x : Int32) : (mkR ad G s).set 0 (ad 0, .inr (10, (flR ad s).set 0 (.int x))) = mkR ad G (va_up s 0 (fun _ => x)) := rfl
theorem wpR_1 (ad : Nat → Nat) (G : jG) (s : jS) (x : Int32) : (mkR ad G s).set 0 (ad 0, .inr (10, (flR ad s).set 1 (.int x))) = mkR ad G (va_up s 1 (fun _ => x)) := rfl
theorem wpR_2 (ad : Nat → Nat) (G : jG) (s : jS) (x : Int32) : (mkR ad G s).set 0 (ad 0, .inr (10, (flR ad s).set 2 (.int x))) = mkR ad G (va_up s 2 (fun _ => x)) := rfl
theorem waR_3 (ad : Nat → Nat) (G : jG) (s : jS) (a : Nat → Int32) : (mkR ad G s).set 1 (ad 1, .inl (G.1 0, 12, .inl a)) = mkR ad G (va_up s 3 a) := rfl
theorem waR_4 (ad : Nat → Nat) (G : jG) (s : jS) (a : Nat → Int32) : (mkR ad G s).set 2 (ad 2, .inl (G.1 0, 12, .inl a)) = mkR ad G (va_up s 4 a) := rfl
theorem waR_5 (ad : Nat → Nat) (G : jG) (s : jS) (a : Nat → Int32) : (mkR ad G s).set 3 (ad 3, .inl (G.1 0, 12, .inl a)) = mkR ad G (va_up s 5 a) := rfl
theorem waR_6 (ad : Nat → Nat) (G : jG) (s : jS) (a : Nat → Int32) : (mkR ad G s).set 4 (ad 4, .inl (G.1 0, 1019, .inl a)) = mkR ad G (va_up s 6 a) := rfl
theorem waR_7 (ad : Nat → Nat) (G : jG) (s : jS) (a : Nat → Int32) : (mkR ad G s).set 5 (ad 5, .inl (G.1 0, 31, .inl a)) = mkR ad G (va_up s 7 a) := rfl
theorem waR_8 (ad : Nat → Nat) (G : jG) (s : jS) (a : Nat → Int32) : (mkR ad G s).set 6 (ad 6, .inl (G.1 0, 2, .inl a)) = mkR ad G (va_up s 8 a) := rfl
theorem wpR_9 (ad : Nat → Nat) (G : jG) (s : jS) (x : Int32) : (mkR ad G s).set 0 (ad 0, .inr (10, (flR ad s).set 9 (.int x))) = mkR ad G (va_up s 9 (fun _ => x)) := rfl
theorem wpR_10 (ad : Nat → Nat) (G : jG) (s : jS) (x : Int32) : (mkR ad G s).set 0 (ad 0, .inr (10, (flR ad s).set 10 (.int x))) = mkR ad G (va_up s 10 (fun _ => x)) := rfl
theorem wpR_11 (ad : Nat → Nat) (G : jG) (s : jS) (x : Int32) : (mkR ad G s).set 0 (ad 0, .inr (10, (flR ad s).set 11 (.int x))) = mkR ad G (va_up s 11 (fun _ => x)) := rfl
theorem wpR_12 (ad : Nat → Nat) (G : jG) (s : jS) (x : Int32) : (mkR ad G s).set 0 (ad 0, .inr (10, (flR ad s).set 12 (.int x))) = mkR ad G (va_up s 12 (fun _ => x)) := rfl
theorem wpR_13 (ad : Nat → Nat) (G : jG) (s : jS) (x : Int32) : (mkR ad G s).set 0 (ad 0, .inr (10, (flR ad s).set 13 (.int x))) = mkR ad G (va_up s 13 (fun _ => x)) := rfl
theorem wpR_14 (ad : Nat → Nat) (G : jG) (s : jS) (x : Int32) : (mkR ad G s).set 0 (ad 0, .inr (10, (flR ad s).set 14 (.int x))) = mkR ad G (va_up s 14 (fun _ => x)) := rfl
theorem wpR_15 (ad : Nat → Nat) (G : jG) (s : jS) (x : Int32) : (mkR ad G s).set 0 (ad 0, .inr (10, (flR ad s).set 15 (.int x))) = mkR ad G (va_up s 15 (fun _ => x)) := rfl
theorem wpR_16 (ad : Nat → Nat) (G : jG) (s : jS) (x : Int32) : (mkR ad G s).set 0 (ad 0, .inr (10, (flR ad s).set 16 (.int x))) = mkR ad G (va_up s 16 (fun _ => x)) := rfl
theorem wpR_17 (ad : Nat → Nat) (G : jG) (s : jS) (x : Int32) : (mkR ad G s).set 0 (ad 0, .inr (10, (flR ad s).set 17 (.int x))) = mkR ad G (va_up s 17 (fun _ => x)) := rfl
theorem wpR_18 (ad : Nat → Nat) (G : jG) (s : jS) (x : Int32) : (mkR ad G s).set 0 (ad 0, .inr (10, (flR ad s).set 18 (.int x))) = mkR ad G (va_up s 18 (fun _ => x)) := rfl
theorem waR_19 (ad : Nat → Nat) (G : jG) (s : jS) (a : Nat → Int32) : (mkR ad G s).set 7 (ad 7, .inl (G.1 0, 49, .inl a)) = mkR ad G (va_up s 19 a) := rfl
theorem waR_20 (ad : Nat → Nat) (G : jG) (s : jS) (a : Nat → Int32) : (mkR ad G s).set 8 (ad 8, .inl (G.1 0, 49, .inl a)) = mkR ad G (va_up s 20 a) := rfl
theorem waR_21 (ad : Nat → Nat) (G : jG) (s : jS) (a : Nat → Int32) : (mkR ad G s).set 9 (ad 9, .inl (G.1 0, 49, .inl a)) = mkR ad G (va_up s 21 a) := rfl
theorem waR_22 (ad : Nat → Nat) (G : jG) (s : jS) (a : Nat → Int32) : (mkR ad G s).set 10 (ad 10, .inl (G.1 0, 7, .inl a)) = mkR ad G (va_up s 22 a) := rfl
theorem wpR_23 (ad : Nat → Nat) (G : jG) (s : jS) (x : Int32) : (mkR ad G s).set 0 (ad 0, .inr (10, (flR ad s).set 23 (.int x))) = mkR ad G (va_up s 23 (fun _ => x)) := rfl
theorem wpR_24 (ad : Nat → Nat) (G : jG) (s : jS) (x : Int32) : (mkR ad G s).set 0 (ad 0, .inr (10, (flR ad s).set 24 (.int x))) = mkR ad G (va_up s 24 (fun _ => x)) := rfl
theorem wpR_25 (ad : Nat → Nat) (G : jG) (s : jS) (x : Int32) : (mkR ad G s).set 0 (ad 0, .inr (10, (flR ad s).set 25 (.int x))) = mkR ad G (va_up s 25 (fun _ => x)) := rfl
theorem wpR_26 (ad : Nat → Nat) (G : jG) (s : jS) (x : Int32) : (mkR ad G s).set 0 (ad 0, .inr (10, (flR ad s).set 26 (.int x))) = mkR ad G (va_up s 26 (fun _ => x)) := rfl
theorem wpR_27 (ad : Nat → Nat) (G : jG) (s : jS) (x : Int32) : (mkR ad G s).set 0 (ad 0, .inr (10, (flR ad s).set 27 (.int x))) = mkR ad G (va_up s 27 (fun _ => x)) := rfl
theorem waR_28 (ad : Nat → Nat) (G : jG) (s : jS) (a : Nat → Int32) : (mkR ad G s).set 11 (ad 11, .inl (G.1 0, 7, .inl a)) = mkR ad G (va_up s 28 a) := rfl
theorem waR_29 (ad : Nat → Nat) (G : jG) (s : jS) (a : Nat → Int32) : (mkR ad G s).set 12 (ad 12, .inl (G.1 0, 7, .inl a)) = mkR ad G (va_up s 29 a) := rfl
theorem waR_30 (ad : Nat → Nat) (G : jG) (s : jS) (a : Nat → Int32) : (mkR ad G s).set 13 (ad 13, .inl (G.1 0, 49, .inl a)) = mkR ad G (va_up s 30 a) := rfl
theorem waR_31 (ad : Nat → Nat) (G : jG) (s : jS) (a : Nat → Int32) : (mkR ad G s).set 14 (ad 14, .inl (G.1 0, 49, .inl a)) = mkR ad G (va_up s 31 a) := rfl
theorem waR_32 (ad : Nat → Nat) (G : jG) (s : jS) (a : Nat → Int32) : (mkR ad G s).set 15 (ad 15, .inl (G.1 0, 49, .inl a)) = mkR ad G (va_up s 32 a) := rfl
theorem waR_33 (ad : Nat → Nat) (G : jG) (s : jS) (a : Nat → Int32) : (mkR ad G s).set 16 (ad 16, .inl (G.1 0, 49, .inl a)) = mkR ad G (va_up s 33 a) := rfl
theorem waR_34 (ad : Nat → Nat) (G : jG) (s : jS) (a : Nat → Int32) : (mkR ad G s).set 17 (ad 17, .inl (G.1 0, 49, .inl a)) = mkR ad G (va_up s 34 a) := rfl
theorem waR_35 (ad : Nat → Nat) (G : jG) (s : jS) (a : Nat → Int32) : (mkR ad G s).set 18 (ad 18, .inl (G.1 0, 49, .inl a)) = mkR ad G (va_up s 35 a) := rfl
theorem waR_36 (ad : Nat → Nat) (G : jG) (s : jS) (a : Nat → Int32) : (mkR ad G s).set 19 (ad 19, .inl (G.1 0, 7, .inl a)) = mkR ad G (va_up s 36 a) := rfl
theorem waR_37 (ad : Nat → Nat) (G : jG) (s : jS) (a : Nat → Int32) : (mkR ad G s).set 20 (ad 20, .inl (G.1 0, 7, .inl a)) = mkR ad G (va_up s 37 a) := rfl
theorem waR_38 (ad : Nat → Nat) (G : jG) (s : jS) (a : Nat → Int32) : (mkR ad G s).set 21 (ad 21, .inl (G.1 0, 7, .inl a)) = mkR ad G (va_up s 38 a) := rfl
theorem wpR_39 (ad : Nat → Nat) (G : jG) (s : jS) (x : Int32) : (mkR ad G s).set 0 (ad 0, .inr (10, (flR ad s).set 39 (.int x))) = mkR ad G (va_up s 39 (fun _ => x)) := rfl
theorem wpR_40 (ad : Nat → Nat) (G : jG) (s : jS) (x : Int32) : (mkR ad G s).set 0 (ad 0, .inr (10, (flR ad s).set 40 (.int x))) = mkR ad G (va_up s 40 (fun _ => x)) := rfl
theorem waR_41 (ad : Nat → Nat) (G : jG) (s : jS) (a : Nat → Int32) : (mkR ad G s).set 22 (ad 22, .inl (G.1 0, 1100, .inl a)) = mkR ad G (va_up s 41 a) := rfl
theorem waR_42 (ad : Nat → Nat) (G : jG) (s : jS) (a : Nat → Int32) : (mkR ad G s).set 23 (ad 23, .inl (G.1 0, 32, .inl a)) = mkR ad G (va_up s 42 a) := rfl
theorem waR_43 (ad : Nat → Nat) (G : jG) (s : jS) (a : Nat → Int32) : (mkR ad G s).set 24 (ad 24, .inl (G.1 0, 32, .inl a)) = mkR ad G (va_up s 43 a) := rfl
theorem waR_44 (ad : Nat → Nat) (G : jG) (s : jS) (a : Nat → Int32) : (mkR ad G s).set 25 (ad 25, .inl (G.1 0, 8, .inl a)) = mkR ad G (va_up s 44 a) := rfl
theorem waR_45 (ad : Nat → Nat) (G : jG) (s : jS) (a : Nat → Int32) : (mkR ad G s).set 26 (ad 26, .inl (G.1 0, 8, .inl a)) = mkR ad G (va_up s 45 a) := rfl
theorem waR_46 (ad : Nat → Nat) (G : jG) (s : jS) (a : Nat → Int32) : (mkR ad G s).set 27 (ad 27, .inl (G.1 0, 64, .inl a)) = mkR ad G (va_up s 46 a) := rfl
theorem waR_47 (ad : Nat → Nat) (G : jG) (s : jS) (a : Nat → Int32) : (mkR ad G s).set 28 (ad 28, .inl (G.1 0, 8, .inl a)) = mkR ad G (va_up s 47 a) := rfl
