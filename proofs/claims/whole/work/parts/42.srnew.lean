/-! ===== the new object of the class, in the order of mkC ===== -/
def u0 : jU := fun K _ _ => if K = 52 then 1 else if K = 53 then 1 else 0
def isSR : List Nat := [0, 3, 4, 1, 2, 5, 6, 7, 8, 9, 21, 10, 11, 12, 13, 14, 15, 16, 17, 18, 19, 22, 23, 24, 25, 20, 26, 27, 28, 29, 30, 31, 32, 33, 34, 35, 36, 37, 38, 39, 40, 41, 42, 43, 44, 45, 46, 47, 48, 49, 50, 51, 52, 53, 54, 55, 56, 57, 58, 59, 60, 61, 62, 63, 64, 65, 66, 67, 68, 69, 70, 71, 72, 73, 74, 75, 76, 77, 78, 79, 80, 81, 82, 83, 84, 85, 86, 87, 88, 89, 90, 91, 92, 93, 94, 95, 96, 97, 98, 99, 100, 101, 102, 103, 104, 105, 106, 107, 108, 109, 110, 111, 112, 113, 114, 115, 116, 117, 118, 119, 120, 121, 122, 123, 124, 125, 126, 127, 128, 129, 130]
theorem upF {ad : Nat → Nat} {x0 x1 x2 : Nat} (h0 : ad 2 = x0) (h1 : ad 3 = x1) (h2 : ad 4 = x2) : (va_up (va_up (va_up (fun _ => none) (0 : Int32).toNatClampNeg (some x0)) (1 : Int32).toNatClampNeg (some x1)) (2 : Int32).toNatClampNeg (some x2)) = (fun k => if k < 3 then some (ad (2 + k)) else none : Nat → Option Nat) := by
  funext k
  by_cases h : k < 3
  · rw [if_pos h]
    match k, h with
    | 0, _ => exact congrArg some h0.symm
    | 1, _ => exact congrArg some h1.symm
    | 2, _ => exact congrArg some h2.symm
  · rw [if_neg h]
    rw [va_up_ne _ _ (show k ≠ (2 : Int32).toNatClampNeg from fun e => h (by rw [e]; decide)), va_up_ne _ _ (show k ≠ (1 : Int32).toNatClampNeg from fun e => h (by rw [e]; decide)), va_up_ne _ _ (show k ≠ (0 : Int32).toNatClampNeg from fun e => h (by rw [e]; decide))]
theorem upG {ad : Nat → Nat} {x0 x1 : Nat} (h0 : ad 11 = x0) (h1 : ad 12 = x1) : (va_up (va_up (fun _ => none) (0 : Int32).toNatClampNeg (some x0)) (1 : Int32).toNatClampNeg (some x1)) = (fun k => if k < 2 then some (ad (11 + k)) else none : Nat → Option Nat) := by
  funext k
  by_cases h : k < 2
  · rw [if_pos h]
    match k, h with
    | 0, _ => exact congrArg some h0.symm
    | 1, _ => exact congrArg some h1.symm
  · rw [if_neg h]
    rw [va_up_ne _ _ (show k ≠ (1 : Int32).toNatClampNeg from fun e => h (by rw [e]; decide)), va_up_ne _ _ (show k ≠ (0 : Int32).toNatClampNeg from fun e => h (by rw [e]; decide))]
theorem upS {ad : Nat → Nat} {x0 x1 x2 x3 x4 x5 x6 : Nat} (h0 : ad 26 = x0) (h1 : ad 41 = x1) (h2 : ad 56 = x2) (h3 : ad 71 = x3) (h4 : ad 86 = x4) (h5 : ad 101 = x5) (h6 : ad 116 = x6) : (va_up (va_up (va_up (va_up (va_up (va_up (va_up (fun _ => none) (0 : Int32).toNatClampNeg (some x0)) (1 : Int32).toNatClampNeg (some x1)) (2 : Int32).toNatClampNeg (some x2)) (3 : Int32).toNatClampNeg (some x3)) (4 : Int32).toNatClampNeg (some x4)) (5 : Int32).toNatClampNeg (some x5)) (6 : Int32).toNatClampNeg (some x6)) = (fun k => if k < 7 then some (ad (26 + 15 * k)) else none : Nat → Option Nat) := by
  funext k
  by_cases h : k < 7
  · rw [if_pos h]
    match k, h with
    | 0, _ => exact congrArg some h0.symm
    | 1, _ => exact congrArg some h1.symm
    | 2, _ => exact congrArg some h2.symm
    | 3, _ => exact congrArg some h3.symm
    | 4, _ => exact congrArg some h4.symm
    | 5, _ => exact congrArg some h5.symm
    | 6, _ => exact congrArg some h6.symm
  · rw [if_neg h]
    rw [va_up_ne _ _ (show k ≠ (6 : Int32).toNatClampNeg from fun e => h (by rw [e]; decide)), va_up_ne _ _ (show k ≠ (5 : Int32).toNatClampNeg from fun e => h (by rw [e]; decide)), va_up_ne _ _ (show k ≠ (4 : Int32).toNatClampNeg from fun e => h (by rw [e]; decide)), va_up_ne _ _ (show k ≠ (3 : Int32).toNatClampNeg from fun e => h (by rw [e]; decide)), va_up_ne _ _ (show k ≠ (2 : Int32).toNatClampNeg from fun e => h (by rw [e]; decide)), va_up_ne _ _ (show k ≠ (1 : Int32).toNatClampNeg from fun e => h (by rw [e]; decide)), va_up_ne _ _ (show k ≠ (0 : Int32).toNatClampNeg from fun e => h (by rw [e]; decide))]
set_option maxRecDepth 100000 in
theorem c_SR_new (G : jG) (a : Nat) : jCon G m_SR_init y_SR_init 3 130 1917 [.ref a] [(a, .inr (0, [.null, .null, .null]))] (fun r w => r = (.inl none : jR) ∧ ∃ ad : Nat → Nat, ad 0 = a ∧ isSR.map (fun i => w[i]?) = (mkC ad G u0).map some) := by
  refine jCon.post (c_SR_init G a) ?_
  intro r w h
  obtain ⟨h1, q1, q2, q3, q4, q5, q6, q7, q8, q9, q10, q11, q12, e1, hw⟩ := h
  refine ⟨h1, (fun k => ([a, q3, q4, q1, q2, q5, q6, q7, q8, q9, (e1 9), q10, q11, q12, (e1 1), (e1 2), (e1 3), (e1 4), (e1 5), (e1 6), (e1 7), (e1 10), (e1 11), (e1 12), (e1 13), (e1 8), (e1 14), (e1 15), (e1 16), (e1 17), (e1 18), (e1 19), (e1 20), (e1 21), (e1 22), (e1 23), (e1 24), (e1 25), (e1 26), (e1 27), (e1 28), (e1 29), (e1 30), (e1 31), (e1 32), (e1 33), (e1 34), (e1 35), (e1 36), (e1 37), (e1 38), (e1 39), (e1 40), (e1 41), (e1 42), (e1 43), (e1 44), (e1 45), (e1 46), (e1 47), (e1 48), (e1 49), (e1 50), (e1 51), (e1 52), (e1 53), (e1 54), (e1 55), (e1 56), (e1 57), (e1 58), (e1 59), (e1 60), (e1 61), (e1 62), (e1 63), (e1 64), (e1 65), (e1 66), (e1 67), (e1 68), (e1 69), (e1 70), (e1 71), (e1 72), (e1 73), (e1 74), (e1 75), (e1 76), (e1 77), (e1 78), (e1 79), (e1 80), (e1 81), (e1 82), (e1 83), (e1 84), (e1 85), (e1 86), (e1 87), (e1 88), (e1 89), (e1 90), (e1 91), (e1 92), (e1 93), (e1 94), (e1 95), (e1 96), (e1 97), (e1 98), (e1 99), (e1 100), (e1 101), (e1 102), (e1 103), (e1 104), (e1 105), (e1 106), (e1 107), (e1 108), (e1 109), (e1 110), (e1 111), (e1 112), (e1 113), (e1 114), (e1 115), (e1 116), (e1 117), (e1 118)] : List Nat).getD k 0), rfl, ?_⟩
  generalize had : (fun k => ([a, q3, q4, q1, q2, q5, q6, q7, q8, q9, (e1 9), q10, q11, q12, (e1 1), (e1 2), (e1 3), (e1 4), (e1 5), (e1 6), (e1 7), (e1 10), (e1 11), (e1 12), (e1 13), (e1 8), (e1 14), (e1 15), (e1 16), (e1 17), (e1 18), (e1 19), (e1 20), (e1 21), (e1 22), (e1 23), (e1 24), (e1 25), (e1 26), (e1 27), (e1 28), (e1 29), (e1 30), (e1 31), (e1 32), (e1 33), (e1 34), (e1 35), (e1 36), (e1 37), (e1 38), (e1 39), (e1 40), (e1 41), (e1 42), (e1 43), (e1 44), (e1 45), (e1 46), (e1 47), (e1 48), (e1 49), (e1 50), (e1 51), (e1 52), (e1 53), (e1 54), (e1 55), (e1 56), (e1 57), (e1 58), (e1 59), (e1 60), (e1 61), (e1 62), (e1 63), (e1 64), (e1 65), (e1 66), (e1 67), (e1 68), (e1 69), (e1 70), (e1 71), (e1 72), (e1 73), (e1 74), (e1 75), (e1 76), (e1 77), (e1 78), (e1 79), (e1 80), (e1 81), (e1 82), (e1 83), (e1 84), (e1 85), (e1 86), (e1 87), (e1 88), (e1 89), (e1 90), (e1 91), (e1 92), (e1 93), (e1 94), (e1 95), (e1 96), (e1 97), (e1 98), (e1 99), (e1 100), (e1 101), (e1 102), (e1 103), (e1 104), (e1 105), (e1 106), (e1 107), (e1 108), (e1 109), (e1 110), (e1 111), (e1 112), (e1 113), (e1 114), (e1 115), (e1 116), (e1 117), (e1 118)] : List Nat).getD k 0) = ad
  rw [upF (ad := ad) (x0 := q4) (x1 := q1) (x2 := q2) (by rw [← had]; rfl) (by rw [← had]; rfl) (by rw [← had]; rfl), upG (ad := ad) (x0 := q10) (x1 := q11) (by rw [← had]; rfl) (by rw [← had]; rfl), upS (ad := ad) (x0 := e1 14) (x1 := e1 29) (x2 := e1 44) (x3 := e1 59) (x4 := e1 74) (x5 := e1 89) (x6 := e1 104) (by rw [← had]; rfl) (by rw [← had]; rfl) (by rw [← had]; rfl) (by rw [← had]; rfl) (by rw [← had]; rfl) (by rw [← had]; rfl) (by rw [← had]; rfl)] at hw
  subst had
  subst hw
  rfl
