/-! ===== the heap: fields, arrays ===== -/
section JH
variable {G : jG} {M : jM} {d mc ms : Nat} {P : jR → va_W → Prop} {pc : Nat} {lv : List (Nat × Value)} {st : List Value} {ws : va_W} {k n : Nat}
/-- field number kf of the objects of class number ci, by the entry ix of the class own -/
def jFl (own : String) (ix ci kf : Nat) : Prop := ∃ (C : String) (T : u_T) (N : Nat) (ref : String), vwCl[ci]? = some (C, T, N) ∧ kf < N ∧ (∀ w ∈ u_ws C T N, w ∈ jWS) ∧ Cond.fieldLink own ix ref (T kf).2.1 (T kf).2.2.1 ∈ jWS ∧ (ref = (T kf).1 ∨ Cond.sameField ref (T kf).1 (T kf).2.1 (T kf).2.2.1 ∈ jWS)
theorem j_get {ix ci kf a : Nat} {fs : List Value} {v : Value} (F : jFl M.1 ix ci kf) (q0 : Nat) (hd : decode M.2.1 pc = .ok (.getfield ix, 3)) (he : ws[q0]? = some (a, .inr (ci, fs))) (hv : fs[kf]? = some v) (kk : J G M d mc ms P (pc + 3) lv (v :: st) ws k n) : J G M d mc ms P pc lv (.ref a :: st) ws k n :=
  fun p l e s m args below meth c D A C H locs ls hP hD hS hl => by
    obtain ⟨C0, T0, N0, ref, f1, f2, f3, f4, f5⟩ := F
    have hts := C.2.2.2.2.1
    refine va_get C.1 C.2.1 hts f3 C.2.2.2.1 C.2.2.2.2.2.1.1 hP q0 he f1 kf f2 (hts _ f4) ?_ hv hd (kk p l e s m args below meth c D A C H locs ls hP hD hS hl)
    intro x h9
    rcases f5 with f5 | f5
    · rw [f5]; exact h9
    · exact u_same (hts _ f5) x h9
/-- it may be written: by anyone, or, final, by a constructor of its class -/
def jFp (own nm : String) (ix ci kf : Nat) (ty : FieldType) : Prop := jFl own ix ci kf ∧ ∃ (C : String) (T : u_T) (N : Nat) (ty0 : Nat → FieldType), vwCl[ci]? = some (C, T, N) ∧ (∀ k, k < N → parseFieldDescriptor (T k).2.2.1 = some (ty0 k)) ∧ (∀ a, a < N → ∀ b, b < N → a ≠ b → (T a).2.1 ≠ (T b).2.1) ∧ ty0 kf = ty ∧ ((T kf).2.2.2 = false ∨ ((T kf).2.2.2 = true ∧ nm = "<init>" ∧ (T kf).1 = own))
theorem j_put {ix ci kf a : Nat} {fs : List Value} {v : Value} {ty : FieldType} {ws' : va_W} (F : jFp M.1 M.2.2.2.2.1 ix ci kf ty) (q0 : Nat) (hd : decode M.2.1 pc = .ok (.putfield ix, 3)) (he : ws[q0]? = some (a, .inr (ci, fs))) (hn : narrow ty v = v) (hfit : fits ty v = true) (hl0 : kf < fs.length) (hw : ws.set q0 (a, .inr (ci, fs.set kf v)) = ws') (kk : J G M d mc ms P (pc + 3) lv st ws' k n) : J G M d mc ms P pc lv (v :: .ref a :: st) ws k n :=
  fun p l e s m args below meth c D A C H locs ls hP hD hS hl => by
    subst hw
    obtain ⟨⟨C0, T0, N0, ref, f1, f2, f3, f4, f5⟩, C1, T1, N1, ty0, g1, g2, g3, g4, g5⟩ := F
    cases Option.some.inj (f1.symm.trans g1)
    have hts := C.2.2.2.2.1
    have hsame : ∀ x, s.fieldFound? (T0 kf).1 (T0 kf).2.1 (T0 kf).2.2.1 = some x → s.fieldFound? ref (T0 kf).2.1 (T0 kf).2.2.1 = some x := by
      intro x h9
      rcases f5 with f5 | f5
      · rw [f5]; exact h9
      · exact u_same (hts _ f5) x h9
    have hty : parseFieldDescriptor (T0 kf).2.2.1 = some ty := by rw [g2 kf f2, g4]
    rcases g5 with g5 | ⟨g5, g6, g7⟩
    · exact va_put C.1 C.2.1 hts f3 ty0 g2 g3 C.2.2.2.1 C.2.2.2.2.2.1.1 hP hD hS q0 he f1 kf f2 (hts _ f4) hsame g5 hty hn hfit hl0 hd (fun H1 locs1 hP1 hD1 hS1 => kk p l e s m args below meth c D A C H1 locs1 ls hP1 hD1 hS1 hl)
    · exact va_putF C.1 C.2.1 hts f3 ty0 g2 g3 C.2.2.2.1 C.2.2.2.2.2.1.1 hP hD hS q0 he f1 kf f2 (hts _ f4) hsame g5 (by rw [C.2.2.2.2.2.2.2.2.2.2.1]; exact g6) g7 hty hn hfit hl0 hd (fun H1 locs1 hP1 hD1 hS1 => kk p l e s m args below meth c D A C H1 locs1 ls hP1 hD1 hS1 hl)
theorem j_iald {a N : Nat} {f : Nat → Int32} {i : Int32} (q0 : Nat) (hd : decode M.2.1 pc = .ok (.iaload, 1)) (ha : ws[q0]? = some (a, .inl (G.1 0, N, .inl f))) (hin : vp_in i N) (kk : J G M d mc ms P (pc + 1) lv (.int (f i.toNatClampNeg) :: st) ws k n) : J G M d mc ms P pc lv (.int i :: .ref a :: st) ws k n :=
  fun p l e s m args below meth c D A C H locs ls hP hD hS hl => va_iald C.1 C.2.1 C.2.2.2.2.2.1.1 hP q0 0 ha rfl hin hd (kk p l e s m args below meth c D A C H locs ls hP hD hS hl)
theorem j_iast {a N : Nat} {f : Nat → Int32} {i x : Int32} {ws' : va_W} (q0 : Nat) (hd : decode M.2.1 pc = .ok (.iastore, 1)) (ha : ws[q0]? = some (a, .inl (G.1 0, N, .inl f))) (hin : vp_in i N) (hw : ws.set q0 (a, .inl (G.1 0, N, .inl (upd f i.toNatClampNeg x))) = ws') (kk : J G M d mc ms P (pc + 1) lv st ws' k n) : J G M d mc ms P pc lv (.int x :: .int i :: .ref a :: st) ws k n :=
  fun p l e s m args below meth c D A C H locs ls hP hD hS hl => by
    subst hw
    exact va_iast C.1 C.2.1 C.2.2.2.2.2.1.1 hP hD hS q0 0 ha rfl hin hd (fun H1 locs1 hP1 hD1 hS1 => kk p l e s m args below meth c D A C H1 locs1 ls hP1 hD1 hS1 hl)
theorem j_bald {a N : Nat} {f : Nat → Int32} {i : Int32} (q0 : Nat) (hd : decode M.2.1 pc = .ok (.baload, 1)) (ha : ws[q0]? = some (a, .inl (G.1 1, N, .inl f))) (hin : vp_in i N) (kk : J G M d mc ms P (pc + 1) lv (.int (f i.toNatClampNeg) :: st) ws k n) : J G M d mc ms P pc lv (.int i :: .ref a :: st) ws k n :=
  fun p l e s m args below meth c D A C H locs ls hP hD hS hl => va_bald C.1 C.2.1 C.2.2.2.2.2.1.1 hP q0 1 ha rfl hin hd (kk p l e s m args below meth c D A C H locs ls hP hD hS hl)
theorem j_bast {a N : Nat} {f : Nat → Int32} {i x : Int32} {ws' : va_W} (q0 : Nat) (hd : decode M.2.1 pc = .ok (.bastore, 1)) (ha : ws[q0]? = some (a, .inl (G.1 1, N, .inl f))) (hin : vp_in i N) (hw : ws.set q0 (a, .inl (G.1 1, N, .inl (upd f i.toNatClampNeg x.toInt8.toInt32))) = ws') (kk : J G M d mc ms P (pc + 1) lv st ws' k n) : J G M d mc ms P pc lv (.int x :: .int i :: .ref a :: st) ws k n :=
  fun p l e s m args below meth c D A C H locs ls hP hD hS hl => by
    subst hw
    refine va_bast C.1 C.2.1 C.2.2.2.2.2.1.1 hP hD hS q0 1 ha rfl hin hd (fun H1 locs1 hP1 hD1 hS1 => ?_)
    rw [vp_nar_byte] at hP1 hD1
    exact kk p l e s m args below meth c D A C H1 locs1 ls hP1 hD1 hS1 hl
theorem j_lald {a N : Nat} {f : Nat → Int64} {i : Int32} (q0 : Nat) (hd : decode M.2.1 pc = .ok (.laload, 1)) (ha : ws[q0]? = some (a, .inl (G.1 2, N, .inr (.inl f)))) (hin : vp_in i N) (kk : J G M d mc ms P (pc + 1) lv (.long (f i.toNatClampNeg) :: st) ws k n) : J G M d mc ms P pc lv (.int i :: .ref a :: st) ws k n :=
  fun p l e s m args below meth c D A C H locs ls hP hD hS hl => va_lald C.1 C.2.1 C.2.2.2.2.2.1.1 hP q0 2 ha rfl hin hd (kk p l e s m args below meth c D A C H locs ls hP hD hS hl)
theorem j_last {a N : Nat} {f : Nat → Int64} {i : Int32} {x : Int64} {ws' : va_W} (q0 : Nat) (hd : decode M.2.1 pc = .ok (.lastore, 1)) (ha : ws[q0]? = some (a, .inl (G.1 2, N, .inr (.inl f)))) (hin : vp_in i N) (hw : ws.set q0 (a, .inl (G.1 2, N, .inr (.inl (vp_updL f i.toNatClampNeg x)))) = ws') (kk : J G M d mc ms P (pc + 1) lv st ws' k n) : J G M d mc ms P pc lv (.long x :: .int i :: .ref a :: st) ws k n :=
  fun p l e s m args below meth c D A C H locs ls hP hD hS hl => by
    subst hw
    exact va_last C.1 C.2.1 C.2.2.2.2.2.1.1 hP hD hS q0 2 ha rfl hin hd (fun H1 locs1 hP1 hD1 hS1 => kk p l e s m args below meth c D A C H1 locs1 ls hP1 hD1 hS1 hl)
theorem j_lcmp {x y : Int64} (hd : decode M.2.1 pc = .ok (.lcmp, 1)) (kk : J G M d mc ms P (pc + 1) lv (.int (lg_cmp x y) :: st) ws k n) : J G M d mc ms P pc lv (.long y :: .long x :: st) ws k n :=
  fun p l e s m args below meth c D A C H locs ls hP hD hS hl => W.lcmp C.1 C.2.1 hd (kk p l e s m args below meth c D A C H locs ls hP hD hS hl)
/-- an array of objects (t0: 3, 4, 5) or of arrays of ints (6) -/
theorem j_aald {a N t0 : Nat} {ty : FieldType} {f : Nat → Option Nat} {i : Int32} {v : Nat} (q0 : Nat) (hd : decode M.2.1 pc = .ok (.aaload, 1)) (ha : ws[q0]? = some (a, .inl (G.1 t0, N, .inr (.inr (.inr (.inr f)))))) (ht : (jT G)[t0]? = some (G.1 t0, ty)) (hty : ty.isReference = true) (hin : vp_in i N) (hv : f i.toNatClampNeg = some v) (kk : J G M d mc ms P (pc + 1) lv (.ref v :: st) ws k n) : J G M d mc ms P pc lv (.int i :: .ref a :: st) ws k n :=
  fun p l e s m args below meth c D A C H locs ls hP hD hS hl => by
    have hlt : i.toNatClampNeg < N := Nat.not_le.mp fun q => hin (Or.inr q)
    refine W.aald (v := .ref v) (ty := ty) C.1 C.2.1 (hP q0 _ ha) ((C.2.2.2.2.2.1.1.2 t0 _ ht).1 N (fun j => va_rf (f j))) hty (fun q => by cases q) (by show ¬ (i < 0 ∨ (arrV _ _ _).slots.size ≤ _); rw [arrV_size]; exact hin) (by show (arrV _ _ _).slots[_]? = _; rw [arrV_read _ _ hlt, hv]; rfl) rfl rfl hd (kk p l e s m args below meth c D A C H locs ls hP hD hS hl)
theorem j_alen {a t0 : Nat} {ty : FieldType} {x : vp_A} {v : Int32} (q0 : Nat) (hd : decode M.2.1 pc = .ok (.arraylength, 1)) (ha : ws[q0]? = some (a, .inl (G.1 t0, x))) (ht : (jT G)[t0]? = some (G.1 t0, ty)) (hv : Int32.ofNat x.1 = v) (kk : J G M d mc ms P (pc + 1) lv (.int v :: st) ws k n) : J G M d mc ms P pc lv (.ref a :: st) ws k n :=
  fun p l e s m args below meth c D A C H locs ls hP hD hS hl => va_alen C.1 C.2.1 C.2.2.2.2.2.1.1 hP q0 t0 ha ht hv hd (kk p l e s m args below meth c D A C H locs ls hP hD hS hl)
/-- arrays that were there before -/
theorem j_xald {b L : Nat} {f : Nat → Int32} {i : Int32} (x0 : Nat) (hd : decode M.2.1 pc = .ok (.iaload, 1)) (hx : (jXs G)[x0]? = some (b, L, f)) (hin : vp_in i L) (kk : J G M d mc ms P (pc + 1) lv (.int (f i.toNatClampNeg) :: st) ws k n) : J G M d mc ms P pc lv (.int i :: .ref b :: st) ws k n :=
  fun p l e s m args below meth c D A C H locs ls hP hD hS hl => by
    obtain ⟨z1, z2, z3⟩ := C.2.2.2.2.2.2.1.1 x0 _ hx
    exact va_sld C.1 C.2.1 z1 z2 z3 hS hin hd (kk p l e s m args below meth c D A C H locs ls hP hD hS hl)
theorem j_xlen {b L : Nat} {f : Nat → Int32} (x0 : Nat) (hd : decode M.2.1 pc = .ok (.arraylength, 1)) (hx : (jXs G)[x0]? = some (b, L, f)) (kk : J G M d mc ms P (pc + 1) lv (.int (Int32.ofNat L) :: st) ws k n) : J G M d mc ms P pc lv (.ref b :: st) ws k n :=
  fun p l e s m args below meth c D A C H locs ls hP hD hS hl => by
    obtain ⟨z1, z2, z3⟩ := C.2.2.2.2.2.2.1.1 x0 _ hx
    exact va_slen C.1 C.2.1 z1 z2 z3 hS hd (kk p l e s m args below meth c D A C H locs ls hP hD hS hl)
end JH
