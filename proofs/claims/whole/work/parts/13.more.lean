/-! ===== making objects and arrays, tables, switches ===== -/
section JN
variable {G : jG} {M : jM} {d mc ms : Nat} {P : jR → va_W → Prop} {pc : Nat} {lv : List (Nat × Value)} {st : List Value} {ws : va_W} {k n : Nat}
theorem j_objinit {ix a : Nat} (hk : Cond.methodLink M.1 ix objectInit ∈ jWS) (hi : Cond.instanceMethod objectInit ∈ jWS) (hc : Cond.code objectInit ⟨#[0xb1]⟩ 1 none ∈ jWS) (hd : decode M.2.1 pc = .ok (.invokespecial ix, 3)) (hst : (st.map fun v => v.category).sum ≤ 8) (kk : J G M d mc ms P (pc + 3) lv st ws k n) : J G M d mc ms P pc lv (.ref a :: st) ws k n :=
  fun p l e s m args below meth c D A C H locs ls hP hD hS hl => by
    have hts := C.2.2.2.2.1
    refine W.objInit C.1 C.2.1 C.2.2.2.1 (hts _ hk) (hts _ hi) (hts _ hc) rfl (by rw [C.2.2.1]; exact hl.1) rfl hd ?_ ?_ (kk p l e s m args below meth c D A C H locs ls hP hD hS hl)
    · show 1 ≤ d + 2
      omega
    · have h8 := lv_room (m := m) (pc := pc) (ls := ls) (rest := .ref a :: st) hst
      show _ ≤ 31 * d + 60
      omega
theorem j_new {ix ci N : Nat} {C0 : String} {T0 : u_T} {ty : Nat → FieldType} {fs : List Value} (hcl : vwCl[ci]? = some (C0, T0, N)) (hin : ∀ w ∈ u_ws C0 T0 N, w ∈ jWS) (hty : ∀ k, k < N → parseFieldDescriptor (T0 k).2.2.1 = some (ty k)) (hk : Cond.classLink M.1 ix C0 ∈ jWS) (hi : Cond.instantiable C0 N ∈ jWS) (hini : Cond.initialized C0 ∈ jWS) (hfs : ∀ j, j < N → defaultValue (ty j) = vp_V fs j)
    (hd : decode M.2.1 pc = .ok (.new ix, 3)) (hc : k + 1 ≤ mc) (hs : n + N ≤ ms) (kk : ∀ q : Nat, J G M d mc ms P (pc + 3) lv (.ref q :: st) (ws ++ [(q, .inr (ci, fs))]) (k + 1) (n + N)) : J G M d mc ms P pc lv st ws k n :=
  fun p l e s m args below meth c D A C H locs ls hP hD hS hl => by
    have hts := C.2.2.2.2.1
    exact va_new C.1 C.2.1 hts hin ty hty C.2.2.2.1 (hts _ hk) (hts _ hi) (hts _ hini) C.2.2.2.2.2.1.1 hP hD hS C.2.2.2.2.2.2.2.1 hcl hfs hc hs hd (fun q H1 hP1 hD1 hS1 => kk q p l e s m args below meth c D A C H1 locs ls hP1 hD1 hS1 hl)
theorem j_newa {aty : ArrayType} {ty : FieldType} {x : Int32} {N : Nat} {a0 : vp_A} (t0 : Nat) (hat : newarray.typeOf aty = ty) (ht : (jT G)[t0]? = some (G.1 t0, ty)) (hra : ∀ (U : State) (c1 c2 : ClassId), va_RA U c1 ty → va_RA U c2 ty → c1 = c2) (harr : Cond.arrayClass ty ∈ jWS) (ha : ∀ cA : ClassId, vp_cell cA a0 = arrV cA N (fun _ => defaultValue ty)) (hn : ¬ x < 0) (hN : x.toNatClampNeg = N) (hby : N * componentBytes ty ≤ 536870912)
    (hd : decode M.2.1 pc = .ok (.newarray aty, 2)) (hc : k + 1 ≤ mc) (hs : n + N ≤ ms) (kk : ∀ q : Nat, J G M d mc ms P (pc + 2) lv (.ref q :: st) (ws ++ [(q, .inl (G.1 t0, a0))]) (k + 1) (n + N)) : J G M d mc ms P pc lv (.int x :: st) ws k n :=
  fun p l e s m args below meth c D A C H locs ls hP hD hS hl => by
    refine va_newa C.1 C.2.1 (by rw [hat]; exact C.2.2.2.2.1 _ harr) hat C.2.2.2.2.2.1.1 hP hD hS C.2.2.2.2.2.2.2.1 ha hn hN hby hc hs hd (fun q cA H1 hK1 hP1 hD1 hS1 => ?_)
    have e1 : cA = G.1 t0 := by
      have h1 := (hK1.2 (jT G).length (cA, ty) (by simp)).2
      exact hra s _ _ h1 (C.2.2.2.2.2.1.1.2 t0 _ ht).2
    subst e1
    exact kk q p l e s m args below meth c D A C H1 locs ls hP1 hD1 hS1 hl
theorem jOver {U : State} {C0 : String} (h : jW0 U) (hx : Cond.arrayOver (.object C0) ∈ lw_tbl) : va_AO C0 U := by
  obtain ⟨s0, a0, h1, h2⟩ := h
  exact va_AO.moved h2.alike (va_AO.of (h1 _ hx))
theorem j_newq {ix N : Nat} {C0 : String} {x : Int32} (t0 : Nat) (ht : (jT G)[t0]? = some (G.1 t0, .object C0)) (hk : Cond.classLink M.1 ix C0 ∈ jWS) (ho : Cond.arrayOver (.object C0) ∈ lw_tbl) (hn : ¬ x < 0) (hN : x.toNatClampNeg = N) (hby : N * 4 ≤ 536870912)
    (hd : decode M.2.1 pc = .ok (.anewarray ix, 3)) (hc : k + 1 ≤ mc) (hs : n + N ≤ ms) (kk : ∀ q : Nat, J G M d mc ms P (pc + 3) lv (.ref q :: st) (ws ++ [(q, .inl (G.1 t0, N, .inr (.inr (.inr (.inr (fun _ => none))))))]) (k + 1) (n + N)) : J G M d mc ms P pc lv (.int x :: st) ws k n :=
  fun p l e s m args below meth c D A C H locs ls hP hD hS hl => by
    refine va_newq C.1 C.2.1 C.2.2.2.1 (C.2.2.2.2.1 _ hk) (jOver C.2.2.2.2.2.1.2 ho) C.2.2.2.2.2.1.1 hP hD hS C.2.2.2.2.2.2.2.1 hn hN hby hc hs hd (fun q cA H1 hK1 hP1 hD1 hS1 => ?_)
    have e1 : cA = G.1 t0 := by
      obtain ⟨kA, comp, -, -, -, h1⟩ := (hK1.2 (jT G).length (cA, .object C0) (by simp)).2
      obtain ⟨kB, comp2, -, -, -, h2⟩ := (C.2.2.2.2.2.1.1.2 t0 _ ht).2
      exact Option.some.inj (h1.symm.trans h2)
    subst e1
    exact kk q p l e s m args below meth c D A C H1 locs ls hP1 hD1 hS1 hl
theorem jCast {U : State} {C0 E : String} (h : jW0 U) (hx : Cond.castable C0 E ∈ lw_tbl) : va_Nw (.castable C0 E) U := by
  obtain ⟨s0, a0, h1, h2⟩ := h
  exact va_Nw.warmC h2 (va_Nw.of rfl (h1 _ hx))
/-- an object into an array of its class -/
theorem j_aast {a v N ci : Nat} {r : vw_C} {vs : List Value} {f : Nat → Option Nat} {i : Int32} {ws' : va_W} (t0 q0 qk : Nat) (ht : (jT G)[t0]? = some (G.1 t0, .object r.1)) (ha : ws[q0]? = some (a, .inl (G.1 t0, N, .inr (.inr (.inr (.inr f)))))) (hv : ws[qk]? = some (v, .inr (ci, vs))) (hc : vwCl[ci]? = some r) (hin : vp_in i N) (hd : decode M.2.1 pc = .ok (.aastore, 1))
    (hw : ws.set q0 (a, .inl (G.1 t0, N, .inr (.inr (.inr (.inr (va_up f i.toNatClampNeg (some v))))))) = ws') (kk : J G M d mc ms P (pc + 1) lv st ws' k n) : J G M d mc ms P pc lv (.ref v :: .int i :: .ref a :: st) ws k n :=
  fun p l e s m args below meth c D A C H locs ls hP hD hS hl => by
    subst hw
    exact va_astq C.1 C.2.1 C.2.2.2.2.2.1.1 hP hD hS q0 t0 qk ci ha ht hv hc hin hd (fun H1 locs1 hP1 hD1 hS1 => kk p l e s m args below meth c D A C H1 locs1 ls hP1 hD1 hS1 hl)
/-- .. of a class above it -/
theorem j_aastO {a v N ci : Nat} {E : String} {r : vw_C} {vs : List Value} {f : Nat → Option Nat} {i : Int32} {ws' : va_W} (t0 q0 qk : Nat) (ht : (jT G)[t0]? = some (G.1 t0, .object E)) (hca : Cond.castable r.1 E ∈ lw_tbl) (ha : ws[q0]? = some (a, .inl (G.1 t0, N, .inr (.inr (.inr (.inr f)))))) (hv : ws[qk]? = some (v, .inr (ci, vs))) (hc : vwCl[ci]? = some r) (hin : vp_in i N) (hd : decode M.2.1 pc = .ok (.aastore, 1))
    (hw : ws.set q0 (a, .inl (G.1 t0, N, .inr (.inr (.inr (.inr (va_up f i.toNatClampNeg (some v))))))) = ws') (kk : J G M d mc ms P (pc + 1) lv st ws' k n) : J G M d mc ms P pc lv (.ref v :: .int i :: .ref a :: st) ws k n :=
  fun p l e s m args below meth c D A C H locs ls hP hD hS hl => by
    subst hw
    exact va_astqO C.1 C.2.1 C.2.2.2.2.2.1.1 hP hD hS q0 t0 qk ci ha ht (jCast C.2.2.2.2.2.1.2 hca) hv hc hin hd (fun H1 locs1 hP1 hD1 hS1 => kk p l e s m args below meth c D A C H1 locs1 ls hP1 hD1 hS1 hl)
theorem jAcRoom {d : Nat} {st : List Value} (hst : (st.map fun v => v.category).sum ≤ 8) : 1 ≤ (jrm d mc ms).frames ∧ (st.map fun v => v.category).sum + (nativeFrameWords "java/lang/System" "arraycopy" 5 + 11) ≤ (jrm d mc ms).locals := by
  have h : nativeFrameWords "java/lang/System" "arraycopy" 5 + 11 ≤ 52 := by decide +kernel
  constructor
  · show 1 ≤ d + 2
    omega
  · show _ ≤ 31 * d + 60
    omega
/-- System.arraycopy of ints within the world -/
theorem j_copy {ix a0 a1 n0 n1 : Nat} {f g : Nat → Int32} {sp dp x : Int32} {ws' : va_W} (q0 q1 : Nat) (hk : Cond.methodLink M.1 ix arraycopyName ∈ jWS) (hnat : Cond.native arraycopyName ∈ jWS) (hsta : Cond.static arraycopyName ∈ jWS) (hini : Cond.initialized "java/lang/System" ∈ jWS) (ha0 : ws[q0]? = some (a0, .inl (G.1 0, n0, .inl f))) (ha1 : ws[q1]? = some (a1, .inl (G.1 0, n1, .inl g))) (h1 : ¬ sp < 0) (h2 : ¬ dp < 0) (h3 : ¬ x < 0) (h4 : sp.toNatClampNeg + x.toNatClampNeg ≤ n0) (h5 : dp.toNatClampNeg + x.toNatClampNeg ≤ n1)
    (hst : (st.map fun v => v.category).sum ≤ 8) (hd : decode M.2.1 pc = .ok (.invokestatic ix, 3)) (hw : ws.set q1 (a1, .inl (G.1 0, n1, .inl (va_cpy f g sp.toNatClampNeg dp.toNatClampNeg x.toNatClampNeg))) = ws') (kk : J G M d mc ms P (pc + 3) lv st ws' k n) : J G M d mc ms P pc lv (.int x :: .int dp :: .ref a1 :: .int sp :: .ref a0 :: st) ws k n :=
  fun p l e s m args below meth c D A C H locs ls hP hD hS hl => by
    subst hw
    have hts := C.2.2.2.2.1
    have hR := jAcRoom (mc := mc) (ms := ms) (d := d) hst
    exact va_copyi C.1 C.2.1 (by rw [C.2.2.1]; exact hl.1.symm) C.2.2.2.1 (hts _ hk) (hts _ hnat) (hts _ hsta) (hts _ hini) C.2.2.2.2.2.1.1 hP hD hS q0 q1 0 0 ha0 ha1 rfl rfl rfl h1 h2 h3 h4 h5 (fun _ _ => rfl) hR.1 hR.2 hd (fun H1 locs1 hP1 hD1 hS1 => kk p l e s m args below meth c D A C H1 locs1 ls hP1 hD1 hS1 hl)
/-- .. from a table that was there before -/
theorem j_copyx {ix b0 a1 n0 n1 : Nat} {f g : Nat → Int32} {sp dp x : Int32} {ws' : va_W} (x0 q1 : Nat) (hk : Cond.methodLink M.1 ix arraycopyName ∈ jWS) (hnat : Cond.native arraycopyName ∈ jWS) (hsta : Cond.static arraycopyName ∈ jWS) (hini : Cond.initialized "java/lang/System" ∈ jWS) (hx0 : (jXs G)[x0]? = some (b0, n0, f)) (ha1 : ws[q1]? = some (a1, .inl (G.1 0, n1, .inl g))) (h1 : ¬ sp < 0) (h2 : ¬ dp < 0) (h3 : ¬ x < 0) (h4 : sp.toNatClampNeg + x.toNatClampNeg ≤ n0) (h5 : dp.toNatClampNeg + x.toNatClampNeg ≤ n1)
    (hst : (st.map fun v => v.category).sum ≤ 8) (hd : decode M.2.1 pc = .ok (.invokestatic ix, 3)) (hw : ws.set q1 (a1, .inl (G.1 0, n1, .inl (va_cpy f g sp.toNatClampNeg dp.toNatClampNeg x.toNatClampNeg))) = ws') (kk : J G M d mc ms P (pc + 3) lv st ws' k n) : J G M d mc ms P pc lv (.int x :: .int dp :: .ref a1 :: .int sp :: .ref b0 :: st) ws k n :=
  fun p l e s m args below meth c D A C H locs ls hP hD hS hl => by
    subst hw
    have hts := C.2.2.2.2.1
    have hR := jAcRoom (mc := mc) (ms := ms) (d := d) hst
    obtain ⟨z1, z2, z3⟩ := C.2.2.2.2.2.2.1.1 x0 _ hx0
    exact va_copyx C.1 C.2.1 (by rw [C.2.2.1]; exact hl.1.symm) C.2.2.2.1 (hts _ hk) (hts _ hnat) (hts _ hsta) (hts _ hini) C.2.2.2.2.2.1.1 hP hD hS z1 z2 z3 q1 0 ha1 rfl h1 h2 h3 h4 h5 hR.1 hR.2 hd (fun H1 locs1 hP1 hD1 hS1 => kk p l e s m args below meth c D A C H1 locs1 ls hP1 hD1 hS1 hl)
theorem j_getsS {ix : Nat} (hk : Cond.fieldLink M.1 ix jSha "START" "[I" ∈ jWS) (hd : decode M.2.1 pc = .ok (.getstatic ix, 3)) (kk : J G M d mc ms P (pc + 3) lv (.ref (G.2.1 0) :: st) ws k n) : J G M d mc ms P pc lv st ws k n :=
  fun p l e s m args below meth c D A C H locs ls hP hD hS hl => va_gets C.1 C.2.1 C.2.2.2.2.2.2.1.2.1 hS C.2.2.2.1 (C.2.2.2.2.1 _ hk) (fun _ h => h) hd (kk p l e s m args below meth c D A C H locs ls hP hD hS hl)
theorem j_getsK {ix : Nat} (hk : Cond.fieldLink M.1 ix jSha "ROUND_CONSTANTS" "[I" ∈ jWS) (hd : decode M.2.1 pc = .ok (.getstatic ix, 3)) (kk : J G M d mc ms P (pc + 3) lv (.ref (G.2.1 1) :: st) ws k n) : J G M d mc ms P pc lv st ws k n :=
  fun p l e s m args below meth c D A C H locs ls hP hD hS hl => va_gets C.1 C.2.1 C.2.2.2.2.2.2.1.2.2.1 hS C.2.2.2.1 (C.2.2.2.2.1 _ hk) (fun _ h => h) hd (kk p l e s m args below meth c D A C H locs ls hP hD hS hl)
theorem j_tabOut {dflt lo hi : Int} {offs : Array Int} {len tgt : Nat} {x : Int32} (hd : decode M.2.1 pc = .ok (.tableswitch dflt lo hi offs, len)) (h : x.toInt < lo ∨ hi < x.toInt) (ht : (pc : Int) + dflt = (tgt : Int)) (kk : J G M d mc ms P tgt lv st ws k n) : J G M d mc ms P pc lv (.int x :: st) ws k n :=
  fun p l e s m args below meth c D A C H locs ls hP hD hS hl => lv_tableOut C.1 C.2.1 hd h ht (kk p l e s m args below meth c D A C H locs ls hP hD hS hl)
theorem j_tabIn {dflt lo hi off : Int} {offs : Array Int} {len tgt : Nat} {x : Int32} (hd : decode M.2.1 pc = .ok (.tableswitch dflt lo hi offs, len)) (h1 : ¬ x.toInt < lo) (h2 : ¬ hi < x.toInt) (ho : offs[(x.toInt - lo).toNat]? = some off) (ht : (pc : Int) + off = (tgt : Int)) (kk : J G M d mc ms P tgt lv st ws k n) : J G M d mc ms P pc lv (.int x :: st) ws k n :=
  fun p l e s m args below meth c D A C H locs ls hP hD hS hl => lv_tableIn C.1 C.2.1 hd h1 h2 ho ht (kk p l e s m args below meth c D A C H locs ls hP hD hS hl)
end JN
