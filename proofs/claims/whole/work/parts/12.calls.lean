/-! ===== contracts over J, and calls ===== -/
def jPc (G : jG) (D : va_G) (As : List Value) (ws : va_W) (sz : Nat) : Array Value → State → Prop :=
  va_Pc As (fun U => U.heap.size = sz ∧ va_P D vwCl ws U.heap ∧ va_D (fun _ => True) ws ∧ jK G D U ∧ jZ G (va_A ws sz) U U.heap)
def jcw (M : jM) (y : MethodName) : Cond := Cond.code y M.2.1 M.2.2.1 M.2.2.2.1
def jCon (G : jG) (M : jM) (y : MethodName) (d mc ms : Nat) (As : List Value) (ws : va_W) (P : jR → va_W → Prop) : Prop :=
  ∀ (l : Launch) (D : va_G) (sz : Nat), l.stackTraces = false → jMet l y (jcw M y :: jWS) (jrm d mc ms) (jPc G D As ws sz) (jPost P D (va_A ws sz)) mc ms (va_A ws sz)
/-- it answers v, and the world is w then -/
def jEq (v : Option Value) (w : va_W) : jR → va_W → Prop := fun r w' => r = .inl v ∧ w' = w
/-- it throws an E -/
def jTw (E : String) (w : va_W) : jR → va_W → Prop := fun r w' => r = .inr E ∧ w' = w
theorem jPc.blind {G : jG} {D : va_G} {As : List Value} {ws : va_W} {sz : Nat} : FrameBlind (jPc G D As ws sz) := fun a U g mk q => by
  obtain ⟨q0, q1, qP, qD, qK, qZ⟩ := q
  exact ⟨q0, q1, qP, qD, jK.moved (u := U) (U := U.calling g mk a) (State.WarmedH.refl U) qK, jZ.moved (u := U) (U := U.calling g mk a) (Vm.Alike.refl U.vm) qZ⟩
/-- what is old stays, as far as a callee may see it -/
theorem jZ.pass {G : jG} {A : Nat → Prop} {s U : State} {H : Heap} {locs : List Loc} {ws : va_W} (hZ : jZ G A s s.heap) (hA : ∀ q, s.heap.size ≤ q → A q) (hD : va_D A ws) (hS : va_S A s.heap H locs) (hU : U.heap = H) (hW : s.WarmedH U.vm) : jZ G (va_A ws H.size) U U.heap := by
  rw [hU]
  refine jZ.narrow (A := A) ?_ (jZ.moved hW.alike (jZ.kept hZ hS.1 hS.2.1))
  intro q hq
  rcases hq with ⟨k, e, h⟩ | h
  · exact hD.2 k (q, e) h
  · exact hA q (Nat.le_trans hS.1 h)
theorem jPc.at {G : jG} {A : Nat → Prop} {D : va_G} {s U : State} {H : Heap} {locs : List Loc} {ws : va_W} {As : List Value} (hK : jK G D s) (hZ : jZ G A s s.heap) (hA : ∀ q, s.heap.size ≤ q → A q) (hP : va_P D vwCl ws H) (hD : va_D A ws) (hS : va_S A s.heap H locs) (hU : U.heap = H) (hW : s.WarmedH U.vm) : jPc G D As ws H.size As.toArray U :=
  ⟨rfl, by rw [hU], by rw [hU]; exact hP, hD.weaken (fun _ _ _ _ => trivial), jK.moved hW hK, jZ.pass hZ hA hD hS hU hW⟩
theorem jMet.toMet {l : Launch} {y : MethodName} {ws : List Cond} {rm : Room} {Pc : Array Value → State → Prop} {Qc : Array Value → State → Outcome → State → Prop} {mc ms : Nat} {free : Addr → Prop} (hM : jMet l y ws rm Pc Qc mc ms free) (hr : ∀ a st o t, Qc a st o t → ∃ v, o = .returned v) : Met l y ws rm Pc Qc mc ms free := by
  intro p e ha hc hk s m args below hf happ hP hK
  obtain ⟨k, o, h1, h2, h3, h4, L, h5, h6⟩ := hM p e ha hc hk s m args below hf happ hP hK
  exact ⟨k, o, h1, h2, h3, h4, L, ⟨hr _ _ _ _ h4, h5⟩, h6⟩
theorem jMet.of {l : Launch} {y : MethodName} {ws : List Cond} {rm : Room} {Pc : Array Value → State → Prop} {Qc : Array Value → State → Outcome → State → Prop} {mc ms : Nat} {free : Addr → Prop} {cc : ByteArray} {maxL : Nat} {ret : Option FieldType}
    (hy : plainFor y = true) (his : ∀ args (s : State) m, (allAtoms ws).before args s = true → s.methodNamed? y = some m → ∃ meth c, s.vm.method? m = some meth ∧ meth.code = some c ∧ c.code = cc ∧ c.maxLocals = maxL ∧ meth.sig.returnType = ret ∧ meth.locks = false)
    (body : ∀ p e s m args below meth c s₁, BodyLoose p l y (headSpec ws rm) cc maxL ret e s m args below meth c s₁ → c.maxLocals = maxL → Pc args s → meth.code = some c →
      W p l e rm s m args below meth c s.heap [] 0 0 (jMQ below Qc args s mc ms free) (entryFrame m args maxL)) : jMet l y ws rm Pc Qc mc ms free := by
  refine MetFree.of_bodySF (code := cc) (maxLocals := maxL) (ret := ret) hy his (fun p e s m args below meth c s₁ B hml hP _ => ?_)
  have X := Stand.of_body B
  obtain ⟨t, a1, o, b1⟩ := body p e s m args below meth c s₁ B hml hP X.code s₁ (by rw [B.state]; rfl) X
  exact ⟨t, o, a1, b1⟩
/-- no cell of a world holds a class's statics -/
theorem jNS {D : va_G} {ws : va_W} {H : Heap} (hP : va_P D vwCl ws H) : ∀ q, va_A ws H.size q → ∀ cell : Cell, H[q]? = some cell → cell.vm.isStatics = false := by
  intro q hq cell hc
  rcases hq with ⟨k, e, h⟩ | h
  · have h1 := hP k (q, e) h
    cases e with
    | inl x =>
      have h2 : H[q]? = some (vp_cell x.1 x.2) := h1
      rw [h2] at hc
      cases Option.some.inj hc
      obtain ⟨cA, nn, f | f | f | f | f⟩ := x <;> rfl
    | inr o =>
      obtain ⟨r, -, cell', g1, g2, g3, -⟩ := h1
      have h3 : H[q]? = some cell' := g1
      rw [h3] at hc
      cases Option.some.inj hc
      rw [g3]; rfl
  · rw [Array.getElem?_eq_none h] at hc
    cases hc
/-- a contract out of a walk -/
theorem jCon.of {G : jG} {M : jM} {y : MethodName} {d mc ms : Nat} {As : List Value} {ws : va_W} {P : jR → va_W → Prop} {lv : List (Nat × Value)} (hy : plainFor y = true) (hc : M.1 = y.cls) (hnm : M.2.2.2.2.1 = y.name) (hh : M.2.2.2.2.2 = []) (hlen : (lg_sl As).length ≤ M.2.2.1) (hlv : lv_args 0 As = lv)
    (body : J G M d mc ms P 0 lv [] ws 0 0) : jCon G M y d mc ms As ws P := by
  intro l D sz hl
  have hhead : ∀ (args : Array Value) (s : State) (m : MethodId), (allAtoms (jcw M y :: jWS)).before args s = true → s.methodNamed? y = some m → ∃ meth c, s.vm.method? m = some meth ∧ meth.code = some c ∧ c.code = M.2.1 ∧ c.maxLocals = M.2.2.1 ∧ meth.sig.returnType = M.2.2.2.1 ∧ meth.locks = false ∧ c.exceptionTable.isEmpty = true := fun args s m h hn => by
    obtain ⟨meth, c, h1, h2, h3, h4, h5, h6, h7, -⟩ := Cond.code_spec hn (atoms_spec (ws := jcw M y :: jWS) h _ List.mem_cons_self)
    exact ⟨meth, c, h1, h2, h3, h4, h5, h6, h7⟩
  refine jMet.of (cc := M.2.1) (maxL := M.2.2.1) (ret := M.2.2.2.1) hy (fun args s m h hn => ?_) (fun p e s m args below meth c s₁ B hml hv hcode => ?_)
  · obtain ⟨meth, c, h1, h2, h3, h4, h5, h6, -⟩ := hhead args s m h hn
    exact ⟨meth, c, h1, h2, h3, h4, h5, h6⟩
  · obtain ⟨rfl, hsz, hP, hD, hK, hZ⟩ := hv
    subst hsz
    have hx : c.exceptionTable.toList.map (fun h => (h.startPc, h.endPc, h.handlerPc, h.catchType)) = M.2.2.2.2.2 := by
      obtain ⟨meth9, c9, h1, h2, -, -, -, -, h7⟩ := hhead _ s m B.pre B.named
      cases Option.some.inj (h1.symm.trans B.method)
      cases Option.some.inj (h2.symm.trans hcode)
      rw [hh, Array.isEmpty_iff.mp h7]; rfl
    have hl0 := lv_entry As (n := M.2.2.1) hlen
    rw [lg_entry_eq]
    rw [hlv] at hl0
    exact body p l e s m As.toArray below meth c D (va_A ws s.heap.size)
      ⟨B.exec, B.bytes, hml, by rw [hc]; exact findClass_of_methodNamed B.named, fun w hw => atoms_spec (ws := jcw M y :: jWS) B.pre w (List.mem_cons_of_mem _ hw), hK, hZ, fun q h => Or.inr h, B.notSynchronized, B.returns, by rw [hnm]; exact (name_of_methodNamed B.named B.method).1, hx, hl, jNS hP⟩
      s.heap [] _ hP hD.self va_S.rf hl0
section JQ
variable {G : jG} {M : jM} {d mc ms : Nat} {P : jR → va_W → Prop} {pc : Nat} {lv : List (Nat × Value)} {st : List Value} {ws : va_W} {k n : Nat}
theorem W.mono {p : Program} {l : Launch} {e : Env} {R : Room} {s : State} {m : MethodId} {args : Array Value} {below : List Frame} {meth : Method} {c : Code} {H : Heap} {locs : List Loc} {cells slots : Nat} {Q Q' : State → Prop} {g : JFrame} (h : W p l e R s m args below meth c H locs cells slots Q g) (hQ : ∀ t, Q t → Q' t) : W p l e R s m args below meth c H locs cells slots Q' g := fun T hT X => by
  obtain ⟨t, a, b⟩ := h T hT X
  exact ⟨t, a, hQ t b⟩
theorem jMQ.of {below : List Frame} {Qc : Array Value → State → Outcome → State → Prop} {a : Array Value} {s : State} {mc ms : Nat} {free : Addr → Prop} (t : State) (h : MQ below Qc a s mc ms free t) : jMQ below Qc a s mc ms free t := by
  obtain ⟨o, h1, h2, h3, L, h4, h5⟩ := h
  exact ⟨o, h1, h2, h3, L, h4.2, h5⟩
/-- the ends -/
theorem j_iret {v : Int32} {ty : FieldType} (hd : decode M.2.1 pc = .ok (.ireturn, 1)) (hr : M.2.2.2.1 = some ty) (hn : narrow ty (.int v) = .int v) (hp : P (.inl (some (.int v))) ws) : J G M d mc ms P pc lv [.int v] ws mc ms :=
  fun p l e s m args below meth c D A C H locs ls hP hD hS hl => W.mono (W.zret C.1 C.2.1 (C.2.2.2.2.2.2.2.2.2.1.trans hr) hn (fun t ht _ => ⟨⟨.inl (some (.int v)), ws, rfl, hp, by rw [ht]; exact hP, hD⟩, hS.F ht⟩) hS.2.2 hd C.2.2.2.2.2.2.2.2.1) jMQ.of
theorem j_vret (hd : decode M.2.1 pc = .ok (.return_, 1)) (hr : M.2.2.2.1 = none) (hp : P (.inl none) ws) : J G M d mc ms P pc lv [] ws mc ms :=
  fun p l e s m args below meth c D A C H locs ls hP hD hS hl => W.mono (W.vret C.1 C.2.1 (C.2.2.2.2.2.2.2.2.2.1.trans hr) (fun t ht _ => ⟨⟨.inl none, ws, rfl, hp, by rw [ht]; exact hP, hD⟩, hS.F ht⟩) hS.2.2 hd C.2.2.2.2.2.2.2.2.1) jMQ.of
theorem j_aret {v : Nat} {rt : FieldType} (hd : decode M.2.1 pc = .ok (.areturn, 1)) (hr : M.2.2.2.1 = some rt) (hrt : (∃ n, rt = .object n) ∨ ∃ t, rt = .array t) (hp : P (.inl (some (.ref v))) ws) : J G M d mc ms P pc lv [.ref v] ws mc ms :=
  fun p l e s m args below meth c D A C H locs ls hP hD hS hl => W.mono (W.aret C.1 C.2.1 (C.2.2.2.2.2.2.2.2.2.1.trans hr) hrt (Or.inr ⟨v, rfl⟩) (fun t ht _ => ⟨⟨.inl (some (.ref v)), ws, rfl, hp, by rw [ht]; exact hP, hD⟩, hS.F ht⟩) hS.2.2 hd C.2.2.2.2.2.2.2.2.1) jMQ.of
/-- behind a call that answered -/
theorem jAfter {P' : jR → va_W → Prop} {mc' ms' : Nat} {p : Program} {l : Launch} {e : Env} {s : State} {m : MethodId} {args : Array Value} {below : List Frame} {meth : Method} {c : Code} {D : va_G} {A : Nat → Prop} {H : Heap} {locs : List Loc} {ls : Array Slot} {a : Array Value} {st0 : List Value} (C : jC G M p l s m args meth c D A) (hD : va_D A ws) (hS : va_S A s.heap H locs) (hl : lv_has ls M.2.2.1 lv)
    (hr : va_Run p l e (jrm d mc ms) s m args below meth c H locs k n mc' ms' (F0 m pc ls st0) st (jPost P' D (va_A ws H.size) a) (va_A ws H.size))
    (kk : ∀ (v : Option Value) (ws' : va_W), P' (.inl v) ws' → J G M d mc ms P (pc + 3) lv (v.toList ++ st) ws' (k + mc') (n + ms')) : W p l e (jrm d mc ms) s m args below meth c H locs k n (jMQ below (jPost P D A) args s mc ms A) (F0 m pc ls st0) := by
  have hsub : ∀ q, va_A ws H.size q → A q := by
    intro q hq
    rcases hq with ⟨k, e, h⟩ | h
    · exact hD.2 k (q, e) h
    · exact C.2.2.2.2.2.2.2.1 q (Nat.le_trans hS.1 h)
  intro T hT X
  obtain ⟨v, st₀, t, T', L, h0, X', hL, e1, e2, ⟨⟨r, ws', hout, hp, hP1, hD1⟩, hz, hk⟩, hst⟩ := hr T hT X
  rw [h0] at hz hk
  have hv : r = .inl v := by
    cases r with
    | inl v' => exact congrArg Sum.inl (Outcome.returned.inj hout).symm
    | inr E => obtain ⟨x, cell, h9, -⟩ := hout; cases h9
  subst hv
  obtain ⟨t2, a1, b1⟩ := kk v ws' hp p l e s m args below meth c D A C T'.heap (locs ++ L) ls (by rw [e1]; exact hP1) (hD1.weaken (fun _ q _ h => hsub q.1 h))
    ⟨Nat.le_trans hS.1 (by rw [e1]; exact hz), fun q h1 h2 => by rw [e1, hk q (Nat.lt_of_lt_of_le h1 hS.1) (fun z => h2 (hsub q z))]; exact hS.2.1 q h1 h2, fun q hq => by
      rcases List.mem_append.mp hq with h | h
      · exact hS.2.2 q h
      · exact hsub _ (hL q h)⟩ hl T' rfl X'
  exact ⟨t2, hst t2 a1, b1⟩
/-- what every call asks of the tables: the callee's code word, its class, how many arguments -/
def jL0 (y : MethodName) (M' : jM) (nA : Nat) : Prop := jcw M' y ∈ jWS ∧ Cond.initialized y.cls ∈ jWS ∧ (y.cls ≠ "java/lang/invoke/MethodHandle" ∧ y.cls ≠ "java/lang/invoke/VarHandle") ∧ (parseMethodDescriptor y.desc).map (fun d => d.parameters.length) = some nA ∧ M'.2.2.1 ≤ 12
theorem jL0.pay {y : MethodName} {M' : jM} {nA : Nat} (h : jL0 y M' nA) {args : Array Value} {s : State} (hts : ∀ w ∈ jWS, w.before args s = true) : ∀ w ∈ jcw M' y :: jWS, ∀ (a' : Array Value) (U : State), s.WarmedH U.vm → w.before a' U = true := by
  intro w hw a' U hW
  have hw' : w ∈ jWS := by
    rcases List.mem_cons.mp hw with h1 | h1
    · rw [h1]; exact h.1
    · exact h1
  exact word_at hW (jgood w hw') (hts w hw')
theorem jL0.len {y : MethodName} {M' : jM} {nA : Nat} (h : jL0 y M' nA) : ∀ sig, parseMethodDescriptor y.desc = some sig → nA = sig.parameters.length := by
  intro sig h1
  have h2 := h.2.2.2.1
  rw [h1] at h2
  exact (Option.some.inj h2).symm
theorem jRoom {d d' mc ms mc' ms' nL : Nat} (h : d' + 1 ≤ d) (hL : nL ≤ 12) : (jrm d' mc' ms').frames + 1 ≤ (jrm d mc ms).frames ∧ 8 + (nL + 11) + (jrm d' mc' ms').locals ≤ (jrm d mc ms).locals := by
  constructor
  · show d' + 2 + 1 ≤ d + 2
    omega
  · show 8 + (nL + 11) + (31 * d' + 60) ≤ 31 * d + 60
    omega
theorem j_callV {ix nA d' mc' ms' b ci : Nat} {y : MethodName} {M' : jM} {C0 : String} {T0 : u_T} {N0 : Nat} {fs As : List Value} {P' : jR → va_W → Prop} (K : jCon G M' y d' mc' ms' (.ref b :: As) ws P') (L : jL0 y M' nA) (hk : Cond.methodLink M.1 ix y ∈ jWS) (hi : Cond.instanceMethod y ∈ jWS) (hs : Cond.selects C0 y y ∈ jWS) (q0 : Nat) (he : ws[q0]? = some (b, .inr (ci, fs))) (hc : vwCl[ci]? = some (C0, T0, N0))
    (hd : decode M.2.1 pc = .ok (.invokevirtual ix, 3)) (hn : As.length = nA) (hst : (st.map fun v => v.category).sum ≤ 8) (hdd : d' + 1 ≤ d) (hm : k + mc' ≤ mc) (hn2 : n + ms' ≤ ms) {stk : List Value} (hstk : stk = As.reverse ++ .ref b :: st) (hnt : ∀ E w, ¬ P' (.inr E) w)
    (kk : ∀ (v : Option Value) (ws' : va_W), P' (.inl v) ws' → J G M d mc ms P (pc + 3) lv (v.toList ++ st) ws' (k + mc') (n + ms')) : J G M d mc ms P pc lv stk ws k n :=
  fun p l e s m args below meth c D A C H locs ls hP hD hS hl => by
    have hts := C.2.2.2.2.1
    have hR := jRoom (mc := mc) (ms := ms) (mc' := mc') (ms' := ms') hdd L.2.2.2.2
    refine jAfter C hD hS hl (va_runV (Ts := jWS) (nL := M.2.2.1) (As := As) (b := b) (C := C0) (n := nA) ⟨C.1, C.2.1, C.2.2.1, C.2.2.2.1, hts⟩ ((K l D H.size C.2.2.2.2.2.2.2.2.2.2.2.2.1).toMet ?_)
      ⟨⟨rfl, rfl, hR.1, hR.2, L.pay hts, List.mem_cons_self, hts _ L.1, hts _ L.2.1, L.2.2.1, L.len, hts _ hk⟩, hts _ hi, hts _ hs⟩
      ⟨jPc.blind, va_recv C.2.2.2.2.2.1.1 hP hc he, fun U hU hW => jPc.at C.2.2.2.2.2.1 C.2.2.2.2.2.2.1 C.2.2.2.2.2.2.2.1 hP hD hS hU hW⟩ rfl hn hl.1 hstk (lv_room hst) hd ⟨hm, hn2⟩) kk
    intro a st9 o t h
    obtain ⟨⟨r, w, ho, hp, -⟩, -⟩ := h
    cases r with
    | inl v => exact ⟨v, ho⟩
    | inr E => exact absurd hp (hnt E w)
theorem j_callS {ix nA d' mc' ms' : Nat} {y : MethodName} {M' : jM} {As : List Value} {P' : jR → va_W → Prop} (K : jCon G M' y d' mc' ms' As ws P') (L : jL0 y M' nA) (hk : Cond.methodLink M.1 ix y ∈ jWS) (hi : Cond.static y ∈ jWS)
    (hd : decode M.2.1 pc = .ok (.invokestatic ix, 3)) (hn : As.length = nA) (hst : (st.map fun v => v.category).sum ≤ 8) (hdd : d' + 1 ≤ d) (hm : k + mc' ≤ mc) (hn2 : n + ms' ≤ ms) {stk : List Value} (hstk : stk = As.reverse ++ st) (hnt : ∀ E w, ¬ P' (.inr E) w)
    (kk : ∀ (v : Option Value) (ws' : va_W), P' (.inl v) ws' → J G M d mc ms P (pc + 3) lv (v.toList ++ st) ws' (k + mc') (n + ms')) : J G M d mc ms P pc lv stk ws k n :=
  fun p l e s m args below meth c D A C H locs ls hP hD hS hl => by
    have hts := C.2.2.2.2.1
    have hR := jRoom (mc := mc) (ms := ms) (mc' := mc') (ms' := ms') hdd L.2.2.2.2
    refine jAfter C hD hS hl (va_runS (Ts := jWS) (nL := M.2.2.1) (As := As) (n := nA) ⟨C.1, C.2.1, C.2.2.1, C.2.2.2.1, hts⟩ ((K l D H.size C.2.2.2.2.2.2.2.2.2.2.2.2.1).toMet ?_)
      ⟨⟨rfl, rfl, hR.1, hR.2, L.pay hts, List.mem_cons_self, hts _ L.1, hts _ L.2.1, L.2.2.1, L.len, hts _ hk⟩, hts _ hi⟩
      ⟨jPc.blind, fun U hU hW => jPc.at C.2.2.2.2.2.1 C.2.2.2.2.2.2.1 C.2.2.2.2.2.2.2.1 hP hD hS hU hW⟩ rfl hn hl.1 hstk (lv_room hst) hd ⟨hm, hn2⟩) kk
    intro a st9 o t h
    obtain ⟨⟨r, w, ho, hp, -⟩, -⟩ := h
    cases r with
    | inl v => exact ⟨v, ho⟩
    | inr E => exact absurd hp (hnt E w)
theorem jDecl {U : State} {x : MethodName} (h : jW0 U) (hx : Cond.declares x ∈ lw_tbl) : va_Decl U x := by
  obtain ⟨s0, a0, h1, h2⟩ := h
  exact va_Decl.abs (va_Nw.warmD h2 (va_Nw.of rfl (h1 _ hx)))
theorem jNest {U : State} {x : MethodName} {own host : String} {ix : Nat} {a : Array Value} (h : jW0 U) (hx : Cond.methodLinkNest own ix x host ∈ lw_tbl) : (Cond.methodLinkNest own ix x host).before a U = true := by
  obtain ⟨s0, a0, h1, h2⟩ := h
  exact va_Nw.use rfl (va_Nw.warmM h2 (va_Nw.of rfl (h1 _ hx)))
theorem j_callU {ix nA d' mc' ms' b ci : Nat} {x y : MethodName} {M' : jM} {C0 : String} {T0 : u_T} {N0 : Nat} {fs As : List Value} {P' : jR → va_W → Prop} (K : jCon G M' y d' mc' ms' (.ref b :: As) ws P') (L : jL0 y M' nA) (hk : Cond.methodLink M.1 ix x ∈ jWS) (hx : x.name = y.name ∧ x.desc = y.desc ∧ (x.cls ≠ "java/lang/invoke/MethodHandle" ∧ x.cls ≠ "java/lang/invoke/VarHandle")) (hsm : Cond.sameMethod x.cls x.cls x.name x.desc ∈ jWS) (hs : Cond.selects C0 x y ∈ jWS) (hi : Cond.instanceMethod y ∈ jWS) (hde : Cond.declares x ∈ lw_tbl ∨ x = y) (q0 : Nat) (he : ws[q0]? = some (b, .inr (ci, fs))) (hc : vwCl[ci]? = some (C0, T0, N0))
    (hd : decode M.2.1 pc = .ok (.invokevirtual ix, 3)) (hn : As.length = nA) (hst : (st.map fun v => v.category).sum ≤ 8) (hdd : d' + 1 ≤ d) (hm : k + mc' ≤ mc) (hn2 : n + ms' ≤ ms) {stk : List Value} (hstk : stk = As.reverse ++ .ref b :: st) (hnt : ∀ E w, ¬ P' (.inr E) w)
    (kk : ∀ (v : Option Value) (ws' : va_W), P' (.inl v) ws' → J G M d mc ms P (pc + 3) lv (v.toList ++ st) ws' (k + mc') (n + ms')) : J G M d mc ms P pc lv stk ws k n :=
  fun p l e s m args below meth c D A C H locs ls hP hD hS hl => by
    have hts := C.2.2.2.2.1
    have hR := jRoom (mc := mc) (ms := ms) (mc' := mc') (ms' := ms') hdd L.2.2.2.2
    refine jAfter C hD hS hl (va_runU (Ts := jWS) (nL := M.2.2.1) (As := As) (b := b) (C := C0) (owner := x.cls) (x := x) (y := y) (n := nA) ⟨C.1, C.2.1, C.2.2.1, C.2.2.2.1, hts⟩ ((K l D H.size C.2.2.2.2.2.2.2.2.2.2.2.2.1).toMet ?_)
      ⟨⟨rfl, rfl, hR.1, hR.2, L.pay hts, List.mem_cons_self⟩, hts _ L.1, hts _ L.2.1, hx.2.2, by rw [hx.2.1]; exact L.len, hts _ hk, hts _ hsm, hde.elim (fun h => jDecl C.2.2.2.2.2.1.2 h) (fun h => by rw [h]; exact va_Decl.of (hts _ hi) (hts _ L.1)), hts _ hs, hts _ hi⟩
      ⟨jPc.blind, va_recv C.2.2.2.2.2.1.1 hP hc he, fun U hU hW => jPc.at C.2.2.2.2.2.1 C.2.2.2.2.2.2.1 C.2.2.2.2.2.2.2.1 hP hD hS hU hW⟩ rfl hn hl.1 hstk (lv_room hst) hd ⟨hm, hn2⟩) kk
    intro a st9 o t h
    obtain ⟨⟨r, w, ho, hp, -⟩, -⟩ := h
    cases r with
    | inl v => exact ⟨v, ho⟩
    | inr E => exact absurd hp (hnt E w)
theorem j_callI {ix nA d' mc' ms' b : Nat} {y : MethodName} {M' : jM} {As : List Value} {P' : jR → va_W → Prop} (K : jCon G M' y d' mc' ms' (.ref b :: As) ws P') (L : jL0 y M' nA) (hr0 : M'.2.2.2.1 = none) (hk : Cond.methodLink M.1 ix y ∈ jWS) (hi : Cond.instanceMethod y ∈ jWS) (hy1 : y.name = "<init>")
    (hd : decode M.2.1 pc = .ok (.invokespecial ix, 3)) (hn : As.length = nA) (hst : (st.map fun v => v.category).sum ≤ 8) (hdd : d' + 1 ≤ d) (hm : k + mc' ≤ mc) (hn2 : n + ms' ≤ ms) {stk : List Value} (hstk : stk = As.reverse ++ .ref b :: st) (hnt : ∀ E w, ¬ P' (.inr E) w)
    (kk : ∀ (v : Option Value) (ws' : va_W), P' (.inl v) ws' → J G M d mc ms P (pc + 3) lv (v.toList ++ st) ws' (k + mc') (n + ms')) : J G M d mc ms P pc lv stk ws k n :=
  fun p l e s m args below meth c D A C H locs ls hP hD hS hl => by
    have hts := C.2.2.2.2.1
    have hR := jRoom (mc := mc) (ms := ms) (mc' := mc') (ms' := ms') hdd L.2.2.2.2
    refine jAfter C hD hS hl (va_runI (Ts := jWS) (nL := M.2.2.1) (As := As) (b := b) (bytes := M'.2.1) (maxL := M'.2.2.1) (n := nA) ⟨C.1, C.2.1, C.2.2.1, C.2.2.2.1, hts⟩ ((K l D H.size C.2.2.2.2.2.2.2.2.2.2.2.2.1).toMet ?_)
      ⟨⟨rfl, rfl, hR.1, hR.2, L.pay hts, by rw [← hr0]; exact List.mem_cons_self, by rw [← hr0]; exact hts _ L.1, hts _ L.2.1, L.2.2.1, L.len, hts _ hk⟩, hy1, hts _ hi⟩
      ⟨jPc.blind, fun U hU hW => jPc.at C.2.2.2.2.2.1 C.2.2.2.2.2.2.1 C.2.2.2.2.2.2.2.1 hP hD hS hU hW⟩ rfl hn hl.1 hstk (lv_room hst) hd ⟨hm, hn2⟩) kk
    intro a st9 o t h
    obtain ⟨⟨r, w, ho, hp, -⟩, -⟩ := h
    cases r with
    | inl v => exact ⟨v, ho⟩
    | inr E => exact absurd hp (hnt E w)
theorem j_callIN {ix nA d' mc' ms' b : Nat} {y : MethodName} {M' : jM} {host : String} {As : List Value} {P' : jR → va_W → Prop} (K : jCon G M' y d' mc' ms' (.ref b :: As) ws P') (L : jL0 y M' nA) (hr0 : M'.2.2.2.1 = none) (hk : Cond.methodLinkNest M.1 ix y host ∈ lw_tbl) (hi : Cond.instanceMethod y ∈ jWS) (hy1 : y.name = "<init>")
    (hd : decode M.2.1 pc = .ok (.invokespecial ix, 3)) (hn : As.length = nA) (hst : (st.map fun v => v.category).sum ≤ 8) (hdd : d' + 1 ≤ d) (hm : k + mc' ≤ mc) (hn2 : n + ms' ≤ ms) {stk : List Value} (hstk : stk = As.reverse ++ .ref b :: st) (hnt : ∀ E w, ¬ P' (.inr E) w)
    (kk : ∀ (v : Option Value) (ws' : va_W), P' (.inl v) ws' → J G M d mc ms P (pc + 3) lv (v.toList ++ st) ws' (k + mc') (n + ms')) : J G M d mc ms P pc lv stk ws k n :=
  fun p l e s m args below meth c D A C H locs ls hP hD hS hl => by
    have hts := C.2.2.2.2.1
    have hR := jRoom (mc := mc) (ms := ms) (mc' := mc') (ms' := ms') hdd L.2.2.2.2
    refine jAfter C hD hS hl (va_runIN (Ts := jWS) (nL := M.2.2.1) (As := As) (b := b) (host := host) (bytes := M'.2.1) (maxL := M'.2.2.1) (n := nA) ⟨C.1, C.2.1, C.2.2.1, C.2.2.2.1, hts⟩ ((K l D H.size C.2.2.2.2.2.2.2.2.2.2.2.2.1).toMet ?_)
      ⟨⟨⟨rfl, rfl, hR.1, hR.2, L.pay hts, by rw [← hr0]; exact List.mem_cons_self⟩, by rw [← hr0]; exact hts _ L.1, hts _ L.2.1, L.2.2.1, L.len, jNest C.2.2.2.2.2.1.2 hk⟩, hy1, hts _ hi⟩
      ⟨jPc.blind, fun U hU hW => jPc.at C.2.2.2.2.2.1 C.2.2.2.2.2.2.1 C.2.2.2.2.2.2.2.1 hP hD hS hU hW⟩ rfl hn hl.1 hstk (lv_room hst) hd ⟨hm, hn2⟩) kk
    intro a st9 o t h
    obtain ⟨⟨r, w, ho, hp, -⟩, -⟩ := h
    cases r with
    | inl v => exact ⟨v, ho⟩
    | inr E => exact absurd hp (hnt E w)
theorem j_callSN {ix nA d' mc' ms' : Nat} {y : MethodName} {M' : jM} {host : String} {As : List Value} {P' : jR → va_W → Prop} (K : jCon G M' y d' mc' ms' As ws P') (L : jL0 y M' nA) (hk : Cond.methodLinkNest M.1 ix y host ∈ lw_tbl) (hi : Cond.static y ∈ jWS)
    (hd : decode M.2.1 pc = .ok (.invokestatic ix, 3)) (hn : As.length = nA) (hst : (st.map fun v => v.category).sum ≤ 8) (hdd : d' + 1 ≤ d) (hm : k + mc' ≤ mc) (hn2 : n + ms' ≤ ms) {stk : List Value} (hstk : stk = As.reverse ++ st) (hnt : ∀ E w, ¬ P' (.inr E) w)
    (kk : ∀ (v : Option Value) (ws' : va_W), P' (.inl v) ws' → J G M d mc ms P (pc + 3) lv (v.toList ++ st) ws' (k + mc') (n + ms')) : J G M d mc ms P pc lv stk ws k n :=
  fun p l e s m args below meth c D A C H locs ls hP hD hS hl => by
    have hts := C.2.2.2.2.1
    have hR := jRoom (mc := mc) (ms := ms) (mc' := mc') (ms' := ms') hdd L.2.2.2.2
    refine jAfter C hD hS hl (va_runSN (Ts := jWS) (nL := M.2.2.1) (As := As) (host := host) (n := nA) ⟨C.1, C.2.1, C.2.2.1, C.2.2.2.1, hts⟩ ((K l D H.size C.2.2.2.2.2.2.2.2.2.2.2.2.1).toMet ?_)
      ⟨⟨⟨rfl, rfl, hR.1, hR.2, L.pay hts, List.mem_cons_self⟩, hts _ L.1, hts _ L.2.1, L.2.2.1, L.len, jNest C.2.2.2.2.2.1.2 hk⟩, hts _ hi, trivial⟩
      ⟨jPc.blind, fun U hU hW => jPc.at C.2.2.2.2.2.1 C.2.2.2.2.2.2.1 C.2.2.2.2.2.2.2.1 hP hD hS hU hW⟩ rfl hn hl.1 hstk (lv_room hst) hd ⟨hm, hn2⟩) kk
    intro a st9 o t h
    obtain ⟨⟨r, w, ho, hp, -⟩, -⟩ := h
    cases r with
    | inl v => exact ⟨v, ho⟩
    | inr E => exact absurd hp (hnt E w)
end JQ
