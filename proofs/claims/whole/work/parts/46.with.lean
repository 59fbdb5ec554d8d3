/-! ===== contracts of methods with handlers ===== -/
def jwW (M : jM) (y : MethodName) : Cond := Cond.codeWith y M.2.1 M.2.2.1 M.2.2.2.1 M.2.2.2.2.2
def jConW (G : jG) (M : jM) (y : MethodName) (d mc ms : Nat) (As : List Value) (ws : va_W) (P : jR → va_W → Prop) : Prop :=
  ∀ (l : Launch) (D : va_G) (sz : Nat), l.stackTraces = false → jMet l y (jwW M y :: jWS) (jrm d mc ms) (jPc G D As ws sz) (jPost P D (va_A ws sz)) mc ms (va_A ws sz)
theorem jConW.of {G : jG} {M : jM} {y : MethodName} {d mc ms : Nat} {As : List Value} {ws : va_W} {P : jR → va_W → Prop} {lv : List (Nat × Value)} (hy : plainFor y = true) (hc : M.1 = y.cls) (hnm : M.2.2.2.2.1 = y.name) (hlen : (lg_sl As).length ≤ M.2.2.1) (hlv : lv_args 0 As = lv)
    (body : J G M d mc ms P 0 lv [] ws 0 0) : jConW G M y d mc ms As ws P := by
  intro l D sz hl
  have hhead : ∀ (args : Array Value) (s : State) (m : MethodId), (allAtoms (jwW M y :: jWS)).before args s = true → s.methodNamed? y = some m → ∃ meth c, s.vm.method? m = some meth ∧ meth.code = some c ∧ c.code = M.2.1 ∧ c.maxLocals = M.2.2.1 ∧ meth.sig.returnType = M.2.2.2.1 ∧ meth.locks = false ∧ c.exceptionTable.toList.map (fun h => (h.startPc, h.endPc, h.handlerPc, h.catchType)) = M.2.2.2.2.2 := fun args s m h hn => by
    obtain ⟨m', meth, c, h0, h1, h2, h3, h4, h5, h6, h7, -⟩ := Cond.codeWith_spec (atoms_spec (ws := jwW M y :: jWS) h _ List.mem_cons_self)
    cases hn.symm.trans h0
    exact ⟨meth, c, h1, h2, h3, h4, h6, h7, h5⟩
  refine jMet.of (cc := M.2.1) (maxL := M.2.2.1) (ret := M.2.2.2.1) hy (fun args s m h hn => ?_) (fun p e s m args below meth c s₁ B hml hv hcode => ?_)
  · obtain ⟨meth, c, h1, h2, h3, h4, h5, h6, -⟩ := hhead args s m h hn
    exact ⟨meth, c, h1, h2, h3, h4, h5, h6⟩
  · obtain ⟨rfl, hsz, hP, hD, hK, hZ⟩ := hv
    subst hsz
    have hx : c.exceptionTable.toList.map (fun h => (h.startPc, h.endPc, h.handlerPc, h.catchType)) = M.2.2.2.2.2 := by
      obtain ⟨meth9, c9, h1, h2, -, -, -, -, h7⟩ := hhead _ s m B.pre B.named
      cases Option.some.inj (h1.symm.trans B.method)
      cases Option.some.inj (h2.symm.trans hcode)
      exact h7
    have hl0 := lv_entry As (n := M.2.2.1) hlen
    rw [lg_entry_eq]
    rw [hlv] at hl0
    exact body p l e s m As.toArray below meth c D (va_A ws s.heap.size)
      ⟨B.exec, B.bytes, hml, by rw [hc]; exact findClass_of_methodNamed B.named, fun w hw => atoms_spec (ws := jwW M y :: jWS) B.pre w (List.mem_cons_of_mem _ hw), hK, hZ, fun q h => Or.inr h, B.notSynchronized, B.returns, by rw [hnm]; exact (name_of_methodNamed B.named B.method).1, hx, hl, jNS hP⟩
      s.heap [] _ hP hD.self va_S.rf hl0
theorem jConW.frR {G : jG} {M : jM} {y : MethodName} {d mc ms : Nat} {As : List Value} {ws : va_W} {P : jR → va_W → Prop} (K : jConW G M y d mc ms As ws P) (R : va_W) : jConW G M y d mc ms As (ws ++ R) (jFrR R P) := by
  intro l D sz hl p e ha hc hk s m args below hf happ hP hK
  obtain ⟨q0, q1, qP, qD, qK, qZ⟩ := hP
  obtain ⟨k, o, h1, h2, h3, ⟨⟨r, w, z1, z2, z3, z4⟩, hF⟩, L, h5, h6⟩ := K l D sz hl p e ha hc hk s m args below hf happ ⟨q0, q1, qP.left, qD.left, qK, jZ.narrow (fun q h => va_A.left h) qZ⟩ hK
  have hRlt : ∀ (i : Nat) (q : Nat × va_E), R[i]? = some q → q.1 < sz := fun i q hi => by
    rw [← q1]; exact (qP.right i q hi).lt
  have hRn : ∀ (i : Nat) (q : Nat × va_E), R[i]? = some q → ¬ va_A ws sz q.1 := fun i q hi hA => by
    rcases hA with ⟨j, e, hj⟩ | hA
    · exact qD.apart j i _ q hj hi rfl
    · exact absurd (hRlt i q hi) (Nat.not_lt.mpr hA)
  refine ⟨k, o, h1, h2, h3, ⟨⟨r, w ++ R, z1, ⟨w, rfl, z2⟩, va_P.app z3 (qP.right.kept (fun i q hi => hF.2 q.1 (by rw [q1]; exact hRlt i q hi) (hRn i q hi))), ?_⟩, hF.1, fun q hq hn => hF.2 q hq (fun h => hn (va_A.left h))⟩, L, h5, fun q hq => va_A.left (h6 q hq)⟩
  refine va_D.app (z4.weaken (fun _ _ _ h => va_A.left h)) (va_D.weaken qD.right (fun i q hi _ => va_A.right (va_A.in hi))) ?_
  intro i j a b ha hb hab
  exact hRn j b hb (by rw [← hab]; exact z4.2 i a ha)
/-- what a call of a static method with handlers asks of the tables -/
def jLW (y : MethodName) (M' : jM) (nA : Nat) : Prop := jwW M' y ∈ jWS ∧ Cond.initialized y.cls ∈ jWS ∧ (y.cls ≠ "java/lang/invoke/MethodHandle" ∧ y.cls ≠ "java/lang/invoke/VarHandle") ∧ (parseMethodDescriptor y.desc).map (fun d => d.parameters.length) = some nA ∧ M'.2.2.1 ≤ 12
theorem jLW.pay {y : MethodName} {M' : jM} {nA : Nat} (h : jLW y M' nA) {args : Array Value} {s : State} (hts : ∀ w ∈ jWS, w.before args s = true) : ∀ w ∈ jwW M' y :: jWS, ∀ (a' : Array Value) (U : State), s.WarmedH U.vm → w.before a' U = true := by
  intro w hw a' U hW
  have hw' : w ∈ jWS := by
    rcases List.mem_cons.mp hw with e | e
    · rw [e]; exact h.1
    · exact e
  exact word_at hW (jgood _ hw') (hts _ hw')
theorem j_callSW {G : jG} {M : jM} {d mc ms : Nat} {P : jR → va_W → Prop} {pc : Nat} {lv : List (Nat × Value)} {st : List Value} {ws : va_W} {k n : Nat} {ix nA d' mc' ms' : Nat} {y : MethodName} {M' : jM} {As stk : List Value} {P' : jR → va_W → Prop} (K : jConW G M' y d' mc' ms' As ws P') (L : jLW y M' nA) (hk : Cond.methodLink M.1 ix y ∈ jWS) (hi : Cond.static y ∈ jWS)
    (hd : decode M.2.1 pc = .ok (.invokestatic ix, 3)) (hn : As.length = nA) (hst : (st.map fun v => v.category).sum ≤ 8) (hdd : d' + 1 ≤ d) (hm : k + mc' ≤ mc) (hn2 : n + ms' ≤ ms) (hstk : stk = As.reverse ++ st) (hnt : ∀ E w, ¬ P' (.inr E) w)
    (kk : ∀ (v : Option Value) (ws' : va_W), P' (.inl v) ws' → J G M d mc ms P (pc + 3) lv (v.toList ++ st) ws' (k + mc') (n + ms')) : J G M d mc ms P pc lv stk ws k n :=
  fun p l e s m args below meth c D A C H locs ls hP hD hS hl => by
    intro T hT X
    have C' := C
    obtain ⟨hexec, hb, hml, hown, hts, hK, hZ, hA, hlocks, hret, hnm, hex, htr0, hns⟩ := C
    obtain ⟨mk, methM, cM, hnamed, hmethM, hcM, -, hlM, -, -, -, hsigM⟩ := Cond.codeWith_spec (hts _ L.1)
    have hstatic : methM.isStatic = true := Cond.static_spec hnamed hmethM (hts _ hi)
    obtain ⟨kP, hkP, -⟩ := className_of_methodNamed hnamed
    have hinitP : kP.init = .initialized := Cond.initialized_spec (findClass_of_methodNamed hnamed) hkP (hts _ L.2.1)
    have hlen : ∀ sig, parseMethodDescriptor y.desc = some sig → nA = sig.parameters.length := by
      intro sig h
      have h2 := L.2.2.2.1
      rw [h] at h2
      exact (Option.some.inj h2).symm
    obtain ⟨vm₁, X₁, hstep₁⟩ := X.invokestatic hexec hown (hts _ hk) hnamed hmethM hstatic hkP hinitP L.2.2.1 (g := F0 m pc ls stk) rfl (argsL := As) (rest := st) (by rw [hn]; exact hlen _ hsigM) hstk (by rw [hb]; exact hd)
    have hR := jRoom (mc := mc) (ms := ms) (mc' := mc') (ms' := ms') hdd L.2.2.2.2
    have hW₁ := X₁.warmed
    have hsub : ∀ q, va_A ws H.size q → A q := by
      intro q hq
      rcases hq with ⟨k, e, h⟩ | h
      · exact hD.2 k (q, e) h
      · exact hA q (Nat.le_trans hS.1 h)
    obtain ⟨o, t, T', Lc, e1, e2, hq, hL, X', hback, -⟩ := jBack (K l D H.size htr0) X₁ (g := F0 m pc ls st) rfl (hl.1.trans hml.symm) (by rw [hb]; exact hd) (lv_room hst) (X₁.named hnamed) (a := As.toArray) (methY := methM) (cY := cM) (maxL := M'.2.2.1)
      (show (T.setVm vm₁).vm.method? mk = some methM by rw [hW₁.alike.method?]; exact hmethM) hcM hlM (atoms_intro fun w hw => L.pay hts w hw _ _ hW₁) (word_at hW₁ (jgood _ L.2.1) (hts _ L.2.1)) hR.1 hR.2 hm hn2
      (jPc.blind _ _ _ _ (jPc.at hK hZ hA hP hD hS (U := T.setVm vm₁) hT hW₁))
    obtain ⟨⟨r, ws', hout, hp, hP1, hD1⟩, hz, hkp⟩ := hq
    have hz' : H.size ≤ t.heap.size := by rw [← hT]; exact hz
    have hkp' : ∀ q : Nat, q < H.size → ¬ va_A ws H.size q → t.heap[q]? = H[q]? := fun q h1 h2 => by
      have := hkp q (by show q < T.heap.size; rw [hT]; exact h1) h2
      rw [this]
      show T.heap[q]? = _
      rw [hT]
    cases r with
    | inr E => exact absurd hp (hnt E ws')
    | inl v =>
      obtain ⟨t2, a1, b1⟩ := kk v ws' hp p l e s m args below meth c D A C' T'.heap (locs ++ Lc) ls (by rw [e1]; exact hP1) (hD1.weaken (fun _ q _ h => hsub q.1 h))
        ⟨Nat.le_trans hS.1 (by rw [e1]; exact hz'), fun q h1 h2 => by
          rw [e1, hkp' q (Nat.lt_of_lt_of_le h1 hS.1) (fun z => h2 (hsub q z))]
          exact hS.2.1 q h1 h2, fun q hq => by
          rcases List.mem_append.mp hq with h | h
          · exact hS.2.2 q h
          · exact hsub _ (hL q h)⟩ hl T' rfl X'
      exact ⟨t2, hstep₁ _ (fun acts => by rw [doInvoke_state]; exact (hback v hout).trans a1), b1⟩
