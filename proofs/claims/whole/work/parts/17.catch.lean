/-! ===== calls that throw; catches ===== -/
/-- as 'Finds', but the tables may become warmer on the way -/
def jFinds (e : Env) (s : State) (f : JFrame) (a : Addr) (h : Handler) (vm' : Vm) : Prop :=
  ∀ (Q : Handler → Pre) (E : CtlPost) (d : Bool) (acts : List Action), wp (findHandler f a) Q E e d acts s ↔ Q h d acts (s.setVm vm')
section JFH
variable {E : CtlPost} {e : Env} {d : Bool} {acts : List Action} {s : State} {f : JFrame} {a : Addr} {Q : Handler → Pre}
theorem jgo {x : ExceptionTableEntry} {t : List ExceptionTableEntry} {c : ClassId} {cell : Cell} {vm' : Vm} (hx : covers x f.pc = true) (h0 : x.catchType ≠ 0)
    (hg : (resolveClass f.method.cls x.catchType).Gives e.toSetting s.vm (.ok c) vm') (hsz : vm'.classes.size ≤ s.vm.classes.size) (hcell : s.heap[a]? = some cell) (hobj : ∀ k, cell.vm ≠ .statics k)
    (hk : ∃ k, vm'.classes[cell.cls]? = some k) (hc : ∃ k, vm'.classes[c]? = some k) :
    wp (findHandler.go f a (x :: t)) Q E e d acts s ↔
      if vm'.assignable cell.cls c = true then Q (.found x.handlerPc) d acts (s.setVm vm') else wp (findHandler.go f a t) Q E e d acts (s.setVm vm') := by
  simp only [covers] at hx
  obtain ⟨ha, ht⟩ := hg.op (op := VmOp.resolveClass f.method.cls x.catchType) rfl
  cases hfit : vm'.assignable cell.cls c <;>
    simp [findHandler.go, hx, h0, ha, ht, hsz, hcell, hobj, hk, hc, hfit, VmOp.dirties, VmOp.acts]
end JFH
theorem jstepCatch {e : Env} {s : State} {a : Addr} {f : JFrame} {r : List Frame} {pc : Nat} {vm' : Vm} (hfind : jFinds e s f a (.found pc) vm') :
    (stepThrowing e s a (.java f :: r)).Is ((s.setVm vm').setFrames (.java { f with pc := pc, stack := [.ref a] } :: r)) [] := by
  simp only [stepThrowing, searchFrame, vmDo]
  generalize hr : Sem.go _ e false [] s = res
  obtain ⟨as, rfl, ha⟩ := Sem.eq_ok_of hr (a := Handler.found pc) (s' := s.setVm vm') (acts' := []) (by simp [hfind _ _ _ _])
  exact ⟨rfl, ha⟩
theorem jcaught {tb : Tables} {e : Env} {s target : State} {g : JFrame} {c : Code} {below : List Frame} {a : Addr} {vm' : Vm} (h : At s g.method c below) {pc : Nat} (hfind : jFinds e ((s.setTop g).pushFrame (.throwing a)) g a (.found pc) vm')
    (hrest : Steps tb e below ((s.setVm vm').setTop { g with pc := pc, stack := [.ref a] }) target) : Steps tb e below ((s.setTop g).pushFrame (.throwing a)) target := by
  obtain ⟨hgo, hw⟩ := h.throwing a
  refine Steps.head hgo hw ?_
  rw [stepThread_throwing (frames_entered h.top _), (jstepCatch (s := (s.setTop g).pushFrame (.throwing a)) hfind).1]
  obtain ⟨g₀, hg⟩ := Option.isSome_iff_exists.mp h.top
  obtain ⟨r, hr⟩ := State.topJava?_eq_some.mp hg
  have hr2 : (s.setVm vm').frames = .java g₀ :: r := hr
  rw [State.setTop_of_frames _ hr2] at hrest
  rw [hr]
  have e1 : (((s.setTop g).pushFrame (.throwing a)).setVm vm').setFrames (.java { g with pc := pc, stack := [.ref a] } :: (Frame.java g₀ :: r).tail) = (s.setVm vm').setFrames (.java { g with pc := pc, stack := [.ref a] } :: r) := by
    rw [State.setTop_of_frames _ hr, State.pushFrame]
    show (((s.setFrames _).setFrames _).setFrames _).setVm vm' = _
    rw [State.setFrames_setFrames, State.setFrames_setFrames]
    rfl
  rw [e1]
  exact hrest
section JX
variable {G : jG} {M : jM} {d mc ms : Nat} {P : jR → va_W → Prop} {pc : Nat} {lv : List (Nat × Value)} {st : List Value} {ws : va_W} {k n : Nat}
/-- where a callee that throws leaves its caller -/
def jThr (G : jG) (P' : jR → va_W → Prop) (D : va_G) (A : Nat → Prop) (p : Program) (l : Launch) (e : Env) (R : Room) (s : State) (m : MethodId) (args : Array Value) (below : List Frame) (meth : Method) (c : Code) (T : State) (locs : List Loc) (k n : Nat) (g g0 : JFrame) : Prop :=
  ∃ (E : String) (x : Addr) (cell : Cell) (ws' : va_W) (T' : State) (Lc : List Loc), P' (.inr E) ws' ∧ va_P D vwCl ws' T'.heap ∧ va_D A ws' ∧ va_S A s.heap T'.heap (locs ++ Lc) ∧ T'.heap[x]? = some cell ∧ cell.vm = .none ∧ s.vm.findClass E = some cell.cls ∧ Stand p l e R s m args below meth c T' (locs ++ Lc) k n ∧
    ∀ target, Steps p.tables e below ((T'.setTop g0).pushFrame (.throwing x)) target → Steps p.tables e below (T.setTop g) target
theorem jThr.of {P' : jR → va_W → Prop} {mc' ms' nA d' : Nat} {y : MethodName} {M' : jM} {As' : List Value} {p : Program} {l : Launch} {e : Env} {s : State} {m : MethodId} {args : Array Value} {below : List Frame} {meth : Method} {c : Code} {D : va_G} {A : Nat → Prop} {H : Heap} {locs : List Loc} {ls : Array Slot} {T : State} {vm₁ : Vm} {mk : MethodId} {ig : Instr} {g : JFrame}
    (C : jC G M p l s m args meth c D A) (hP : va_P D vwCl ws H) (hD : va_D A ws) (hS : va_S A s.heap H locs) (hl : lv_has ls M.2.2.1 lv) (K : jCon G M' y d' mc' ms' As' ws P') (L : jL0 y M' nA) (hnr : ∀ v w, ¬ P' (.inl v) w) (hT : T.heap = H) (X₁ : Stand p l e (jrm d mc ms) s m args below meth c (T.setVm vm₁) locs k n)
    (hd : decode M.2.1 pc = .ok (ig, 3)) (hst : (st.map fun v => v.category).sum ≤ 8) (hdd : d' + 1 ≤ d) (hm : k + mc' ≤ mc) (hn2 : n + ms' ≤ ms) (hnamed : s.methodNamed? y = some mk)
    (hstep : ∀ target, (∀ acts, Steps p.tables e below (doInvoke e ((T.setVm vm₁).setTop (F0 m pc ls st)) acts mk As'.toArray).1 target) → Steps p.tables e below (T.setTop g) target) :
    jThr G P' D A p l e (jrm d mc ms) s m args below meth c T locs (k + mc') (n + ms') g (F0 m pc ls st) := by
  obtain ⟨hexec, hb, hml, hown, hts, hK, hZ, hA, hlocks, hret, hnm, hex, htr0, hns⟩ := C
  have hR := jRoom (mc := mc) (ms := ms) (mc' := mc') (ms' := ms') hdd L.2.2.2.2
  obtain ⟨methM, cM, hmM, hcM, -, hlM, -, -, -, hsigM⟩ := Cond.code_spec hnamed (hts _ L.1)
  have hW₁ := X₁.warmed
  have hsub : ∀ q, va_A ws H.size q → A q := by
    intro q hq
    rcases hq with ⟨k, e, h⟩ | h
    · exact hD.2 k (q, e) h
    · exact hA q (Nat.le_trans hS.1 h)
  obtain ⟨o, t, T', Lc, e1, e2, hq, hL, X', -, hthr⟩ := jBack (K l D H.size htr0) X₁ (g := F0 m pc ls st) rfl (hl.1.trans hml.symm) (by rw [hb]; exact hd) (lv_room hst) (X₁.named hnamed) (a := As'.toArray) (methY := methM) (cY := cM) (maxL := M'.2.2.1)
    (show (T.setVm vm₁).vm.method? mk = some methM by rw [hW₁.alike.method?]; exact hmM) hcM hlM (atoms_intro fun w hw => L.pay hts w hw _ _ hW₁) (word_at hW₁ (jgood _ L.2.1) (hts _ L.2.1)) hR.1 hR.2 hm hn2
    (jPc.blind _ _ _ _ (jPc.at hK hZ hA hP hD hS (U := T.setVm vm₁) hT hW₁))
  obtain ⟨⟨r, ws', hout, hp, hP1, hD1⟩, hz, hkp⟩ := hq
  have hz' : H.size ≤ t.heap.size := by rw [← hT]; exact hz
  have hkp' : ∀ q : Nat, q < H.size → ¬ va_A ws H.size q → t.heap[q]? = H[q]? := fun q h1 h2 => by
    have := hkp q (by show q < T.heap.size; rw [hT]; exact h1) h2
    rw [this]
    show T.heap[q]? = _
    rw [hT]
  cases r with
  | inl v => exact absurd hp (hnr v ws')
  | inr E =>
    obtain ⟨x, cell, ho, hcell, hcv, hcl⟩ := hout
    refine ⟨E, x, cell, ws', T', Lc, hp, by rw [e1]; exact hP1, hD1.weaken (fun _ q _ h => hsub q.1 h), ⟨Nat.le_trans hS.1 (by rw [e1]; exact hz'), fun q h1 h2 => ?_, fun q hq => ?_⟩, by rw [e1]; exact hcell, hcv, ?_, X', fun target h => hstep _ fun acts => ?_⟩
    · rw [e1, hkp' q (Nat.lt_of_lt_of_le h1 hS.1) (fun z => h2 (hsub q z))]
      exact hS.2.1 q h1 h2
    · rcases List.mem_append.mp hq with h | h
      · exact hS.2.2 q h
      · exact hsub _ (hL q h)
    · have h9 := X'.warmed.alike.findClass E
      rw [e2] at h9
      rw [← h9]
      exact hcl
    · rw [doInvoke_state]
      exact (hthr x ho).trans h
theorem jThr.callV {ix nA d' mc' ms' b ci q0 : Nat} {y : MethodName} {M' : jM} {C0 : String} {T0 : u_T} {N0 : Nat} {fs As stk : List Value} {P' : jR → va_W → Prop} {p : Program} {l : Launch} {e : Env} {s : State} {m : MethodId} {args : Array Value} {below : List Frame} {meth : Method} {c : Code} {D : va_G} {A : Nat → Prop} {H : Heap} {locs : List Loc} {ls : Array Slot} {T : State}
    (C : jC G M p l s m args meth c D A) (hP : va_P D vwCl ws H) (hD : va_D A ws) (hS : va_S A s.heap H locs) (hl : lv_has ls M.2.2.1 lv) (K : jCon G M' y d' mc' ms' (.ref b :: As) ws P') (L : jL0 y M' nA) (hnr : ∀ v w, ¬ P' (.inl v) w) (hk : Cond.methodLink M.1 ix y ∈ jWS) (hi : Cond.instanceMethod y ∈ jWS) (hs : Cond.selects C0 y y ∈ jWS) (he : ws[q0]? = some (b, .inr (ci, fs))) (hc : vwCl[ci]? = some (C0, T0, N0))
    (hd : decode M.2.1 pc = .ok (.invokevirtual ix, 3)) (hn : As.length = nA) (hst : (st.map fun v => v.category).sum ≤ 8) (hdd : d' + 1 ≤ d) (hm : k + mc' ≤ mc) (hn2 : n + ms' ≤ ms) (hstk : stk = As.reverse ++ .ref b :: st) (hT : T.heap = H) (X : Stand p l e (jrm d mc ms) s m args below meth c T locs k n) :
    jThr G P' D A p l e (jrm d mc ms) s m args below meth c T locs (k + mc') (n + ms') (F0 m pc ls stk) (F0 m pc ls st) := by
  have hts := C.2.2.2.2.1
  obtain ⟨mk, methM, hnamed, hmethM, hstM, habM⟩ := Cond.instanceMethod_spec (hts _ hi)
  obtain ⟨methM', cM, hmethM', -, -, -, -, -, -, hsigM⟩ := Cond.code_spec hnamed (hts _ L.1)
  cases hmethM.symm.trans hmethM'
  obtain ⟨c2, r2, m2, q1, q2, q3, q4, kP, hkP, hkPi⟩ := Cond.selects_spec (hts _ hs)
  obtain ⟨cellB, hcB, hoB, hclB⟩ := va_recv C.2.2.2.2.2.1.1 hP hc he
  cases hclB.symm.trans q1
  cases (State.methodFound?_of_named hnamed L.2.2.1).symm.trans q2
  cases hnamed.symm.trans q3
  have hselP : selectMethod e.platform s.vm cellB.cls mk = .method mk := by rw [Launch.admits_selectMethod X.admits]; exact q4
  obtain ⟨vm₁, X₁, hstep₁⟩ := X.invokevirtual C.1 C.2.2.2.1 (hts _ hk) hnamed hmethM hstM hkP hkPi L.2.2.1 (a := b) (cell := cellB) (by rw [hT]; exact hcB)
    (fun z h => by rw [h] at hoB; cases hoB) hselP hmethM habM hkP hkPi (g := F0 m pc ls stk) rfl (argsL := As) (rest := st) (by rw [hn]; exact L.len _ hsigM) hstk (by rw [C.2.1]; exact hd)
  exact jThr.of C hP hD hS hl K L hnr hT X₁ hd hst hdd hm hn2 hnamed hstep₁
theorem jThr.callS {ix nA d' mc' ms' : Nat} {y : MethodName} {M' : jM} {As stk : List Value} {P' : jR → va_W → Prop} {p : Program} {l : Launch} {e : Env} {s : State} {m : MethodId} {args : Array Value} {below : List Frame} {meth : Method} {c : Code} {D : va_G} {A : Nat → Prop} {H : Heap} {locs : List Loc} {ls : Array Slot} {T : State}
    (C : jC G M p l s m args meth c D A) (hP : va_P D vwCl ws H) (hD : va_D A ws) (hS : va_S A s.heap H locs) (hl : lv_has ls M.2.2.1 lv) (K : jCon G M' y d' mc' ms' As ws P') (L : jL0 y M' nA) (hnr : ∀ v w, ¬ P' (.inl v) w) (hk : Cond.methodLink M.1 ix y ∈ jWS) (hi : Cond.static y ∈ jWS)
    (hd : decode M.2.1 pc = .ok (.invokestatic ix, 3)) (hn : As.length = nA) (hst : (st.map fun v => v.category).sum ≤ 8) (hdd : d' + 1 ≤ d) (hm : k + mc' ≤ mc) (hn2 : n + ms' ≤ ms) (hstk : stk = As.reverse ++ st) (hT : T.heap = H) (X : Stand p l e (jrm d mc ms) s m args below meth c T locs k n) :
    jThr G P' D A p l e (jrm d mc ms) s m args below meth c T locs (k + mc') (n + ms') (F0 m pc ls stk) (F0 m pc ls st) := by
  have hts := C.2.2.2.2.1
  obtain ⟨mk, hnamed⟩ := Cond.code_named (hts _ L.1)
  obtain ⟨methM, cM, hmethM, -, -, -, -, -, -, hsigM⟩ := Cond.code_spec hnamed (hts _ L.1)
  have hstatic : methM.isStatic = true := Cond.static_spec hnamed hmethM (hts _ hi)
  obtain ⟨kP, hkP, -⟩ := className_of_methodNamed hnamed
  have hinitP : kP.init = .initialized := Cond.initialized_spec (findClass_of_methodNamed hnamed) hkP (hts _ L.2.1)
  obtain ⟨vm₁, X₁, hstep₁⟩ := X.invokestatic C.1 C.2.2.2.1 (hts _ hk) hnamed hmethM hstatic hkP hinitP L.2.2.1 (g := F0 m pc ls stk) rfl (argsL := As) (rest := st) (by rw [hn]; exact L.len _ hsigM) hstk (by rw [C.2.1]; exact hd)
  exact jThr.of C hP hD hS hl K L hnr hT X₁ hd hst hdd hm hn2 hnamed hstep₁
/-- out of a method without handlers -/
theorem jThr.out {P' : jR → va_W → Prop} {p : Program} {l : Launch} {e : Env} {s : State} {m : MethodId} {args : Array Value} {below : List Frame} {meth : Method} {c : Code} {D : va_G} {A : Nat → Prop} {locs : List Loc} {ls : Array Slot} {T : State} {g : JFrame} {k' n' : Nat} (C : jC G M p l s m args meth c D A) (hh : M.2.2.2.2.2 = []) (hp : ∀ E w, P' (.inr E) w → P (.inr E) w) (hk : k' ≤ mc) (hn : n' ≤ ms)
    (h : jThr G P' D A p l e (jrm d mc ms) s m args below meth c T locs k' n' g (F0 m pc ls st)) : ∃ t, Steps p.tables e below (T.setTop g) t ∧ jMQ below (jPost P D A) args s mc ms A t := by
  obtain ⟨E, x, cell, ws', T', Lc, h1, h2, h3, h4, h5, h6, h7, X', hst⟩ := h
  obtain ⟨hexec, hb, hml, hown, hts, hK, hZ, hA, hlocks, hret, hnm, hex, htr0, hns⟩ := C
  have hout : ∀ y ∈ c.exceptionTable.toList, covers y pc = false := by
    intro y hy
    rw [hh] at hex
    rw [List.map_eq_nil_iff.mp hex] at hy
    cases hy
  obtain ⟨l1, l2, l3, l4, l5⟩ := X'.leaveThrown x (g := F0 m pc ls st) rfl rfl rfl hout hlocks
  refine ⟨_, hst _ l1, .threw x, l2, l3, ⟨⟨.inr E, ws', ⟨x, cell, rfl, h5, h6, ?_⟩, hp E ws' h1, h2, h3⟩, h4.F rfl⟩, locs ++ Lc, ⟨l4, l5.mono hk hn⟩, h4.2.2⟩
  rw [l4.alike.findClass]
  exact h7
theorem j_thrV {ix nA d' mc' ms' b ci : Nat} {y : MethodName} {M' : jM} {C0 : String} {T0 : u_T} {N0 : Nat} {fs As stk : List Value} {P' : jR → va_W → Prop} (K : jCon G M' y d' mc' ms' (.ref b :: As) ws P') (L : jL0 y M' nA) (hnr : ∀ v w, ¬ P' (.inl v) w) (hk : Cond.methodLink M.1 ix y ∈ jWS) (hi : Cond.instanceMethod y ∈ jWS) (hs : Cond.selects C0 y y ∈ jWS) (q0 : Nat) (he : ws[q0]? = some (b, .inr (ci, fs))) (hc : vwCl[ci]? = some (C0, T0, N0))
    (hd : decode M.2.1 pc = .ok (.invokevirtual ix, 3)) (hn : As.length = nA) (hst : (st.map fun v => v.category).sum ≤ 8) (hdd : d' + 1 ≤ d) (hm : k + mc' ≤ mc) (hn2 : n + ms' ≤ ms) (hstk : stk = As.reverse ++ .ref b :: st) (hh : M.2.2.2.2.2 = []) (hp : ∀ E w, P' (.inr E) w → P (.inr E) w) : J G M d mc ms P pc lv stk ws k n :=
  fun p l e s m args below meth c D A C H locs ls hP hD hS hl T hT X => jThr.out C hh hp hm hn2 (jThr.callV C hP hD hS hl K L hnr hk hi hs he hc hd hn hst hdd hm hn2 hstk hT X)
theorem j_thrS {ix nA d' mc' ms' : Nat} {y : MethodName} {M' : jM} {As stk : List Value} {P' : jR → va_W → Prop} (K : jCon G M' y d' mc' ms' As ws P') (L : jL0 y M' nA) (hnr : ∀ v w, ¬ P' (.inl v) w) (hk : Cond.methodLink M.1 ix y ∈ jWS) (hi : Cond.static y ∈ jWS)
    (hd : decode M.2.1 pc = .ok (.invokestatic ix, 3)) (hn : As.length = nA) (hst : (st.map fun v => v.category).sum ≤ 8) (hdd : d' + 1 ≤ d) (hm : k + mc' ≤ mc) (hn2 : n + ms' ≤ ms) (hstk : stk = As.reverse ++ st) (hh : M.2.2.2.2.2 = []) (hp : ∀ E w, P' (.inr E) w → P (.inr E) w) : J G M d mc ms P pc lv stk ws k n :=
  fun p l e s m args below meth c D A C H locs ls hP hD hS hl T hT X => jThr.out C hh hp hm hn2 (jThr.callS C hP hD hS hl K L hnr hk hi hd hn hst hdd hm hn2 hstk hT X)
end JX
