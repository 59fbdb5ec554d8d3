/-! ===== a throw, and calls that throw ===== -/
section JT
variable {p : Program} {l : Launch} {e : Env} {R : Room} {s : State} {m : MethodId} {args : Array Value} {below : List Frame} {meth : Method} {c : Code} {T : State} {locs : List Loc} {cells slots : Nat}
/-- the same point of the run, seen as if the method had been entered here -/
theorem jRebase (X : Stand p l e R s m args below meth c T locs cells slots) {R' : Room} (hf : R'.frames ≤ R.frames) (hl : R'.locals ≤ R.locals) (hc : cells + R'.cells ≤ R.cells) (hs : slots + R'.slots ≤ R.slots) :
    Stand p l e R' ((T.setVm s.vm).setFrames (.invoking m args :: below)) m args below meth c T [] 0 0 := by
  obtain ⟨g₀, hfr⟩ := X.frames_eq
  have hcur : (T.setVm s.vm).cur < (T.setVm s.vm).threads.size := State.cur_lt_of_frames hfr
  obtain ⟨z, hz, -⟩ := State.frames_cons hfr
  have hF : ((T.setVm s.vm).setFrames (.invoking m args :: below)).frames = .invoking m args :: below := State.frames_setFrames _ hcur
  have hroom := X.room
  have hsz := X.heapSize
  have hus := X.used
  have hbk : ((T.setVm s.vm).setFrames (.invoking m args :: below)).slotsTrue = true := X.book
  have hli : ∀ pl : Platform, pl = e.platform → pl.stackLimits ((T.setVm s.vm).setFrames (.invoking m args :: below)).me = pl.stackLimits s.me := fun pl h => by
    rw [State.stackLimits_setFrames, h]; exact X.limits
  have hby : ((T.setVm s.vm).setFrames (.invoking m args :: below)).me.stackBytes = s.me.stackBytes := by
    rw [State.stackBytes_setFrames]; exact X.bytes
  have hlo : ((T.setVm s.vm).setFrames (.invoking m args :: below)).localsInUse = s.localsInUse := by
    unfold State.localsInUse
    rw [hF, X.frames]
    rfl
  have hsame0 := (State.sameButNew.refl (T.setVm s.vm) hz)
  refine ⟨X.admits, X.cas, X.clock, hF, ?_, X.hears, X.method, X.code, X.here, X.tail, X.warmed, (hli e.platform rfl).symm ▸ X.limits, X.bytes.trans hby.symm ▸ rfl, ?_⟩
  · simp only [State.hasRoom, Bool.and_eq_true, decide_eq_true_eq] at hroom ⊢
    obtain ⟨⟨⟨⟨a1, a2, a3, a4, a5, a6⟩, b1⟩, c1⟩, d1⟩ := hroom
    rw [hli e.platform rfl, hby, hlo, hF]
    rw [X.frames] at a2 a3
    refine ⟨⟨⟨⟨by omega, by omega, by omega, by omega, by omega, a6⟩, ?_⟩, ?_⟩, hbk⟩
    · show T.heap.size + R'.cells ≤ _
      omega
    · show T.slotsUsed + R'.slots ≤ _
      omega
  · obtain ⟨e1, e2⟩ := hsame0
    refine ⟨?_, e2⟩
    show T.setVm s.vm = ({ ((T.setVm s.vm).setFrames (.invoking m args :: below)).setFrames (T.setVm s.vm).frames with heap := T.heap, slotsUsed := T.slotsUsed } : State)
    rw [State.setFrames_setFrames]
    exact e1
end JT
theorem jOld {s' U : State} {cells slots : Nat} (h : s'.sameButNew ({ U with vm := s'.vm } : State) [] cells slots) : s'.heap.size ≤ U.heap.size ∧ ∀ q : Nat, q < s'.heap.size → U.heap[q]? = s'.heap[q]? := by
  obtain ⟨-, h1, -, -, -, h2⟩ := h
  refine ⟨h1, fun q hq => ?_⟩
  obtain ⟨c', g1, g2, g3, g4⟩ := h2 q s'.heap[q] (Array.getElem?_eq_getElem hq)
  have g1' : U.heap[q]? = some c' := g1
  rw [g1', Array.getElem?_eq_getElem hq]
  have g5 : c'.slots = s'.heap[q].slots := by
    apply Array.ext_getElem?
    intro i
    exact g4 i (fun h => nomatch h)
  rw [g2, g5]
section JU
variable {G : jG} {M : jM} {d mc ms : Nat} {P : jR → va_W → Prop} {pc : Nat} {lv : List (Nat × Value)} {st : List Value} {ws : va_W} {k n : Nat}
/-- throw new E("text") -/
theorem j_throw {E tx : String} {ik is ic : Nat} (hE : Bundle.fit E = true) (hx : jEx M.1 ic E) (hk : Cond.classLink M.1 ik E ∈ lw_tbl) (hi6 : Cond.instantiable E 6 ∈ lw_tbl) (hini : Cond.initialized E ∈ lw_tbl) (hstr : Cond.stringRef M.1 is tx ∈ lw_tbl)
    (d0 : decode M.2.1 pc = .ok (.new ik, 3)) (d3 : decode M.2.1 (pc + 3) = .ok (.dup, 1)) (d4 : decode M.2.1 (pc + 4) = .ok (.ldc is, 2)) (d6 : decode M.2.1 (pc + 6) = .ok (.invokespecial ic, 3)) (d9 : decode M.2.1 (pc + 9) = .ok (.athrow, 1))
    (hh : M.2.2.2.2.2 = []) (hdd : 4 ≤ d) (hst : (st.map fun v => v.category).sum ≤ 8) (hc : k + 1 ≤ mc) (hs : n + 6 ≤ ms) (hp : P (.inr E) ws) : J G M d mc ms P pc lv st ws k n :=
  fun p l e s m args below meth c D A C H locs ls hP hD hS hl => by
    intro T hT X
    obtain ⟨hexec, hb, hml, hown, hts, hK, hZ, hA, hlocks, hret, hnm, hex, htr0, hns⟩ := C
    have htr : e.platform.stackTraces = false := (show e.platform.stackTraces = l.stackTraces by rw [X.admits.platform]).trans htr0
    have Y := jRebase X (R' := { frames := (jrm d mc ms).frames, locals := (jrm d mc ms).locals, cells := 1, slots := 6 }) (Nat.le_refl _) (Nat.le_refl _) (by show k + 1 ≤ mc; exact hc) (by show n + 6 ≤ ms; exact hs)
    generalize hs' : (T.setVm s.vm).setFrames (.invoking m args :: below) = s' at Y
    have hvm : s'.vm = s.vm := by rw [← hs']; rfl
    have hhp : s'.heap = H := by rw [← hs']; exact hT
    have hW0 : s.WarmedH s'.vm := by rw [hvm]; exact State.WarmedH.refl s
    have hW : jW0 s' := hK.2.moved hW0
    have hT' : jTh A s' s'.heap := by
      rw [hhp]
      exact (jZ.moved hW0.alike (jZ.kept hZ hS.1 hS.2.1)).2.2.2
    have hown' : s'.vm.findClass M.1 = some m.cls := by rw [hvm]; exact hown
    have hout : ∀ x ∈ c.exceptionTable.toList, covers x (pc + 9) = false := by
      intro x hx9
      rw [hh] at hex
      rw [List.map_eq_nil_iff.mp hex] at hx9
      cases hx9
    have hsize : ls.size = c.maxLocals := by rw [hml]; exact hl.1
    have hat := hx.at (a := args) hW hT'
    obtain ⟨vm₁, cX, kX, hfX, hkX, -, -, X₁, st1⟩ := Y.newCold hexec (own := M.1) (C := E) (index := ik) (n := 6) hown' (jAt hW hk rfl) (jAt hW hi6 rfl) (jAt hW hini rfl)
      (g := F0 m pc ls st) rfl (by rw [hb]; exact d0) (Nat.le_refl _) (Nat.le_refl _)
    obtain ⟨sa, hsa1, hsa2⟩ := jStr hW hstr
    generalize hT1 : (T.setVm vm₁).pushCell { cls := cX, slots := kX.instanceTypes.map defaultValue, vm := .none } = T1 at X₁ st1
    have hcA : T1.heap[T.heap.size]? = some (freshCell cX kX) := by rw [← hT1]; exact State.heap_pushCell_size _ _
    obtain ⟨U, hsteps, hrun, hend, hWU, hsame, ce, hce, hO⟩ := X₁.ctorThrowS hexec htr (own := M.1) (cls := E) (names := ["java/lang/RuntimeException", "java/lang/Exception"]) (ic := ic) hown' hE (by decide +kernel) hat (fun x h => nomatch h) hfX hkX hcA (by rw [hhp, hT]; exact Nat.le_refl _) (msg := .ref sa) rfl
      (g := { method := m, pc := pc + 6, locals := ls, stack := .ref sa :: .ref T.heap.size :: .ref T.heap.size :: st, locked := none }) rfl hsize rfl rfl (rest := st) rfl
      (by rw [hb]; exact d6) (by rw [hb]; exact d9) hout (by show 2 + 3 < d + 2; omega) (by
        have h8 : (st.map fun v => v.category).sum ≤ 8 := hst
        show 2 * 0 + ((Value.ref T.heap.size :: st).map fun v => v.category).sum + (13 * (2 + 1) + 42) ≤ 31 * d + 60
        simp only [List.map_cons, List.sum_cons, show (Value.ref T.heap.size).category = 1 from rfl]
        omega) hlocks
    obtain ⟨f1, f2⟩ := jOld hsame
    rw [hhp] at f1 f2
    have hWs : s.WarmedH U.vm := State.WarmedH.trans hW0 hWU
    refine ⟨U, ?_, .threw T.heap.size, hrun, hend, ⟨⟨.inr E, ws, ⟨T.heap.size, ce, rfl, hce, hO.vm, ?_⟩, hp, hP.kept (fun k9 x hx9 => f2 x.1 ((hP k9 x hx9).lt)), hD⟩, ?_⟩, locs, ⟨hWs, ?_⟩, hS.2.2⟩
    · refine st1 _ ?_
      show Steps p.tables e below (T1.setTop { method := m, pc := pc + 3, locals := ls, stack := .ref T.heap.size :: st, locked := none }) _
      have d3' : decode c.code (pc + 3) = .ok (.dup, 1) := by rw [hb]; exact d3
      have hcat : (Value.ref T.heap.size).category = 1 := rfl
      jvm_step X₁.here [X₁.here.top, hexec, d3', Value.category]
      exact X₁.ldcString hexec (own := M.1) (text := tx) (index := is) (a := sa) hown' hsa1 hsa2
        (g := { method := m, pc := pc + 4, locals := ls, stack := .ref T.heap.size :: .ref T.heap.size :: st, locked := none }) rfl (by rw [hb]; exact d4) _ hsteps
    · have h9 := hO.cls
      rw [hWU.alike.findClass]
      exact h9
    · refine ⟨Nat.le_trans hS.1 f1, fun q h1 h2 => ?_⟩
      rw [f2 q (Nat.lt_of_lt_of_le h1 hS.1)]
      exact hS.2.1 q h1 h2
    · subst hs'
      obtain ⟨e1, e2⟩ := hsame
      rw [State.setFrames_setFrames] at e1
      have h2 : (T.setVm s.vm).sameButNew ({ U with vm := s.vm } : State) [] (0 + 1) (0 + 6) := ⟨e1, e2⟩
      have h3 := X.same.trans h2
      rw [List.append_nil] at h3
      exact h3.mono hc hs
end JU
