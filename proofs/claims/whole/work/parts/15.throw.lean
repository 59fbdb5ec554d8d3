/-! ===== throwing ===== -/
section JA
variable {p : Program} {l : Launch} {e : Env} {R : Room} {s : State} {m : MethodId} {args : Array Value} {below : List Frame} {meth : Method} {c : Code} {T : State} {locs : List Loc} {cells slots : Nat}
/-- behind the invoking instruction's own step: the callee comes back, or throws -/
theorem jBack {y : MethodName} {ws : List Cond} {rm : Room} {Pc : Array Value → State → Prop} {Qc : Array Value → State → Outcome → State → Prop} {mc ms : Nat} {free : Addr → Prop}
    (hM : jMet l y ws rm Pc Qc mc ms free) (X : Stand p l e R s m args below meth c T locs cells slots)
    {g : JFrame} (hg : g.method = m) (hsize : g.locals.size = c.maxLocals) {ig : Instr} {len : Nat} (hdg : decode c.code g.pc = .ok (ig, len))
    (hW : 2 * g.monitorRoom + (g.stack.map fun v => v.category).sum ≤ 8) {mk : MethodId} {a : Array Value} (hn : T.methodNamed? y = some mk)
    {methY : Method} {cY : Code} {maxL : Nat} (hmY : T.vm.method? mk = some methY) (hcY : methY.code = some cY) (hlY : cY.maxLocals = maxL)
    (hws : (allAtoms ws).before a T = true) (hini : (Cond.initialized y.cls).before a T = true)
    (hfr : rm.frames + 1 ≤ R.frames) (hlo : 8 + (maxL + 11) + rm.locals ≤ R.locals) (hrc : cells + rm.cells ≤ R.cells) (hrs : slots + rm.slots ≤ R.slots)
    (hP : Pc a (T.calling g mk a)) :
    ∃ (o : Outcome) (t T' : State) (L : List Loc), T'.heap = t.heap ∧ T'.vm = t.vm ∧ Qc a (T.calling g mk a) o t ∧ (∀ q ∈ L, free q.base) ∧
      Stand p l e R s m args below meth c T' (locs ++ L) (cells + mc) (slots + ms) ∧
      (∀ v, o = .returned v → Steps p.tables e below (doInvoke e (T.setTop g) [] mk a).1 (T'.setTop { g with pc := g.pc + len, stack := v.toList ++ g.stack })) ∧
      (∀ x, o = .threw x → Steps p.tables e below (doInvoke e (T.setTop g) [] mk a).1 ((T'.setTop g).pushFrame (.throwing x))) := by
  subst hg
  have h : At T g.method c below := X.here
  obtain ⟨kY, hkY, -⟩ := className_of_methodNamed hn
  have hinitY : kY.init = .initialized := Cond.initialized_spec (findClass_of_methodNamed hn) hkY hini
  have happ : (headSpec ws rm).appliesLoose y e.platform (T.calling g mk a) = true :=
    Spec.appliesLoose_calling (g := g) h hdg hn hkY hinitY (X.room_calling (g := g) (R' := rm) hsize hmY hcY hfr (by rw [hlY]; omega) hrc hrs) hws
  obtain ⟨mid, hmid⟩ := h.above
  have hfr' : (T.setTop g).frames = (.java g :: mid) ++ below := by rw [State.frames_setTop' g h.top, hmid]; rfl
  obtain ⟨o, t, hst, -, hend, hq9⟩ := Steps.callFree hM p X.admits X.cas X.clock (acts := []) hfr' happ hP trivial
  have hq8 : Qc a (T.calling g mk a) o t ∧ ∃ L, jFE (T.calling g mk a) t L mc ms ∧ ∀ q ∈ L, free q.base := hq9
  obtain ⟨hq, L, ⟨hWt, hsm⟩, hL⟩ := hq8
  rw [State.frames_setTop' g h.top] at hend
  obtain ⟨e2, q2, q3, q4, q5, q6⟩ := hsm
  have hW' : T.WarmedH t.vm := hWt
  have e3 : t = ({ (T.calling g mk a).setFrames t.frames with heap := t.heap, slotsUsed := t.slotsUsed } : State).setVm t.vm := by
    have h9 : t = ({ t with vm := (T.calling g mk a).vm } : State).setVm t.vm := rfl
    rw [e2] at h9
    exact h9
  obtain ⟨g₀, hg0⟩ := Option.isSome_iff_exists.mp h.top
  obtain ⟨r, hr⟩ := State.topJava?_eq_some.mp hg0
  have hr' : (({ T with heap := t.heap, slotsUsed := t.slotsUsed } : State).setVm t.vm).frames = .java g₀ :: r := hr
  have hsame : T.sameButNew ({ T with heap := t.heap, slotsUsed := t.slotsUsed } : State) L mc ms := by
    refine ⟨?_, q2, q3, q4, q5, q6⟩
    obtain ⟨z, hz, -⟩ := State.frames_cons hr
    show ({ T with heap := t.heap, slotsUsed := t.slotsUsed } : State) = { T.setFrames T.frames with heap := t.heap, slotsUsed := t.slotsUsed }
    rw [State.setFrames_self hz]
  refine ⟨o, t, ({ T with heap := t.heap, slotsUsed := t.slotsUsed } : State).setVm t.vm, L, rfl, rfl, hq, hL,
    ⟨X.admits, X.cas, X.clock, X.frames, X.room, X.hears, X.method, X.code, (X.here.setHeapUsed t.heap t.slotsUsed).setVm hW'.alike, X.tail, State.WarmedH.trans X.warmed hW', X.limits, X.bytes, X.same.trans (hsame.setVm s.vm)⟩, ?_, ?_⟩
  · intro v hv
    subst hv
    obtain ⟨c₂, i₂, len₂, hc₂, hd₂, hf₂⟩ := hend
    have hcc : c₂ = c := by
      have h1 : t.code? g.method = T.code? g.method := by rw [State.code?_eq, State.code?_eq, hW'.alike.method?]
      exact Option.some.inj (hc₂.symm.trans (h1.trans h.code))
    subst hcc
    have hlen : len₂ = len := by rw [hdg] at hd₂; cases hd₂; rfl
    subst hlen
    have hs₂ : t = (({ T with heap := t.heap, slotsUsed := t.slotsUsed } : State).setVm t.vm).setTop { g with pc := g.pc + len₂, stack := v.toList ++ g.stack } := by
      refine e3.trans ?_
      rw [hf₂, State.calling_eq h.top, State.setFrames_setFrames, State.setTop_of_frames _ hr', hr]
      rfl
    rw [← hs₂]
    exact hst
  · intro x hx
    subst hx
    have hf₂ : t.frames = .throwing x :: .java g :: T.frames.tail := hend
    have hs₂ : t = ((({ T with heap := t.heap, slotsUsed := t.slotsUsed } : State).setVm t.vm).setTop g).pushFrame (.throwing x) := by
      refine e3.trans ?_
      rw [hf₂, State.calling_eq h.top, State.setFrames_setFrames, State.pushFrame, State.frames_setTop _ hr', State.setTop_of_frames _ hr', State.setFrames_setFrames, hr]
      rfl
    rw [← hs₂]
    exact hst
end JA
/-- the words that a state of the run has: the good ones, and those on methods declared and classes castable -/
def jok (w : Cond) : Bool := goodWord w || (match w with | .declares _ => true | .castable .. => true | _ => false)
theorem jAt {U : State} {a : Array Value} {w : Cond} (h : jW0 U) (hw : w ∈ lw_tbl) (hk : jok w = true) : w.before a U = true := by
  obtain ⟨s0, a0, h1, h2⟩ := h
  have h3 := h1 w hw
  unfold jok at hk
  rcases Bool.or_eq_true_iff.mp hk with hk | hk
  · exact word_at h2 (good_of_word hk) h3
  · cases w with
    | declares x => exact va_Nw.use rfl (va_Nw.warmD h2 (va_Nw.of rfl h3))
    | castable x y => exact va_Nw.use rfl (va_Nw.warmC h2 (va_Nw.of rfl h3))
    | _ => cases hk
/-- what it takes to make and throw an E in the class own -/
def jEx (own : String) (ic : Nat) (E : String) : Prop := ∀ w ∈ Bundle.ownAtoms own ic E ["java/lang/RuntimeException", "java/lang/Exception"], (w = .laysStatic Bundle.tN "UNASSIGNED_STACK" Bundle.steD ∨ w = .laysStatic Bundle.tN "SUPPRESSED_SENTINEL" Bundle.listD ∨ w = .isRef (.static Bundle.tN "UNASSIGNED_STACK" Bundle.steD) ∨ w = .isRef (.static Bundle.tN "SUPPRESSED_SENTINEL" Bundle.listD)) ∨ (w ∈ lw_tbl ∧ jok w = true)
theorem jEx.at {own E : String} {ic : Nat} {A : Nat → Prop} {U : State} {a : Array Value} (h : jEx own ic E) (hW : jW0 U) (hT : jTh A U U.heap) : ∀ w ∈ Bundle.ownAtoms own ic E ["java/lang/RuntimeException", "java/lang/Exception"], w.before a U = true := by
  intro w hw
  rcases h w hw with (h1 | h1 | h1 | h1) | ⟨h1, h2⟩
  · rw [h1]; exact hT.1.lays
  · rw [h1]; exact hT.2.1.lays
  · rw [h1]; exact hT.1.ref
  · rw [h1]; exact hT.2.1.ref
  · exact jAt hW h1 h2
theorem jStr {U : State} {own tx : String} {i : Nat} (h : jW0 U) (hx : Cond.stringRef own i tx ∈ lw_tbl) : ∃ a, vk_R own i tx a U := by
  obtain ⟨s0, a0, h1, h2⟩ := h
  have h3 := h1 _ hx
  cases hc : s0.vm.findClass own with
  | none => simp [Cond.before, Cond.holds, Cond.value, hc] at h3
  | some c =>
    obtain ⟨k, cf, j, a', hk, hcf, hcp, -, hr, hev⟩ := Cond.stringRef_spec hc h3
    exact ⟨a', vk_R.warm h2 ⟨h3, hev⟩⟩
