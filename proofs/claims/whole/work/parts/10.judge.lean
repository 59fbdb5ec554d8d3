/-! ===== both ends of a method: it answers, or it throws ===== -/
def jFE (first t : State) (L : List Loc) (k n : Nat) : Prop := first.WarmedH t.vm ∧ first.sameButNew ({ t with vm := first.vm } : State) L k n
def jMet (l : Launch) (y : MethodName) (ws : List Cond) (rm : Room) (Pc : Array Value → State → Prop) (Qc : Array Value → State → Outcome → State → Prop) (mc ms : Nat) (free : Addr → Prop) : Prop :=
  MetFree l y (headSpec ws rm) Pc (fun _ _ _ _ _ => True) (fun a st o t => Qc a st o t ∧ ∃ L, jFE st t L mc ms ∧ ∀ q ∈ L, free q.base)
def jMQ (below : List Frame) (Qc : Array Value → State → Outcome → State → Prop) (a : Array Value) (s : State) (mc ms : Nat) (free : Addr → Prop) : State → Prop := fun t =>
  ∃ o, t.status = .running ∧ Ended t below o ∧ Qc a s o t ∧ ∃ L, jFE s t L mc ms ∧ ∀ q ∈ L, free q.base
/-! ===== the judgement J: from here the method ends, as P says ===== -/
def jTabS : Nat → Int32 := fun j => ([1779033703, -1150833019, 1013904242, -1521486534, 1359893119, -1694144372, 528734635, 1541459225] : List Int32).getD j 0
def jTabK : Nat → Int32 := fun j => ([1116352408, 1899447441, -1245643825, -373957723, 961987163, 1508970993, -1841331548, -1424204075, -670586216, 310598401, 607225278, 1426881987, 1925078388, -2132889090, -1680079193, -1046744716, -459576895, -272742522, 264347078, 604807628, 770255983, 1249150122, 1555081692, 1996064986, -1740746414, -1473132947, -1341970488, -1084653625, -958395405, -710438585, 113926993, 338241895, 666307205, 773529912, 1294757372, 1396182291, 1695183700, 1986661051, -2117940946, -1838011259, -1564481375, -1474664885, -1035236496, -949202525, -778901479, -694614492, -200395387, 275423344, 430227734, 506948616, 659060556, 883997877, 958139571, 1322822218, 1537002063, 1747873779, 1955562222, 2024104815, -2067236844, -1933114872, -1866530822, -1538233109, -1090935817, -965641998] : List Int32).getD j 0
/-- room: d calls may nest, mc cells of ms slots may be made -/
def jrm (d mc ms : Nat) : Room := { frames := d + 2, cells := mc, slots := ms, locals := 31 * d + 60 }
/-- the numbers of array classes; the addresses of arrays that were there before (two tables, the script); the script's length and ints -/
abbrev jG : Type := (Nat → ClassId) × (Nat → Nat) × Nat × (Nat → Int32)
def jT (G : jG) : List (ClassId × FieldType) := [(G.1 0, .int), (G.1 1, .byte), (G.1 2, .long), (G.1 3, .object "SharingRoom$Field"), (G.1 4, .object "SharingRoom$Group"), (G.1 5, .object "SharingRoom$Party"), (G.1 6, .array .int)]
abbrev jR : Type := Option Value ⊕ String
def jOut (o : Outcome) (r : jR) (t : State) : Prop := match r with
  | .inl v => o = .returned v
  | .inr E => ∃ (x : Addr) (cell : Cell), o = .threw x ∧ t.heap[x]? = some cell ∧ cell.vm = .none ∧ t.vm.findClass E = some cell.cls
def jPost (P : jR → va_W → Prop) (D : va_G) (A : Nat → Prop) : Array Value → State → Outcome → State → Prop := fun _ st o t =>
  (∃ (r : jR) (ws : va_W), jOut o r t ∧ P r ws ∧ va_P D vwCl ws t.heap ∧ va_D A ws) ∧ va_F A st t
/-- the tables' words held where the law began, and the tables have only become warmer -/
def jW0 (U : State) : Prop := ∃ (s0 : State) (a0 : Array Value), (∀ w ∈ lw_tbl, w.before a0 s0 = true) ∧ s0.WarmedH U.vm
theorem jW0.moved {u U : State} (hW : u.WarmedH U.vm) (h : jW0 u) : jW0 U := by
  obtain ⟨s0, a0, h1, h2⟩ := h
  exact ⟨s0, a0, h1, State.WarmedH.trans h2 hW⟩
def jK (G : jG) (D : va_G) (U : State) : Prop := va_K D vwCl (jT G) U ∧ jW0 U
theorem jK.moved {G : jG} {D : va_G} {u U : State} (hW : u.WarmedH U.vm) (h : jK G D u) : jK G D U := ⟨va_K.moved hW.alike h.1, h.2.moved hW⟩
def jXs (G : jG) : List (Nat × Nat × (Nat → Int32)) := [(G.2.1 0, 8, jTabS), (G.2.1 1, 64, jTabK), (G.2.1 2, G.2.2.1, G.2.2.2)]
def jSha : String := "SharingRoom$Sha256"
/-- a static field that holds a reference or null, as the tables lay it; its cell is none that may be written -/
def jSt (C n d : String) (A : Nat → Prop) (U : State) (H : Heap) : Prop := ∃ (c : ClassId) (k : Class) (i : Nat) (f : Field) (a : Nat) (cell : Cell) (v : Value), U.fieldFound? C n d = some (c, k, i, f) ∧ U.vm.findClass C = some c ∧ k.statics = some a ∧ k.staticTypes[f.slot]? = some f.type ∧ f.isStatic = true ∧ H[a]? = some cell ∧ cell.vm.isStatics = true ∧ cell.cls = c ∧ f.slot < cell.slots.size ∧ cell.slots[f.slot]? = some v ∧ v.isRef = true ∧ ¬ A a
theorem jSt.moved {C n d : String} {A : Nat → Prop} {u U : State} {H : Heap} (hvm : u.vm.Alike U.vm) (h : jSt C n d A u H) : jSt C n d A U H := by
  obtain ⟨c, k, i, f, a, cell, v, h1, h2, h3, h4, h5⟩ := h
  obtain ⟨k', hi', he⟩ := State.fieldFound?_setVm hvm h1
  exact ⟨c, k', i, f, a, cell, v, hi', by rw [hvm.findClass]; exact h2, by rw [he]; exact h3, by rw [he]; exact h4, h5⟩
theorem jSt.kept {C n d : String} {A : Nat → Prop} {U : State} {H H1 : Heap} (h : jSt C n d A U H) (hq : ∀ a : Nat, a < H.size → ¬ A a → H1[a]? = H[a]?) : jSt C n d A U H1 := by
  obtain ⟨c, k, i, f, a, cell, v, h1, h2, h3, h4, h5, h6, h7, h8, h9, h10, h11, h12⟩ := h
  exact ⟨c, k, i, f, a, cell, v, h1, h2, h3, h4, h5, by rw [hq a (Array.getElem?_eq_some_iff.mp h6).1 h12]; exact h6, h7, h8, h9, h10, h11, h12⟩
theorem jSt.narrow {C n d : String} {A B : Nat → Prop} {U : State} {H : Heap} (h : jSt C n d A U H) (hAB : ∀ q, B q → A q) : jSt C n d B U H := by
  obtain ⟨c, k, i, f, a, cell, v, h1, h2, h3, h4, h5, h6, h7, h8, h9, h10, h11, h12⟩ := h
  exact ⟨c, k, i, f, a, cell, v, h1, h2, h3, h4, h5, h6, h7, h8, h9, h10, h11, fun z => h12 (hAB a z)⟩
theorem jSt.lays {C n d : String} {A : Nat → Prop} {U : State} {a0 : Array Value} (h : jSt C n d A U U.heap) : (Cond.laysStatic C n d).before a0 U = true := by
  obtain ⟨c, k, i, f, a, cell, v, h1, h2, h3, h4, h5, h6, h7, h8, h9, h10, h11, h12⟩ := h
  simp [Cond.before, Cond.holds, Cond.value, h1, h2, h3, h4, h5, h6, h7, h8, h9]
theorem jSt.ref {C n d : String} {A : Nat → Prop} {U : State} {a0 : Array Value} (h : jSt C n d A U U.heap) : (Cond.isRef (.static C n d)).before a0 U = true := by
  obtain ⟨c, k, i, f, a, cell, v, h1, h2, h3, h4, h5, h6, h7, h8, h9, h10, h11, h12⟩ := h
  have e : (Term.static C n d).eval a0 U none [] U = some v := Term.static_eval h1 h5 h3 h6 h7 h10
  cases v with
  | ref x => simp [Cond.before, Cond.holds, Cond.value, e]
  | null => simp [Cond.before, Cond.holds, Cond.value, e]
  | _ => cases h11
def jTh (A : Nat → Prop) (U : State) (H : Heap) : Prop := jSt Bundle.tN "UNASSIGNED_STACK" Bundle.steD A U H ∧ jSt Bundle.tN "SUPPRESSED_SENTINEL" Bundle.listD A U H ∧ va_Nc "java/lang/IllegalStateException" "java/lang/IllegalArgumentException" U ∧ va_Nc "java/lang/IllegalArgumentException" "java/lang/IllegalStateException" U
def jZ (G : jG) (A : Nat → Prop) (U : State) (H : Heap) : Prop :=
  (∀ (i : Nat) (q : Nat × Nat × (Nat → Int32)), (jXs G)[i]? = some q → va_X q.1 q.2.1 q.2.2 U H ∧ q.1 < H.size ∧ ¬ A q.1) ∧ va_Z jSha "START" "[I" (.ref (G.2.1 0)) A U H ∧ va_Z jSha "ROUND_CONSTANTS" "[I" (.ref (G.2.1 1)) A U H ∧ jTh A U H
theorem jZ.moved {G : jG} {A : Nat → Prop} {u U : State} {H : Heap} (hvm : u.vm.Alike U.vm) (h : jZ G A u H) : jZ G A U H := by
  obtain ⟨h1, h2, h3, h4, h5, h6, h7⟩ := h
  exact ⟨fun i q hq => ⟨va_X.moved hvm (h1 i q hq).1, (h1 i q hq).2⟩, va_Z.moved hvm h2, va_Z.moved hvm h3, jSt.moved hvm h4, jSt.moved hvm h5, h6.moved hvm, h7.moved hvm⟩
theorem jZ.kept {G : jG} {A : Nat → Prop} {U : State} {H H1 : Heap} (h : jZ G A U H) (hs : H.size ≤ H1.size) (hq : ∀ a : Nat, a < H.size → ¬ A a → H1[a]? = H[a]?) : jZ G A U H1 := by
  obtain ⟨h1, h2, h3, h4, h5, h6, h7⟩ := h
  exact ⟨fun i q hi => ⟨va_X.kept (h1 i q hi).1 (hq _ (h1 i q hi).2.1 (h1 i q hi).2.2), Nat.lt_of_lt_of_le (h1 i q hi).2.1 hs, (h1 i q hi).2.2⟩, va_Z.kept h2 hq, va_Z.kept h3 hq, jSt.kept h4 hq, jSt.kept h5 hq, h6, h7⟩
theorem jZ.narrow {G : jG} {A B : Nat → Prop} {U : State} {H : Heap} (hAB : ∀ q, B q → A q) (h : jZ G A U H) : jZ G B U H := by
  obtain ⟨h1, h2, h3, h4, h5, h6, h7⟩ := h
  exact ⟨fun i q hi => ⟨(h1 i q hi).1, (h1 i q hi).2.1, fun hB => (h1 i q hi).2.2 (hAB _ hB)⟩, va_Z.narrow h2 hAB, va_Z.narrow h3 hAB, jSt.narrow h4 hAB, jSt.narrow h5 hAB, h6, h7⟩
def jC (G : jG) (M : jM) (p : Program) (l : Launch) (s : State) (m : MethodId) (args : Array Value) (meth : Method) (c : Code) (D : va_G) (A : Nat → Prop) : Prop :=
  p.tables.exec = Jvm.exec ∧ c.code = M.2.1 ∧ c.maxLocals = M.2.2.1 ∧ s.vm.findClass M.1 = some m.cls ∧ (∀ w ∈ jWS, w.before args s = true) ∧ jK G D s ∧ jZ G A s s.heap ∧ (∀ q, s.heap.size ≤ q → A q) ∧ meth.locks = false ∧ meth.sig.returnType = M.2.2.2.1 ∧ meth.name = M.2.2.2.2.1 ∧ c.exceptionTable.toList.map (fun h => (h.startPc, h.endPc, h.handlerPc, h.catchType)) = M.2.2.2.2.2 ∧ l.stackTraces = false ∧ (∀ q, A q → ∀ cell : Cell, s.heap[q]? = some cell → cell.vm.isStatics = false)
def J (G : jG) (M : jM) (d mc ms : Nat) (P : jR → va_W → Prop) (pc : Nat) (lv : List (Nat × Value)) (st : List Value) (ws : va_W) (k n : Nat) : Prop :=
  ∀ (p : Program) (l : Launch) (e : Env) (s : State) (m : MethodId) (args : Array Value) (below : List Frame) (meth : Method) (c : Code) (D : va_G) (A : Nat → Prop), jC G M p l s m args meth c D A →
    ∀ (H : Heap) (locs : List Loc) (ls : Array Slot), va_P D vwCl ws H → va_D A ws → va_S A s.heap H locs → lv_has ls M.2.2.1 lv →
      W p l e (jrm d mc ms) s m args below meth c H locs k n (jMQ below (jPost P D A) args s mc ms A) (F0 m pc ls st)
def jrem (x y : Int32) : Int32 := x - x / y * y
def jushr (x y : Int32) : Int32 := (x.toUInt32 >>> (y.toUInt32 &&& Int32.toUInt32 31)).toInt32
def jcat (lv : List (Nat × Value)) : Bool := lv.all (fun q => q.2.category == 1)
def jset : List (Nat × Value) → Nat → Value → List (Nat × Value)
  | [], i, v => [(i, v)]
  | q :: l, i, v => if q.1 = i then (i, v) :: l.filter (fun r => !(r.1 == i)) else if i < q.1 then (i, v) :: (q :: l).filter (fun r => !(r.1 == i)) else q :: jset l i v
theorem jset_mem {i : Nat} {v : Value} : ∀ {lv : List (Nat × Value)} {q : Nat × Value}, q ∈ jset lv i v → q = (i, v) ∨ (q ∈ lv ∧ q.1 ≠ i)
  | [], q, h => by
    simp only [jset, List.mem_singleton] at h
    exact Or.inl h
  | r :: l, q, h => by
    unfold jset at h
    split at h
    · rcases List.mem_cons.mp h with h | h
      · exact Or.inl h
      · obtain ⟨h1, h2⟩ := List.mem_filter.mp h
        exact Or.inr ⟨List.mem_cons_of_mem _ h1, by simpa using h2⟩
    · rename_i hr
      split at h
      · rcases List.mem_cons.mp h with h | h
        · exact Or.inl h
        · obtain ⟨h1, h2⟩ := List.mem_filter.mp h
          exact Or.inr ⟨h1, by simpa using h2⟩
      · rcases List.mem_cons.mp h with h | h
        · exact Or.inr ⟨by rw [h]; exact List.mem_cons_self, by rw [h]; exact hr⟩
        · rcases jset_mem h with h | ⟨h1, h2⟩
          · exact Or.inl h
          · exact Or.inr ⟨List.mem_cons_of_mem _ h1, h2⟩
theorem jlset {lv lv' : List (Nat × Value)} {ls : Array Slot} {nL i : Nat} {v : Value} (h1 : jcat lv = true) (h : lv_has ls nL ((i, v) :: lv.filter (fun q => !(q.1 == i) && !(q.1 + 1 == i && q.2.category == 2)))) (hs : jset lv i v = lv') : lv_has ls nL lv' := by
  subst hs
  refine ⟨h.1, h.2.1, fun q hq => h.2.2 q ?_⟩
  rcases jset_mem hq with hq | ⟨hq, hn⟩
  · rw [hq]; exact List.mem_cons_self
  · refine List.mem_cons_of_mem _ (List.mem_filter.mpr ⟨hq, ?_⟩)
    have h2 := (List.all_eq_true.mp h1) q hq
    have h3 : q.2.category = 1 := by simpa using h2
    simp [hn, h3]
/-- the locals in another order, or fewer of them -/
theorem j_locals {G : jG} {M : jM} {d mc ms : Nat} {P : jR → va_W → Prop} {pc : Nat} {lv lv' : List (Nat × Value)} {st : List Value} {ws : va_W} {k n : Nat} (h : ∀ q ∈ lv', q ∈ lv) (kk : J G M d mc ms P pc lv' st ws k n) : J G M d mc ms P pc lv st ws k n :=
  fun p l e s m args below meth c D A C H locs ls hP hD hS hl => kk p l e s m args below meth c D A C H locs ls hP hD hS ⟨hl.1, hl.2.1, fun q hq => hl.2.2 q (h q hq)⟩
theorem j_widen {G : jG} {M : jM} {d mc ms : Nat} {P : jR → va_W → Prop} {pc : Nat} {lv : List (Nat × Value)} {st : List Value} {ws : va_W} {k n k' n' : Nat} (h1 : k ≤ k') (h2 : n ≤ n') (kk : J G M d mc ms P pc lv st ws k' n') : J G M d mc ms P pc lv st ws k n :=
  fun p l e s m args below meth c D A C H locs ls hP hD hS hl => W.widen h1 h2 (kk p l e s m args below meth c D A C H locs ls hP hD hS hl)
section JR
variable {G : jG} {M : jM} {d mc ms : Nat} {P : jR → va_W → Prop} {pc : Nat} {lv : List (Nat × Value)} {st : List Value} {ws : va_W} {k n : Nat}
theorem j_iadd {x y : Int32} (hd : decode M.2.1 pc = .ok (.iadd, 1)) (kk : J G M d mc ms P (pc + 1) lv (.int (x + y) :: st) ws k n) : J G M d mc ms P (pc) lv (.int y :: .int x :: st) ws k n :=
  fun p l e s m args below meth c D A C H locs ls hP hD hS hl => lv_iadd C.1 C.2.1 hd (kk p l e s m args below meth c D A C H locs ls hP hD hS hl)
theorem j_isub {x y : Int32} (hd : decode M.2.1 pc = .ok (.isub, 1)) (kk : J G M d mc ms P (pc + 1) lv (.int (x - y) :: st) ws k n) : J G M d mc ms P (pc) lv (.int y :: .int x :: st) ws k n :=
  fun p l e s m args below meth c D A C H locs ls hP hD hS hl => lv_isub C.1 C.2.1 hd (kk p l e s m args below meth c D A C H locs ls hP hD hS hl)
theorem j_imul {x y : Int32} (hd : decode M.2.1 pc = .ok (.imul, 1)) (kk : J G M d mc ms P (pc + 1) lv (.int (x * y) :: st) ws k n) : J G M d mc ms P (pc) lv (.int y :: .int x :: st) ws k n :=
  fun p l e s m args below meth c D A C H locs ls hP hD hS hl => lv_imul C.1 C.2.1 hd (kk p l e s m args below meth c D A C H locs ls hP hD hS hl)
theorem j_iand {x y : Int32} (hd : decode M.2.1 pc = .ok (.iand, 1)) (kk : J G M d mc ms P (pc + 1) lv (.int (x &&& y) :: st) ws k n) : J G M d mc ms P (pc) lv (.int y :: .int x :: st) ws k n :=
  fun p l e s m args below meth c D A C H locs ls hP hD hS hl => lv_iand C.1 C.2.1 hd (kk p l e s m args below meth c D A C H locs ls hP hD hS hl)
theorem j_ior {x y : Int32} (hd : decode M.2.1 pc = .ok (.ior, 1)) (kk : J G M d mc ms P (pc + 1) lv (.int (x ||| y) :: st) ws k n) : J G M d mc ms P (pc) lv (.int y :: .int x :: st) ws k n :=
  fun p l e s m args below meth c D A C H locs ls hP hD hS hl => lv_ior C.1 C.2.1 hd (kk p l e s m args below meth c D A C H locs ls hP hD hS hl)
theorem j_ixor {x y : Int32} (hd : decode M.2.1 pc = .ok (.ixor, 1)) (kk : J G M d mc ms P (pc + 1) lv (.int (x ^^^ y) :: st) ws k n) : J G M d mc ms P (pc) lv (.int y :: .int x :: st) ws k n :=
  fun p l e s m args below meth c D A C H locs ls hP hD hS hl => lv_ixor C.1 C.2.1 hd (kk p l e s m args below meth c D A C H locs ls hP hD hS hl)
theorem j_idiv {x y : Int32} (hd : decode M.2.1 pc = .ok (.idiv, 1)) (hne : ¬ y = 0) (kk : J G M d mc ms P (pc + 1) lv (.int (x / y) :: st) ws k n) : J G M d mc ms P (pc) lv (.int y :: .int x :: st) ws k n :=
  fun p l e s m args below meth c D A C H locs ls hP hD hS hl => lv_idiv C.1 C.2.1 hd hne (kk p l e s m args below meth c D A C H locs ls hP hD hS hl)
theorem j_irem {x y : Int32} (hd : decode M.2.1 pc = .ok (.irem, 1)) (hne : ¬ y = 0) (kk : J G M d mc ms P (pc + 1) lv (.int (jrem x y) :: st) ws k n) : J G M d mc ms P (pc) lv (.int y :: .int x :: st) ws k n :=
  fun p l e s m args below meth c D A C H locs ls hP hD hS hl => lv_irem C.1 C.2.1 hd hne (kk p l e s m args below meth c D A C H locs ls hP hD hS hl)
theorem j_ineg {x : Int32} (hd : decode M.2.1 pc = .ok (.ineg, 1)) (kk : J G M d mc ms P (pc + 1) lv (.int (-x) :: st) ws k n) : J G M d mc ms P (pc) lv (.int x :: st) ws k n :=
  fun p l e s m args below meth c D A C H locs ls hP hD hS hl => lv_ineg C.1 C.2.1 hd (kk p l e s m args below meth c D A C H locs ls hP hD hS hl)
theorem j_ishl {x y : Int32} (hd : decode M.2.1 pc = .ok (.ishl, 1)) (kk : J G M d mc ms P (pc + 1) lv (.int (x <<< (y &&& 31)) :: st) ws k n) : J G M d mc ms P (pc) lv (.int y :: .int x :: st) ws k n :=
  fun p l e s m args below meth c D A C H locs ls hP hD hS hl => lv_ishl C.1 C.2.1 hd (kk p l e s m args below meth c D A C H locs ls hP hD hS hl)
theorem j_ishr {x y : Int32} (hd : decode M.2.1 pc = .ok (.ishr, 1)) (kk : J G M d mc ms P (pc + 1) lv (.int (x >>> (y &&& 31)) :: st) ws k n) : J G M d mc ms P (pc) lv (.int y :: .int x :: st) ws k n :=
  fun p l e s m args below meth c D A C H locs ls hP hD hS hl => lv_ishr C.1 C.2.1 hd (kk p l e s m args below meth c D A C H locs ls hP hD hS hl)
theorem j_iushr {x y : Int32} (hd : decode M.2.1 pc = .ok (.iushr, 1)) (kk : J G M d mc ms P (pc + 1) lv (.int (jushr x y) :: st) ws k n) : J G M d mc ms P (pc) lv (.int y :: .int x :: st) ws k n :=
  fun p l e s m args below meth c D A C H locs ls hP hD hS hl => lv_iushr C.1 C.2.1 hd rfl (kk p l e s m args below meth c D A C H locs ls hP hD hS hl)
theorem j_iconst {i : Int} {v : Int32} (hd : decode M.2.1 pc = .ok (.iconst i, 1)) (hv : Int32.ofInt i = v) (kk : J G M d mc ms P (pc + 1) lv (.int v :: st) ws k n) : J G M d mc ms P (pc) lv (st) ws k n :=
  fun p l e s m args below meth c D A C H locs ls hP hD hS hl => lv_iconst C.1 C.2.1 hd hv (kk p l e s m args below meth c D A C H locs ls hP hD hS hl)
theorem j_bipush {i : Int} {v : Int32} (hd : decode M.2.1 pc = .ok (.bipush i, 2)) (hv : (Int8.ofInt i).toInt32 = v) (kk : J G M d mc ms P (pc + 2) lv (.int v :: st) ws k n) : J G M d mc ms P (pc) lv (st) ws k n :=
  fun p l e s m args below meth c D A C H locs ls hP hD hS hl => lv_bipush C.1 C.2.1 hd hv (kk p l e s m args below meth c D A C H locs ls hP hD hS hl)
theorem j_sipush {i : Int} {v : Int32} (hd : decode M.2.1 pc = .ok (.sipush i, 3)) (hv : (Int16.ofInt i).toInt32 = v) (kk : J G M d mc ms P (pc + 3) lv (.int v :: st) ws k n) : J G M d mc ms P (pc) lv (st) ws k n :=
  fun p l e s m args below meth c D A C H locs ls hP hD hS hl => lv_sipush C.1 C.2.1 hd hv (kk p l e s m args below meth c D A C H locs ls hP hD hS hl)
theorem j_i2l {x : Int32} (hd : decode M.2.1 pc = .ok (.i2l, 1)) (kk : J G M d mc ms P (pc + 1) lv (.long x.toInt64 :: st) ws k n) : J G M d mc ms P (pc) lv (.int x :: st) ws k n :=
  fun p l e s m args below meth c D A C H locs ls hP hD hS hl => lv_i2l C.1 C.2.1 hd rfl (kk p l e s m args below meth c D A C H locs ls hP hD hS hl)
theorem j_i2b {x : Int32} (hd : decode M.2.1 pc = .ok (.i2b, 1)) (kk : J G M d mc ms P (pc + 1) lv (.int x.toInt8.toInt32 :: st) ws k n) : J G M d mc ms P (pc) lv (.int x :: st) ws k n :=
  fun p l e s m args below meth c D A C H locs ls hP hD hS hl => lv_i2b C.1 C.2.1 hd rfl (kk p l e s m args below meth c D A C H locs ls hP hD hS hl)
theorem j_dup {a : Value} (hd : decode M.2.1 pc = .ok (.dup, 1)) (h1 : a.category = 1) (kk : J G M d mc ms P (pc + 1) lv (a :: a :: st) ws k n) : J G M d mc ms P (pc) lv (a :: st) ws k n :=
  fun p l e s m args below meth c D A C H locs ls hP hD hS hl => lv_dup C.1 C.2.1 hd h1 (kk p l e s m args below meth c D A C H locs ls hP hD hS hl)
theorem j_pop {a : Value} (hd : decode M.2.1 pc = .ok (.pop, 1)) (h1 : a.category = 1) (kk : J G M d mc ms P (pc + 1) lv (st) ws k n) : J G M d mc ms P (pc) lv (a :: st) ws k n :=
  fun p l e s m args below meth c D A C H locs ls hP hD hS hl => lv_pop C.1 C.2.1 hd h1 (kk p l e s m args below meth c D A C H locs ls hP hD hS hl)
theorem j_dup_x1 {a b : Value} (hd : decode M.2.1 pc = .ok (.dup_x1, 1)) (h1 : a.category = 1) (h2 : b.category = 1) (kk : J G M d mc ms P (pc + 1) lv (a :: b :: a :: st) ws k n) : J G M d mc ms P (pc) lv (a :: b :: st) ws k n :=
  fun p l e s m args below meth c D A C H locs ls hP hD hS hl => lv_dup_x1 C.1 C.2.1 hd h1 h2 (kk p l e s m args below meth c D A C H locs ls hP hD hS hl)
theorem j_dup2 {a b : Value} (hd : decode M.2.1 pc = .ok (.dup2, 1)) (h1 : a.category = 1) (h2 : b.category = 1) (kk : J G M d mc ms P (pc + 1) lv (a :: b :: a :: b :: st) ws k n) : J G M d mc ms P (pc) lv (a :: b :: st) ws k n :=
  fun p l e s m args below meth c D A C H locs ls hP hD hS hl => lv_dup2_11 C.1 C.2.1 hd h1 h2 (kk p l e s m args below meth c D A C H locs ls hP hD hS hl)
theorem j_null  (hd : decode M.2.1 pc = .ok (.aconst_null, 1)) (kk : J G M d mc ms P (pc + 1) lv (.null :: st) ws k n) : J G M d mc ms P (pc) lv (st) ws k n :=
  fun p l e s m args below meth c D A C H locs ls hP hD hS hl => lv_null C.1 C.2.1 hd (kk p l e s m args below meth c D A C H locs ls hP hD hS hl)
theorem j_ldc {i : Nat} {v : Int32} (hd : decode M.2.1 pc = .ok (.ldc i, 2)) (hw : Cond.constant M.1 i v ∈ jWS) (kk : J G M d mc ms P (pc + 2) lv (.int v :: st) ws k n) : J G M d mc ms P (pc) lv (st) ws k n :=
  fun p l e s m args below meth c D A C H locs ls hP hD hS hl => lv_ldc C.1 C.2.1 C.2.2.2.1 (C.2.2.2.2.1 _ hw) hd (kk p l e s m args below meth c D A C H locs ls hP hD hS hl)
theorem j_ldcw {i : Nat} {v : Int32} (hd : decode M.2.1 pc = .ok (.ldc_w i, 3)) (hw : Cond.constant M.1 i v ∈ jWS) (kk : J G M d mc ms P (pc + 3) lv (.int v :: st) ws k n) : J G M d mc ms P (pc) lv (st) ws k n :=
  fun p l e s m args below meth c D A C H locs ls hP hD hS hl => lv_ldcw C.1 C.2.1 C.2.2.2.1 (C.2.2.2.2.1 _ hw) hd (kk p l e s m args below meth c D A C H locs ls hP hD hS hl)
theorem j_iload_n {i : Fin 4} {x : Int32} (q : Nat) (hd : decode M.2.1 pc = .ok (.iload_n i, 1)) (h : lv[q]? = some ((i : Nat), .int x)) (kk : J G M d mc ms P (pc + 1) lv (.int x :: st) ws k n) : J G M d mc ms P (pc) lv (st) ws k n :=
  fun p l e s m args below meth c D A C H locs ls hP hD hS hl => lv_iload_n C.1 C.2.1 hd rfl (lv_at hl q h) (kk p l e s m args below meth c D A C H locs ls hP hD hS hl)
theorem j_iload {i : Nat} {x : Int32} (q : Nat) (hd : decode M.2.1 pc = .ok (.iload i, 2)) (h : lv[q]? = some (i, .int x)) (kk : J G M d mc ms P (pc + 2) lv (.int x :: st) ws k n) : J G M d mc ms P (pc) lv (st) ws k n :=
  fun p l e s m args below meth c D A C H locs ls hP hD hS hl => lv_iload C.1 C.2.1 hd (lv_at hl q h) (kk p l e s m args below meth c D A C H locs ls hP hD hS hl)
theorem j_aload_n {i : Fin 4} {x : Nat} (q : Nat) (hd : decode M.2.1 pc = .ok (.aload_n i, 1)) (h : lv[q]? = some ((i : Nat), .ref x)) (kk : J G M d mc ms P (pc + 1) lv (.ref x :: st) ws k n) : J G M d mc ms P (pc) lv (st) ws k n :=
  fun p l e s m args below meth c D A C H locs ls hP hD hS hl => lv_aload_n C.1 C.2.1 hd rfl (lv_at hl q h) (kk p l e s m args below meth c D A C H locs ls hP hD hS hl)
theorem j_aload {i : Nat} {x : Nat} (q : Nat) (hd : decode M.2.1 pc = .ok (.aload i, 2)) (h : lv[q]? = some (i, .ref x)) (kk : J G M d mc ms P (pc + 2) lv (.ref x :: st) ws k n) : J G M d mc ms P (pc) lv (st) ws k n :=
  fun p l e s m args below meth c D A C H locs ls hP hD hS hl => lv_aload C.1 C.2.1 hd (lv_at hl q h) (kk p l e s m args below meth c D A C H locs ls hP hD hS hl)
theorem j_istore_n {i : Fin 4} {x : Int32} {lv' : List (Nat × Value)} (hd : decode M.2.1 pc = .ok (.istore_n i, 1)) (h1 : jcat lv = true) (hn : (i : Nat) < M.2.2.1) (hs : jset lv (i : Nat) (.int x) = lv') (kk : J G M d mc ms P (pc + 1) lv' (st) ws k n) : J G M d mc ms P (pc) lv (.int x :: st) ws k n :=
  fun p l e s m args below meth c D A C H locs ls hP hD hS hl => lv_istore_n C.1 C.2.1 hd rfl hl hn rfl (fun ls' hl' => kk p l e s m args below meth c D A C H locs ls' hP hD hS (jlset h1 hl' hs))
theorem j_istore {i : Nat} {x : Int32} {lv' : List (Nat × Value)} (hd : decode M.2.1 pc = .ok (.istore i, 2)) (h1 : jcat lv = true) (hn : i < M.2.2.1) (hs : jset lv i (.int x) = lv') (kk : J G M d mc ms P (pc + 2) lv' (st) ws k n) : J G M d mc ms P (pc) lv (.int x :: st) ws k n :=
  fun p l e s m args below meth c D A C H locs ls hP hD hS hl => lv_istore C.1 C.2.1 hd hl hn rfl (fun ls' hl' => kk p l e s m args below meth c D A C H locs ls' hP hD hS (jlset h1 hl' hs))
theorem j_astore_n {i : Fin 4} {x : Nat} {lv' : List (Nat × Value)} (hd : decode M.2.1 pc = .ok (.astore_n i, 1)) (h1 : jcat lv = true) (hn : (i : Nat) < M.2.2.1) (hs : jset lv (i : Nat) (.ref x) = lv') (kk : J G M d mc ms P (pc + 1) lv' (st) ws k n) : J G M d mc ms P (pc) lv (.ref x :: st) ws k n :=
  fun p l e s m args below meth c D A C H locs ls hP hD hS hl => lv_astore_n C.1 C.2.1 hd rfl hl hn rfl (fun ls' hl' => kk p l e s m args below meth c D A C H locs ls' hP hD hS (jlset h1 hl' hs))
theorem j_astore {i : Nat} {x : Nat} {lv' : List (Nat × Value)} (hd : decode M.2.1 pc = .ok (.astore i, 2)) (h1 : jcat lv = true) (hn : i < M.2.2.1) (hs : jset lv i (.ref x) = lv') (kk : J G M d mc ms P (pc + 2) lv' (st) ws k n) : J G M d mc ms P (pc) lv (.ref x :: st) ws k n :=
  fun p l e s m args below meth c D A C H locs ls hP hD hS hl => lv_astore C.1 C.2.1 hd hl hn rfl (fun ls' hl' => kk p l e s m args below meth c D A C H locs ls' hP hD hS (jlset h1 hl' hs))
theorem j_iinc {i : Nat} {z : Int} {x v : Int32} {lv' : List (Nat × Value)} (q : Nat) (hd : decode M.2.1 pc = .ok (.iinc i z, 3)) (h : lv[q]? = some (i, .int x)) (hv : x + Int32.ofInt z = v) (h1 : jcat lv = true) (hn : i < M.2.2.1) (hs : jset lv i (.int v) = lv') (kk : J G M d mc ms P (pc + 3) lv' (st) ws k n) : J G M d mc ms P (pc) lv (st) ws k n :=
  fun p l e s m args below meth c D A C H locs ls hP hD hS hl => lv_iinc C.1 C.2.1 hd hl h hv hn rfl (fun ls' hl' => kk p l e s m args below meth c D A C H locs ls' hP hD hS (jlset h1 hl' hs))
theorem j_if_eq {x : Int32} {off : Int} {tgt : Nat} (hd : decode M.2.1 pc = .ok (.ifCond .eq off, 3)) (ht : (pc : Int) + off = (tgt : Int)) (kt : x = 0 → J G M d mc ms P (tgt) lv (st) ws k n) (kf : ¬ (x = 0) → J G M d mc ms P (pc + 3) lv (st) ws k n) : J G M d mc ms P (pc) lv (.int x :: st) ws k n :=
  fun p l e s m args below meth c D A C H locs ls hP hD hS hl => lv_if_eq C.1 C.2.1 hd ht (fun h => kt h p l e s m args below meth c D A C H locs ls hP hD hS hl) (fun h => kf h p l e s m args below meth c D A C H locs ls hP hD hS hl)
theorem j_icmp_eq {x y : Int32} {off : Int} {tgt : Nat} (hd : decode M.2.1 pc = .ok (.if_icmp .eq off, 3)) (ht : (pc : Int) + off = (tgt : Int)) (kt : x = y → J G M d mc ms P (tgt) lv (st) ws k n) (kf : ¬ (x = y) → J G M d mc ms P (pc + 3) lv (st) ws k n) : J G M d mc ms P (pc) lv (.int y :: .int x :: st) ws k n :=
  fun p l e s m args below meth c D A C H locs ls hP hD hS hl => lv_icmp_eq C.1 C.2.1 hd ht (fun h => kt h p l e s m args below meth c D A C H locs ls hP hD hS hl) (fun h => kf h p l e s m args below meth c D A C H locs ls hP hD hS hl)
theorem j_if_ne {x : Int32} {off : Int} {tgt : Nat} (hd : decode M.2.1 pc = .ok (.ifCond .ne off, 3)) (ht : (pc : Int) + off = (tgt : Int)) (kt : ¬ x = 0 → J G M d mc ms P (tgt) lv (st) ws k n) (kf : x = 0 → J G M d mc ms P (pc + 3) lv (st) ws k n) : J G M d mc ms P (pc) lv (.int x :: st) ws k n :=
  fun p l e s m args below meth c D A C H locs ls hP hD hS hl => lv_if_ne C.1 C.2.1 hd ht (fun h => kt h p l e s m args below meth c D A C H locs ls hP hD hS hl) (fun h => kf h p l e s m args below meth c D A C H locs ls hP hD hS hl)
theorem j_icmp_ne {x y : Int32} {off : Int} {tgt : Nat} (hd : decode M.2.1 pc = .ok (.if_icmp .ne off, 3)) (ht : (pc : Int) + off = (tgt : Int)) (kt : ¬ x = y → J G M d mc ms P (tgt) lv (st) ws k n) (kf : x = y → J G M d mc ms P (pc + 3) lv (st) ws k n) : J G M d mc ms P (pc) lv (.int y :: .int x :: st) ws k n :=
  fun p l e s m args below meth c D A C H locs ls hP hD hS hl => lv_icmp_ne C.1 C.2.1 hd ht (fun h => kt h p l e s m args below meth c D A C H locs ls hP hD hS hl) (fun h => kf h p l e s m args below meth c D A C H locs ls hP hD hS hl)
theorem j_if_lt {x : Int32} {off : Int} {tgt : Nat} (hd : decode M.2.1 pc = .ok (.ifCond .lt off, 3)) (ht : (pc : Int) + off = (tgt : Int)) (kt : x < 0 → J G M d mc ms P (tgt) lv (st) ws k n) (kf : ¬ (x < 0) → J G M d mc ms P (pc + 3) lv (st) ws k n) : J G M d mc ms P (pc) lv (.int x :: st) ws k n :=
  fun p l e s m args below meth c D A C H locs ls hP hD hS hl => lv_if_lt C.1 C.2.1 hd ht (fun h => kt h p l e s m args below meth c D A C H locs ls hP hD hS hl) (fun h => kf h p l e s m args below meth c D A C H locs ls hP hD hS hl)
theorem j_icmp_lt {x y : Int32} {off : Int} {tgt : Nat} (hd : decode M.2.1 pc = .ok (.if_icmp .lt off, 3)) (ht : (pc : Int) + off = (tgt : Int)) (kt : x < y → J G M d mc ms P (tgt) lv (st) ws k n) (kf : ¬ (x < y) → J G M d mc ms P (pc + 3) lv (st) ws k n) : J G M d mc ms P (pc) lv (.int y :: .int x :: st) ws k n :=
  fun p l e s m args below meth c D A C H locs ls hP hD hS hl => lv_icmp_lt C.1 C.2.1 hd ht (fun h => kt h p l e s m args below meth c D A C H locs ls hP hD hS hl) (fun h => kf h p l e s m args below meth c D A C H locs ls hP hD hS hl)
theorem j_if_ge {x : Int32} {off : Int} {tgt : Nat} (hd : decode M.2.1 pc = .ok (.ifCond .ge off, 3)) (ht : (pc : Int) + off = (tgt : Int)) (kt : 0 ≤ x → J G M d mc ms P (tgt) lv (st) ws k n) (kf : ¬ (0 ≤ x) → J G M d mc ms P (pc + 3) lv (st) ws k n) : J G M d mc ms P (pc) lv (.int x :: st) ws k n :=
  fun p l e s m args below meth c D A C H locs ls hP hD hS hl => lv_if_ge C.1 C.2.1 hd ht (fun h => kt h p l e s m args below meth c D A C H locs ls hP hD hS hl) (fun h => kf h p l e s m args below meth c D A C H locs ls hP hD hS hl)
theorem j_icmp_ge {x y : Int32} {off : Int} {tgt : Nat} (hd : decode M.2.1 pc = .ok (.if_icmp .ge off, 3)) (ht : (pc : Int) + off = (tgt : Int)) (kt : y ≤ x → J G M d mc ms P (tgt) lv (st) ws k n) (kf : ¬ (y ≤ x) → J G M d mc ms P (pc + 3) lv (st) ws k n) : J G M d mc ms P (pc) lv (.int y :: .int x :: st) ws k n :=
  fun p l e s m args below meth c D A C H locs ls hP hD hS hl => lv_icmp_ge C.1 C.2.1 hd ht (fun h => kt h p l e s m args below meth c D A C H locs ls hP hD hS hl) (fun h => kf h p l e s m args below meth c D A C H locs ls hP hD hS hl)
theorem j_if_gt {x : Int32} {off : Int} {tgt : Nat} (hd : decode M.2.1 pc = .ok (.ifCond .gt off, 3)) (ht : (pc : Int) + off = (tgt : Int)) (kt : 0 < x → J G M d mc ms P (tgt) lv (st) ws k n) (kf : ¬ (0 < x) → J G M d mc ms P (pc + 3) lv (st) ws k n) : J G M d mc ms P (pc) lv (.int x :: st) ws k n :=
  fun p l e s m args below meth c D A C H locs ls hP hD hS hl => lv_if_gt C.1 C.2.1 hd ht (fun h => kt h p l e s m args below meth c D A C H locs ls hP hD hS hl) (fun h => kf h p l e s m args below meth c D A C H locs ls hP hD hS hl)
theorem j_icmp_gt {x y : Int32} {off : Int} {tgt : Nat} (hd : decode M.2.1 pc = .ok (.if_icmp .gt off, 3)) (ht : (pc : Int) + off = (tgt : Int)) (kt : y < x → J G M d mc ms P (tgt) lv (st) ws k n) (kf : ¬ (y < x) → J G M d mc ms P (pc + 3) lv (st) ws k n) : J G M d mc ms P (pc) lv (.int y :: .int x :: st) ws k n :=
  fun p l e s m args below meth c D A C H locs ls hP hD hS hl => lv_icmp_gt C.1 C.2.1 hd ht (fun h => kt h p l e s m args below meth c D A C H locs ls hP hD hS hl) (fun h => kf h p l e s m args below meth c D A C H locs ls hP hD hS hl)
theorem j_if_le {x : Int32} {off : Int} {tgt : Nat} (hd : decode M.2.1 pc = .ok (.ifCond .le off, 3)) (ht : (pc : Int) + off = (tgt : Int)) (kt : x ≤ 0 → J G M d mc ms P (tgt) lv (st) ws k n) (kf : ¬ (x ≤ 0) → J G M d mc ms P (pc + 3) lv (st) ws k n) : J G M d mc ms P (pc) lv (.int x :: st) ws k n :=
  fun p l e s m args below meth c D A C H locs ls hP hD hS hl => lv_if_le C.1 C.2.1 hd ht (fun h => kt h p l e s m args below meth c D A C H locs ls hP hD hS hl) (fun h => kf h p l e s m args below meth c D A C H locs ls hP hD hS hl)
theorem j_icmp_le {x y : Int32} {off : Int} {tgt : Nat} (hd : decode M.2.1 pc = .ok (.if_icmp .le off, 3)) (ht : (pc : Int) + off = (tgt : Int)) (kt : x ≤ y → J G M d mc ms P (tgt) lv (st) ws k n) (kf : ¬ (x ≤ y) → J G M d mc ms P (pc + 3) lv (st) ws k n) : J G M d mc ms P (pc) lv (.int y :: .int x :: st) ws k n :=
  fun p l e s m args below meth c D A C H locs ls hP hD hS hl => lv_icmp_le C.1 C.2.1 hd ht (fun h => kt h p l e s m args below meth c D A C H locs ls hP hD hS hl) (fun h => kf h p l e s m args below meth c D A C H locs ls hP hD hS hl)
theorem j_goto {off : Int} {tgt : Nat} (hd : decode M.2.1 pc = .ok (.goto off, 3)) (ht : (pc : Int) + off = (tgt : Int)) (kk : J G M d mc ms P (tgt) lv (st) ws k n) : J G M d mc ms P (pc) lv (st) ws k n :=
  fun p l e s m args below meth c D A C H locs ls hP hD hS hl => lv_goto C.1 C.2.1 hd ht (kk p l e s m args below meth c D A C H locs ls hP hD hS hl)
end JR
