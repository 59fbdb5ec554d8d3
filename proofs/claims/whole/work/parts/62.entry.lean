set_option maxRecDepth 100000 in
theorem wt471 : Cond.laysStatic "java/lang/Throwable" "UNASSIGNED_STACK" "[Ljava/lang/StackTraceElement;" ∈ lw_tbl := List.mem_of_getElem? (i := 471) rfl
set_option maxRecDepth 100000 in
theorem wt473 : Cond.laysStatic "java/lang/Throwable" "SUPPRESSED_SENTINEL" "Ljava/util/List;" ∈ lw_tbl := List.mem_of_getElem? (i := 473) rfl
set_option maxRecDepth 100000 in
theorem wt958 : Cond.laysStatic "SharingRoom$Sha256" "START" "[I" ∈ lw_tbl := List.mem_of_getElem? (i := 958) rfl
set_option maxRecDepth 100000 in
theorem wt975 : Cond.laysStatic "SharingRoom$Sha256" "ROUND_CONSTANTS" "[I" ∈ lw_tbl := List.mem_of_getElem? (i := 975) rfl
/-! THE CLAIM OUT OF ONE WALK OF THE LAW'S BODY. Your part is whole_start (and what it stands on); all else here is the same for every law, but numbers. -/
def R_law : String := "SharingRoomLaw"
def lw_P (b : Addr) (xs : List Int32) (args : Array Value) (s : State) : Prop := args = #[.ref b] ∧ s.IntsAt b xs ∧ xs.length ≤ 2560 ∧ (Jvm.Cond.and given_1 narrow_1).before args s = true
def lw_Q (_ : Array Value) (s : State) (o : Outcome) (t : State) : Prop := o = .returned (some (.int 1)) ∧ Framed s o t [] 601024 7293034
def lw_Z (below : List Frame) (a : Array Value) (s : State) : State → Prop := fun t => ∃ o, t.status = .running ∧ Ended t below o ∧ lw_Q a s o t
/-- the law's own end, with 1 on the stack, nothing written that was there before, its room as the claim has it -/
theorem lw_ret {p : Program} {l : Launch} {e : Env} {s : State} {m : MethodId} {below : List Frame} {meth : Method} {c : Code} {b : Nat} (hx : p.tables.exec = Jvm.exec) (hb : c.code = code) (hr : meth.sig.returnType = ret) (hlocks : meth.locks = false) {pc : Nat} {H : Heap} {ls : Array Slot} (hdg : decode code pc = .ok (.ireturn, 1)) : W p l e room_1 s m #[Value.ref b] below meth c H [] 601024 7293034 (lw_Z below #[Value.ref b] s) (F0 m pc ls [.int 1]) := by
  intro T hT X
  obtain ⟨fs, hret, hrun, hended, hW, hframe⟩ := X.leave (v := some (.int 1)) (hlocks := hlocks) (fun h => by rw [hr] at h; cases h)
  have hmeth' : T.vm.method? m = some meth := X.method'
  refine ⟨T.setFrames fs, ?_, .returned (some (.int 1)), hrun, hended, rfl, ⟨_, rfl⟩, hW, hframe⟩
  jvm_step X.here [X.here.top, hx, hb, hdg, hmeth', hr, ret, narrow_b1]
  (try refine ⟨rfl, ?_⟩); (try refine ⟨rfl, ?_⟩)
  first | (intro acts; rw [hret _ acts rfl rfl rfl]) | rw [hret _ _ rfl rfl rfl]
  exact Steps.refl _
/-- what holds at the law's entry: the machine, the code, the tables' words (any of lw_tbl by 'hts w (by decide +kernel)'), the script of L ints xs at the cell b, what the Statement gives of the start (any of its parts by flat_of_before) -/
def lw_At (p : Program) (s : State) (m : MethodId) (meth : Method) (c : Code) (b L : Nat) (xs : Nat → Int32) : Prop :=
  p.tables.exec = Jvm.exec ∧ c.code = code ∧ meth.sig.returnType = ret ∧ c.maxLocals = 7 ∧ s.vm.findClass R_law = some m.cls ∧ (∀ w ∈ lw_tbl, w.before #[Value.ref b] s = true) ∧ va_X b L xs s s.heap ∧ b < s.heap.size ∧ meth.locks = false ∧ (Jvm.Cond.and given_1 narrow_1).before #[Value.ref b] s = true ∧ meth.name = "law" ∧ c.exceptionTable.toList.map (fun h => (h.startPc, h.endPc, h.handlerPc, h.catchType)) = []
/-! ===== the entry ===== -/
theorem lwArrC {s : State} {args : Array Value} {ty : FieldType} (hne : ∀ C, ty ≠ .object C) (h : (Cond.arrayClass ty).before args s = true) : ∃ cA : ClassId, ArrOfT s cA ty ∧ va_RA s cA ty := by
  obtain ⟨c, k, comp, h1, h2, h3⟩ := Cond.arrayClass_spec h
  refine ⟨c, fun n z => ⟨fun k hk => (by cases hk), k, h2, comp, h3⟩, ?_⟩
  cases ty with
  | object C => exact absurd rfl (hne C)
  | _ => exact h1
theorem lwArrO {s : State} {args : Array Value} {C : String} (h : (Cond.arrayOver (.object C)).before args s = true) : ∃ cA : ClassId, ArrOfT s cA (.object C) ∧ va_RA s cA (.object C) := by
  obtain ⟨comp, c, k, h1, -, h3, h4, h5⟩ := Cond.arrayOver_spec h
  exact ⟨c, fun n z => ⟨fun k hk => (by cases hk), k, h3, comp, h4⟩, k, comp, h3, h4, h1, h5⟩
theorem lwArrA {s : State} {args : Array Value} (h : (Cond.arrayOver (.array .int)).before args s = true) : ∃ cA : ClassId, ArrOfT s cA (.array .int) ∧ va_RA s cA (.array .int) := by
  obtain ⟨comp, c, k, h1, -, h3, h4, h5⟩ := arrayOverA_spec h
  exact ⟨c, fun n z => ⟨fun k hk => (by cases hk), k, h3, comp, h4⟩, h5⟩
theorem lwKn {s : State} {args : Array Value} (hts : ∀ w ∈ jWS, w.before args s = true) : ∀ c : Nat, ∃ x : ClassId × (Nat → Nat), ∀ q : vw_C, vwCl[c]? = some q → u_Kn s q.1 q.2.1 q.2.2 x.1 x.2 := by
  intro c
  match c with
  | 0 =>
    obtain ⟨cC, is, h⟩ := u_known (C := "SharingRoom") (T := T_SR) (N := 3) hts in_SR (hts _ w87)
    refine ⟨(cC, is), fun q hq => ?_⟩
    obtain rfl := Option.some.inj hq
    exact h
  | 1 =>
    obtain ⟨cC, is, h⟩ := u_known (C := "SharingRoom$Board") (T := T_Board) (N := 3) hts in_Board (hts _ w193)
    refine ⟨(cC, is), fun q hq => ?_⟩
    obtain rfl := Option.some.inj hq
    exact h
  | 2 =>
    obtain ⟨cC, is, h⟩ := u_known (C := "SharingRoom$ByteField") (T := T_Byte) (N := 1) hts in_Byte (hts _ w113)
    refine ⟨(cC, is), fun q hq => ?_⟩
    obtain rfl := Option.some.inj hq
    exact h
  | 3 =>
    obtain ⟨cC, is, h⟩ := u_known (C := "SharingRoom$CurveGroup") (T := T_Curve) (N := 5) hts in_Curve (hts _ w173)
    refine ⟨(cC, is), fun q hq => ?_⟩
    obtain rfl := Option.some.inj hq
    exact h
  | 4 =>
    obtain ⟨cC, is, h⟩ := u_known (C := "SharingRoom$Party") (T := T_Party) (N := 10) hts in_Party (hts _ w229)
    refine ⟨(cC, is), fun q hq => ?_⟩
    obtain rfl := Option.some.inj hq
    exact h
  | 5 =>
    obtain ⟨cC, is, h⟩ := u_known (C := "SharingRoom$Points") (T := T_Points) (N := 5) hts in_Points (hts _ w121)
    refine ⟨(cC, is), fun q hq => ?_⟩
    obtain rfl := Option.some.inj hq
    exact h
  | 6 =>
    obtain ⟨cC, is, h⟩ := u_known (C := "SharingRoom$PrimeField") (T := T_Prime) (N := 1) hts in_Prime (hts _ w95)
    refine ⟨(cC, is), fun q hq => ?_⟩
    obtain rfl := Option.some.inj hq
    exact h
  | 7 =>
    obtain ⟨cC, is, h⟩ := u_known (C := "SharingRoom$Room") (T := T_Room) (N := 15) hts in_Room (hts _ w144)
    refine ⟨(cC, is), fun q hq => ?_⟩
    obtain rfl := Option.some.inj hq
    exact h
  | 8 =>
    obtain ⟨cC, is, h⟩ := u_known (C := "SharingRoom$Sha256") (T := T_Sha) (N := 3) hts in_Sha (hts _ w199)
    refine ⟨(cC, is), fun q hq => ?_⟩
    obtain rfl := Option.some.inj hq
    exact h
  | 9 =>
    obtain ⟨cC, is, h⟩ := u_known (C := "SharingRoom$SquareGroup") (T := T_Square) (N := 4) hts in_Square (hts _ w146)
    refine ⟨(cC, is), fun q hq => ?_⟩
    obtain rfl := Option.some.inj hq
    exact h
  | 10 =>
    obtain ⟨cC, is, h⟩ := u_known (C := "SharingRoomModel") (T := T_Mod) (N := 48) hts in_Mod (hts _ w1045)
    refine ⟨(cC, is), fun q hq => ?_⟩
    obtain rfl := Option.some.inj hq
    exact h
  | k + 11 => exact ⟨(0, fun _ => 0), fun q hq => by cases hq⟩
theorem lwEq {args : Array Value} {s : State} {t : Term} {z : Int32} (h : (Cond.eq t (.int z)).before args s = true) : t.eval args s none [] s = some (.int z) := by
  cases hv : t.eval args s none [] s with
  | none => simp [Cond.before, Cond.holds, Cond.value, hv] at h
  | some w =>
    have hz : (Term.int z).eval args s none [] s = some (.int z) := rfl
    simp only [Cond.before, Cond.holds, Cond.value, hv, hz] at h
    cases w <;> simp_all
theorem lwLen {args : Array Value} {s : State} {t : Term} {v : Value} (h : (Term.length t).eval args s none [] s = some v) : ∃ a cell, t.eval args s none [] s = some (.ref a) ∧ s.arrayAt? a = some cell ∧ v = .int cell.slots.size.toInt32 ∧ cell.slots.size < 2147483648 := by
  simp only [Term.eval, Option.bind_eq_bind] at h
  cases ht : t.eval args s none [] s with
  | none => simp [ht] at h
  | some x =>
    cases x <;> simp [ht] at h
    case ref a =>
      obtain ⟨cell, hcell, h⟩ := Option.bind_eq_some_iff.mp h
      by_cases hn : cell.slots.size < 2147483648
      · rw [if_pos hn] at h; cases h; exact ⟨a, cell, rfl, hcell, rfl, hn⟩
      · rw [if_neg hn] at h; cases h
theorem lwXof {args : Array Value} {s : State} {t : Term} {N : Nat} {f : Nat → Int32} (hN : N < 2147483648) (ha : (Cond.arrayOf t .int).before args s = true) (hl : (Cond.eq (.length t) (.int (Int32.ofNat N))).before args s = true)
    (he : ∀ j, j < N → (Cond.eq (.elem t (.int (Int32.ofNat j))) (.int (f j))).before args s = true) : ∃ a : Nat, t.eval args s none [] s = some (.ref a) ∧ va_X a N f s s.heap ∧ a < s.heap.size := by
  obtain ⟨a, cell, h1, h2, h3, h4⟩ := lwLen (lwEq hl)
  obtain ⟨hcb, -, -, -⟩ := State.arrayAt?_spec h2
  obtain ⟨ho, hu⟩ := Cond.arrayOf_spec ha h1 hcb
  have hsz : cell.slots.size = N := by
    have e : Int32.ofNat N = Int32.ofNat cell.slots.size := by injection h3
    have e2 := congrArg Int32.toInt e
    rw [lw_i _ hN, lw_i _ h4] at e2
    omega
  refine ⟨a, h1, ⟨cell, hcb, ho, hu, hsz, fun j hj => ?_⟩, (Array.getElem?_eq_some_iff.mp hcb).1⟩
  obtain ⟨a', j', cell', g1, g2, g3, -, g5⟩ := Term.elem_spec (lwEq (he j hj))
  cases h1.symm.trans g1
  cases h2.symm.trans g3
  have e : j' = Int32.ofNat j := by
    have g2' : (some (.int (Int32.ofNat j)) : Option Value) = some (.int j') := g2
    injection g2' with g2'
    injection g2' with g2'
    exact g2'.symm
  have e2 : j'.toNatClampNeg = j := by
    rw [e]
    show (Int32.ofNat j).toInt.toNat = j
    rw [lw_i j (by omega)]; rfl
  rw [e2] at g5
  exact g5
theorem lwSt {args : Array Value} {s : State} {C n d : String} {A : Nat → Prop} (hl : (Cond.laysStatic C n d).before args s = true) (hr : (Cond.isRef (.static C n d)).before args s = true) (hA : ∀ a : Nat, a < s.heap.size → ¬ A a) : jSt C n d A s s.heap := by
  obtain ⟨c, k, i, f, a, cell, hc, hi, hst, ha, hcell, hs, hcls, hlt, hty⟩ := Cond.laysStatic_spec hl
  obtain ⟨v, hv, hrf⟩ := Cond.isRef_spec hr
  obtain ⟨-, a', cell', ha', hcell', -, hslot⟩ := Term.static_spec hi hv
  cases ha.symm.trans ha'
  cases hcell.symm.trans hcell'
  exact ⟨c, k, i, f, a, cell, v, hi, hc, ha, hty, hst, hcell, hs, hcls, hlt, hslot, hrf, hA a (Array.getElem?_eq_some_iff.mp hcell).1⟩
def lwTS : Term := .static "SharingRoom$Sha256" "START" "[I"
def lwTK : Term := .static "SharingRoom$Sha256" "ROUND_CONSTANTS" "[I"
set_option maxRecDepth 100000 in
theorem lwMS : ∀ j, j < 8 → Cond.eq (.elem lwTS (.int (Int32.ofNat j))) (.int (jTabS j)) ∈ flatC (Jvm.Cond.and given_1 narrow_1) := by decide +kernel
set_option maxRecDepth 100000 in
theorem lwMK : ∀ j, j < 64 → Cond.eq (.elem lwTK (.int (Int32.ofNat j))) (.int (jTabK j)) ∈ flatC (Jvm.Cond.and given_1 narrow_1) := by decide +kernel
theorem lwRoom {p : Program} {l : Launch} {e : Env} {s : State} {m : MethodId} {args : Array Value} {below : List Frame} {meth : Method} {c : Code} {H : Heap} {locs : List Loc} {cells slots : Nat} {Q : State → Prop} {g : JFrame} (h : W p l e (jrm 9 601024 7293034) s m args below meth c H locs cells slots Q g) : W p l e room_1 s m args below meth c H locs cells slots Q g := fun T hT X => by
  refine h T hT ⟨X.admits, X.cas, X.clock, X.frames, ?_, X.hears, X.method, X.code, X.here, X.tail, X.warmed, X.limits, X.bytes, X.same⟩
  have hr := X.room
  have q1 : (jrm 9 601024 7293034).frames ≤ room_1.frames := Nat.le_of_ble_eq_true rfl
  have q2 : (jrm 9 601024 7293034).locals ≤ room_1.locals := Nat.le_of_ble_eq_true rfl
  have q3 : (jrm 9 601024 7293034).cells ≤ room_1.cells := Nat.le_of_ble_eq_true rfl
  have q4 : (jrm 9 601024 7293034).slots ≤ room_1.slots := Nat.le_of_ble_eq_true rfl
  simp only [State.hasRoom, Bool.and_eq_true, decide_eq_true_eq] at hr ⊢
  obtain ⟨⟨⟨⟨a1, a2, a3, a4, a5, a6⟩, b1⟩, c1⟩, d1⟩ := hr
  exact ⟨⟨⟨⟨by omega, by omega, by omega, by omega, by omega, a6⟩, by omega⟩, by omega⟩, d1⟩
theorem lwEnd {below : List Frame} {b : Nat} {s : State} {D : va_G} {t : State} (h : jMQ below (jPost lwP D (fun q => s.heap.size ≤ q)) #[Value.ref b] s 601024 7293034 (fun q => s.heap.size ≤ q) t) : lw_Z below #[Value.ref b] s t := by
  obtain ⟨o, h1, h2, ⟨⟨r, ws, ho, hp, -, -⟩, -⟩, L, hfe, hL⟩ := h
  cases (show r = .inl (some (.int 1)) from hp)
  have ho' : o = .returned (some (.int 1)) := ho
  refine ⟨o, h1, h2, ho', ⟨_, ho'⟩, hfe.1, ?_⟩
  obtain ⟨e1, e2, e3, e4, e5, e6⟩ := hfe.2
  refine ⟨e1, e2, e3, e4, e5, fun a c hc => ?_⟩
  obtain ⟨c', x1, x2, x3, x4⟩ := e6 a c hc
  exact ⟨c', x1, x2, x3, fun i _ => x4 i (fun hm => Nat.lt_irrefl _ (Nat.lt_of_lt_of_le (Array.getElem?_eq_some_iff.mp hc).1 (hL _ hm)))⟩
set_option maxRecDepth 100000 in
/-- from the entry, for every script of at most 2560 ints, the law comes to its end with true -/
theorem whole_start {p : Program} {e : Env} {s : State} {m : MethodId} {below : List Frame} {meth : Method} {c : Code} (l : Launch) (hst : l.stackTraces = false) {b L : Nat} {xs : Nat → Int32} (hL : L ≤ 2560) (C0 : lw_At p s m meth c b L xs) : W p l e room_1 s m #[Value.ref b] below meth c s.heap [] 0 0 (lw_Z below #[Value.ref b] s) (entryFrame m ([Value.ref b] : List Value).toArray 7) := by
  obtain ⟨hx, hcode, hret, hml, hown, hts, hX, hbl, hlk, hgv, hnm, hxt⟩ := C0
  have hs := flat_of_before _ hgv
  have htw : ∀ w ∈ jWS, w.before #[Value.ref b] s = true := fun w hw => hts w (List.mem_filter.mp hw).1
  have hf : ∀ k (q : vw_C), vwCl[k]? = some q → u_Kn s q.1 q.2.1 q.2.2 (Classical.choose (lwKn htw k)).1 (Classical.choose (lwKn htw k)).2 := fun k => Classical.choose_spec (lwKn htw k)
  obtain ⟨c0, a0, r0⟩ := lwArrC (ty := .int) (fun C h => by cases h) (htw _ w142)
  obtain ⟨c1, a1, r1⟩ := lwArrC (ty := .byte) (fun C h => by cases h) (htw _ w214)
  obtain ⟨c2, a2, r2⟩ := lwArrC (ty := .long) (fun C h => by cases h) (htw _ w1501)
  obtain ⟨c3, a3, r3⟩ := lwArrO (C := "SharingRoom$Field") (hts _ wt111)
  obtain ⟨c4, a4, r4⟩ := lwArrO (C := "SharingRoom$Group") (hts _ wt226)
  obtain ⟨c5, a5, r5⟩ := lwArrO (C := "SharingRoom$Party") (hts _ wt191)
  obtain ⟨c6, a6, r6⟩ := lwArrA (hts _ wt235)
  obtain ⟨tS, vS, xS, lS⟩ := lwXof (t := lwTS) (N := 8) (f := jTabS) (by decide) (hs _ (by decide +kernel)) (hs _ (by decide +kernel)) (fun j hj => hs _ (lwMS j hj))
  obtain ⟨tK, vK, xK, lK⟩ := lwXof (t := lwTK) (N := 64) (f := jTabK) (by decide) (hs _ (by decide +kernel)) (hs _ (by decide +kernel)) (fun j hj => hs _ (lwMK j hj))
  have hA : ∀ a : Nat, a < s.heap.size → ¬ s.heap.size ≤ a := fun a h1 h2 => Nat.lt_irrefl _ (Nat.lt_of_lt_of_le h1 h2)
  have hU : (Cond.isRef (.static "java/lang/Throwable" "UNASSIGNED_STACK" "[Ljava/lang/StackTraceElement;")).before #[Value.ref b] s = true := hs _ (by decide +kernel)
  have hSS : (Cond.isRef (.static "java/lang/Throwable" "SUPPRESSED_SENTINEL" "Ljava/util/List;")).before #[Value.ref b] s = true := hs _ (by decide +kernel)
  have hn1 : (Cond.not (.castable "java/lang/IllegalStateException" "java/lang/IllegalArgumentException")).before #[Value.ref b] s = true := hs _ (by decide +kernel)
  have hn2 : (Cond.not (.castable "java/lang/IllegalArgumentException" "java/lang/IllegalStateException")).before #[Value.ref b] s = true := hs _ (by decide +kernel)
  let G : jG := (fun k => match k with | 0 => c0 | 1 => c1 | 2 => c2 | 3 => c3 | 4 => c4 | 5 => c5 | _ => c6, fun k => match k with | 0 => tS | 1 => tK | _ => b, L, xs)
  let D : va_G := (fun k => (Classical.choose (lwKn htw k)).1, fun k => (Classical.choose (lwKn htw k)).2)
  have hK : jK G D s := by
    refine ⟨⟨fun k q hq => hf k q hq, fun k q hq => ?_⟩, s, #[Value.ref b], hts, State.WarmedH.refl s⟩
    match k, hq with
    | 0, hq => obtain rfl := Option.some.inj hq; exact ⟨a0, r0⟩
    | 1, hq => obtain rfl := Option.some.inj hq; exact ⟨a1, r1⟩
    | 2, hq => obtain rfl := Option.some.inj hq; exact ⟨a2, r2⟩
    | 3, hq => obtain rfl := Option.some.inj hq; exact ⟨a3, r3⟩
    | 4, hq => obtain rfl := Option.some.inj hq; exact ⟨a4, r4⟩
    | 5, hq => obtain rfl := Option.some.inj hq; exact ⟨a5, r5⟩
    | 6, hq => obtain rfl := Option.some.inj hq; exact ⟨a6, r6⟩
    | k + 7, hq => cases hq
  have hZ : jZ G (fun q => s.heap.size ≤ q) s s.heap := by
    refine ⟨fun i q hq => ?_, va_Zof (hts _ wt958) (htw _ w73) vS hA, va_Zof (hts _ wt975) (htw _ w73) vK hA, lwSt (hts _ wt471) hU hA, lwSt (hts _ wt473) hSS hA, va_Nc.of hn1, va_Nc.of hn2⟩
    match i, hq with
    | 0, hq => obtain rfl := Option.some.inj hq; exact ⟨xS, lS, hA _ lS⟩
    | 1, hq => obtain rfl := Option.some.inj hq; exact ⟨xK, lK, hA _ lK⟩
    | 2, hq => obtain rfl := Option.some.inj hq; exact ⟨hX, hbl, hA _ hbl⟩
    | k + 3, hq => cases hq
  have hC : jC G m_Law_law p l s m #[Value.ref b] meth c D (fun q => s.heap.size ≤ q) :=
    ⟨hx, hcode, hml, hown, htw, hK, hZ, fun q h => h, hlk, hret, hnm, hxt, hst, fun q hq cell hc => absurd (Array.getElem?_eq_some_iff.mp hc).1 (Nat.not_lt.mpr hq)⟩
  have hl0 := lv_entry [Value.ref b] (n := 7) (Nat.le_of_ble_eq_true rfl)
  rw [lg_entry_eq]
  refine lwRoom (W.mono ?_ (fun t ht => lwEnd (D := D) ht))
  exact law_all G hL p l e s m #[Value.ref b] below meth c D (fun q => s.heap.size ≤ q) hC s.heap [] _ (fun k q hq => by cases hq) ⟨fun i j p q hp => (by cases hp), fun k q hq => (by cases hq)⟩ va_S.rf hl0
set_option maxHeartbeats 4000000 in
theorem lw_walk (l : Launch) (hst : l.stackTraces = false) (b : Addr) (xs : List Int32) : MetFree l x (headSpec (Jvm.Cond.code x code maxLocals ret :: tables_1) room_1) (lw_P b xs) (fun _ _ _ _ _ => True) lw_Q := by
  refine MetFree.of_bodyS (code := code) (maxLocals := maxLocals) (ret := ret) (by decide) ?_ ?_
  · intro args s m h hn
    obtain ⟨meth, c, h1, h2, h3, h4, h5, h6, -, -⟩ := Cond.code_spec hn (atoms_spec (ws := Jvm.Cond.code x code maxLocals ret :: tables_1) h _ List.mem_cons_self)
    exact ⟨meth, c, h1, h2, h3, h4, h5, h6⟩
  · intro p e s m args below meth c s₁ B hml0 hP _
    obtain ⟨rfl, hx, hbd, hgv⟩ := hP
    obtain ⟨scr, harrAt, hlist, hof, hsmall⟩ := hx
    obtain ⟨hcb, hkn, -, -⟩ := State.arrayAt?_spec harrAt
    have hown : s.vm.findClass R_law = some m.cls := findClass_of_methodNamed B.named
    have hts0 : ∀ c ∈ (Jvm.Cond.code x code maxLocals ret :: tables_1), c.before #[Value.ref b] s = true := atoms_spec (ws := Jvm.Cond.code x code maxLocals ret :: tables_1) B.pre
    have hts : ∀ w ∈ lw_tbl, w.before #[Value.ref b] s = true := k2_hts_sels lw_privs (fun w hw => hts0 w (List.mem_cons_of_mem _ hw)) lw_privs_ok
    have hml : c.maxLocals = 7 := B.maxLocals_eq (hts0 _ List.mem_cons_self)
    have X₀ : Stand p l e room_1 s m #[Value.ref b] below meth c s₁ [] 0 0 := Stand.of_body B
    have hh0 : s₁.heap = s.heap := by rw [B.state]; rfl
    have hsz : scr.slots.size = xs.length := by rw [← Array.length_toList, hlist, List.length_map]
    have hval : ∀ j : Nat, j < xs.length → scr.slots[j]? = some (.int (xs.getD j 0)) := fun j hj => by
      rw [← Array.getElem?_toList, hlist]
      simp [hj]
    have hxt : c.exceptionTable.toList.map (fun h => (h.startPc, h.endPc, h.handlerPc, h.catchType)) = [] := by
      obtain ⟨meth9, c9, h1, h2, -, -, -, -, h7, -⟩ := Cond.code_spec B.named (hts0 _ List.mem_cons_self)
      cases Option.some.inj (h1.symm.trans B.method)
      cases Option.some.inj (h2.symm.trans X₀.code)
      rw [Array.isEmpty_iff.mp h7]; rfl
    have hbl : b < s.heap.size := (Array.getElem?_eq_some_iff.mp hcb).1
    have hX : va_X b xs.length (fun j => xs.getD j 0) s s.heap := ⟨scr, hcb, hof, hkn, hsz, hval⟩
    have K : W p l e room_1 s m #[Value.ref b] below meth c s₁.heap [] 0 0 (lw_Z below #[Value.ref b] s) (entryFrame m ([Value.ref b] : List Value).toArray 7) := by
      rw [hh0]
      exact whole_start l hst hbd ⟨B.exec, B.bytes, B.returns, hml, hown, hts, hX, hbl, B.notSynchronized, hgv, (name_of_methodNamed B.named B.method).1, hxt⟩
    obtain ⟨t, a1, o, b1, b2, b3⟩ := K s₁ rfl X₀
    exact ⟨t, o, a1, b1, b2, b3⟩
theorem lw_pre_spec {args : Array Value} {s : State} (h : (Jvm.Cond.and given_1 narrow_1).before args s = true) (hr : rest_1_c.before args s = true) : ∃ (b : Addr) (xs : List Int32), lw_P b xs args s := by
  have hs := flat_of_before _ h
  have hq := flat_of_before _ hr
  have hc : (Cond.count 1).before args s = true := hs _ (by decide +kernel)
  have harr : (Cond.arrayOf (.arg 0) .int).before args s = true := hs _ (by decide +kernel)
  have hle : (Cond.le (.length (.arg 0)) (.int 2560)).before args s = true := hs _ (by decide +kernel)
  have hlen : (Cond.isInt (.length (.arg 0))).before args s = true := hq _ (by decide +kernel)
  have hall : (Cond.all (.arg 0) (.isInt (.elem (.arg 0) (.index 0)))).before args s = true := hq _ (by decide +kernel)
  obtain ⟨b, xs, hb, hx⟩ := State.ints_of_pre rfl harr hlen hall
  have hsm : xs.length < 2 ^ 31 := hx.choose_spec.2.2.2
  have hev : (Term.length (.arg 0)).eval args s none [] s = some (.int xs.length.toInt32) := hx.length_eval hb
  have hv := Cond.le_ints hev (show (Term.int 2560).eval args s none [] s = some (.int 2560) from rfl)
  have hd : xs.length.toInt32 ≤ 2560 := by
    simpa [Cond.before, Cond.holds, hv] using hle
  have hN : xs.length ≤ 2560 := (Int32.ofNat_le_ofNat hsm (by decide)).mp (show Int32.ofNat xs.length ≤ Int32.ofNat 2560 from hd)
  exact ⟨b, xs, Cond.one_arg hc (show args[0]? = some (.ref b) from hb), hx, hN, h⟩
theorem lw_comes (l : Launch) (hst : l.stackTraces = false) : Comes l x (Jvm.Cond.code x code maxLocals ret :: tables_1) room_1 (fun tb e args s => Calls_1 tb e args s ∧ rest_1 tb e args s ∧ Pre_1 tb e args s)
    (fun _ _ args s o t => lw_Q args s o t) := by
  intro p e ha hc hk s m args below hf hfit hheap happ hpre
  obtain ⟨b, xs, hP⟩ := lw_pre_spec hpre.2.2 hpre.2.1
  obtain ⟨k, o, h1, h2, h3, hQ⟩ := lw_walk l hst b xs p e ha hc hk s m args below hf ((Spec.applies_iff_loose hf).mp happ).1 hP trivial
  exact ⟨k, o, h1, h2, h3, hQ⟩
theorem lw_frame {s t : State} {o : Outcome} {args : Array Value} (h : Framed s o t [] 601024 7293034) :
    Framed s o t (fieldLocs frame_1_writes args s ++ arrayLocs frame_1_arrays args s ++ staticLocs frame_1_statics s) 601024 7293034 := h
theorem lw_limb (L : Cond) (hL : ∀ (args : Array Value) (s t : State), L.after args s (.returned (some (.int 1))) t = true) :
    ArmFor flags0 classFile x code maxLocals ret World_1 tables_1 room_1 Calls_1 rest_1 Pre_1
      (fun tb e a s o t => postC L tb e a s o t ∧ Framed s o t (fieldLocs frame_1_writes a s ++ arrayLocs frame_1_arrays a s ++ staticLocs frame_1_statics s) 601024 7293034) := by
  intro l hfl _ _ p e ha hc hk s m args below hf hfit hheap happ hpre
  obtain ⟨k, o, h1, h2, h3, rfl, hF⟩ := lw_comes l (by unfold Launch.stackTraces; rw [hfl]; decide +kernel) p e ha hc hk s m args below hf hfit hheap happ hpre
  exact ⟨k, _, h1, h2, h3, hL args s _, lw_frame hF⟩
theorem i_vc : Claimed_1_1 ∧ Claimed_1_2 := ⟨lw_limb limb_1_1 (fun args s t => by simp [limb_1_1, Cond.after, Cond.holds, Cond.value]), lw_limb limb_1_2 (fun args s t => Cond.after_iff.mpr (by
  first | (rw [show limb_1_2 = Cond.eq .result (.int 1) from rfl, Cond.eq_ints (x := 1) (y := 1) rfl rfl]; simp; done) | (simp [limb_1_2, Cond.value, Term.eval]; done)))⟩
