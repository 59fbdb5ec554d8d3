/-! ===== short forms of the rows, for contracts that make nothing ===== -/
section JS
variable {G : jG} {M : jM} {d mc ms : Nat} {P : jR → va_W → Prop} {pc : Nat} {lv lv' : List (Nat × Value)} {st st2 : List Value} {ws : va_W} {k n : Nat}
theorem j_pick (ks : List Nat) (h : lv_pick lv ks = lv') (kk : J G M d mc ms P pc lv' st ws k n) : J G M d mc ms P pc lv st ws k n :=
  fun p l e s m args below meth c D A C H locs ls hP hD hS hl => kk p l e s m args below meth c D A C H locs ls hP hD hS (lv_sub hl ks h)
theorem jc_V {ix nA d' b ci : Nat} {y : MethodName} {M' : jM} {C0 : String} {T0 : u_T} {N0 : Nat} {fs As stk : List Value} {r : Option Value} {w : va_W} (K : jCon G M' y d' 0 0 (.ref b :: As) ws (jEq r w)) (L : jL0 y M' nA) (hk : Cond.methodLink M.1 ix y ∈ jWS) (hi : Cond.instanceMethod y ∈ jWS) (hs : Cond.selects C0 y y ∈ jWS) (q0 : Nat) (he : ws[q0]? = some (b, .inr (ci, fs))) (hc : vwCl[ci]? = some (C0, T0, N0))
    (hd : decode M.2.1 pc = .ok (.invokevirtual ix, 3)) (hn : As.length = nA) (hst : (st.map fun v => v.category).sum ≤ 8) (hdd : d' + 1 ≤ d) (hm : k ≤ mc) (hn2 : n ≤ ms) (hstk : stk = As.reverse ++ .ref b :: st) (hr : r.toList ++ st = st2) (kk : J G M d mc ms P (pc + 3) lv st2 w k n) : J G M d mc ms P pc lv stk ws k n :=
  j_callV K L hk hi hs q0 he hc hd hn hst hdd hm hn2 hstk (fun _ _ h => by cases h.1) (fun v ws' h => by
    obtain ⟨h1, h2⟩ := h
    cases h1
    subst h2
    subst hr
    exact kk)
theorem jc_S {ix nA d' : Nat} {y : MethodName} {M' : jM} {As stk : List Value} {r : Option Value} {w : va_W} (K : jCon G M' y d' 0 0 As ws (jEq r w)) (L : jL0 y M' nA) (hk : Cond.methodLink M.1 ix y ∈ jWS) (hi : Cond.static y ∈ jWS)
    (hd : decode M.2.1 pc = .ok (.invokestatic ix, 3)) (hn : As.length = nA) (hst : (st.map fun v => v.category).sum ≤ 8) (hdd : d' + 1 ≤ d) (hm : k ≤ mc) (hn2 : n ≤ ms) (hstk : stk = As.reverse ++ st) (hr : r.toList ++ st = st2) (kk : J G M d mc ms P (pc + 3) lv st2 w k n) : J G M d mc ms P pc lv stk ws k n :=
  j_callS K L hk hi hd hn hst hdd hm hn2 hstk (fun _ _ h => by cases h.1) (fun v ws' h => by
    obtain ⟨h1, h2⟩ := h
    cases h1
    subst h2
    subst hr
    exact kk)
theorem jc_SN {ix nA d' : Nat} {y : MethodName} {M' : jM} {host : String} {As stk : List Value} {r : Option Value} {w : va_W} (K : jCon G M' y d' 0 0 As ws (jEq r w)) (L : jL0 y M' nA) (hk : Cond.methodLinkNest M.1 ix y host ∈ lw_tbl) (hi : Cond.static y ∈ jWS)
    (hd : decode M.2.1 pc = .ok (.invokestatic ix, 3)) (hn : As.length = nA) (hst : (st.map fun v => v.category).sum ≤ 8) (hdd : d' + 1 ≤ d) (hm : k ≤ mc) (hn2 : n ≤ ms) (hstk : stk = As.reverse ++ st) (hr : r.toList ++ st = st2) (kk : J G M d mc ms P (pc + 3) lv st2 w k n) : J G M d mc ms P pc lv stk ws k n :=
  j_callSN K L hk hi hd hn hst hdd hm hn2 hstk (fun _ _ h => by cases h.1) (fun v ws' h => by
    obtain ⟨h1, h2⟩ := h
    cases h1
    subst h2
    subst hr
    exact kk)
theorem jc_U {ix nA d' b ci : Nat} {x y : MethodName} {M' : jM} {C0 : String} {T0 : u_T} {N0 : Nat} {fs As stk : List Value} {r : Option Value} {w : va_W} (K : jCon G M' y d' 0 0 (.ref b :: As) ws (jEq r w)) (L : jL0 y M' nA) (hk : Cond.methodLink M.1 ix x ∈ jWS) (hx : x.name = y.name ∧ x.desc = y.desc ∧ (x.cls ≠ "java/lang/invoke/MethodHandle" ∧ x.cls ≠ "java/lang/invoke/VarHandle")) (hsm : Cond.sameMethod x.cls x.cls x.name x.desc ∈ jWS) (hs : Cond.selects C0 x y ∈ jWS) (hi : Cond.instanceMethod y ∈ jWS) (hde : Cond.declares x ∈ lw_tbl ∨ x = y) (q0 : Nat) (he : ws[q0]? = some (b, .inr (ci, fs))) (hc : vwCl[ci]? = some (C0, T0, N0))
    (hd : decode M.2.1 pc = .ok (.invokevirtual ix, 3)) (hn : As.length = nA) (hst : (st.map fun v => v.category).sum ≤ 8) (hdd : d' + 1 ≤ d) (hm : k ≤ mc) (hn2 : n ≤ ms) (hstk : stk = As.reverse ++ .ref b :: st) (hr : r.toList ++ st = st2) (kk : J G M d mc ms P (pc + 3) lv st2 w k n) : J G M d mc ms P pc lv stk ws k n :=
  j_callU K L hk hx hsm hs hi hde q0 he hc hd hn hst hdd hm hn2 hstk (fun _ _ h => by cases h.1) (fun v ws' h => by
    obtain ⟨h1, h2⟩ := h
    cases h1
    subst h2
    subst hr
    exact kk)
end JS
/-- a place of an array -/
abbrev jin (i : Int32) (N : Nat) : Prop := 0 ≤ i.toInt ∧ i.toInt < N
theorem jin.vp {i : Int32} {N : Nat} (h : jin i N) : vp_in i N := vp_in_iff.mpr h
/-- a boolean -/
abbrev jbo (v : Int32) : Prop := v = 0 ∨ v = 1
theorem jbo.nar {v : Int32} (h : jbo v) : narrow .boolean (.int v) = .int v := by
  rcases h with h | h <;> subst h <;> rfl
theorem jbo.fit {v : Int32} (h : jbo v) : fits .boolean (.int v) = true := by
  rcases h with h | h <;> subst h <;> rfl
theorem ochk {α : Type} {c : Prop} [Decidable c] {x : Option α} {r : α} (h : (if c then x else none) = some r) : c ∧ x = some r := by
  by_cases hc : c
  · rw [if_pos hc] at h; exact ⟨hc, h⟩
  · rw [if_neg hc] at h; cases h
theorem obnd {α β : Type} {x : Option α} {f : α → Option β} {r : β} (h : x.bind f = some r) : ∃ a, x = some a ∧ f a = some r := Option.bind_eq_some_iff.mp h
