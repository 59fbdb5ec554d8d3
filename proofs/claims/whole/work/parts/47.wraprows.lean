/-! ===== rows for the law's wrappers ===== -/
section JWR
variable {G : jG} {M : jM} {d mc ms : Nat} {P : jR → va_W → Prop} {pc : Nat} {lv : List (Nat × Value)} {st st2 : List Value} {ws : va_W} {k n : Nat}
theorem jq_V {ix nA d' mc' ms' b ci : Nat} {y : MethodName} {M' : jM} {C0 : String} {T0 : u_T} {N0 : Nat} {fs As stk : List Value} {r : Option Value} {w : va_W} (K : jCon G M' y d' mc' ms' (.ref b :: As) ws (jEq r w)) (L : jL0 y M' nA) (hk : Cond.methodLink M.1 ix y ∈ jWS) (hi : Cond.instanceMethod y ∈ jWS) (hs : Cond.selects C0 y y ∈ jWS) (q0 : Nat) (he : ws[q0]? = some (b, .inr (ci, fs))) (hc : vwCl[ci]? = some (C0, T0, N0))
    (hd : decode M.2.1 pc = .ok (.invokevirtual ix, 3)) (hn : As.length = nA) (hst : (st.map fun v => v.category).sum ≤ 8) (hdd : d' + 1 ≤ d) (hm : k + mc' ≤ mc) (hn2 : n + ms' ≤ ms) (hstk : stk = As.reverse ++ .ref b :: st) (hr : r.toList ++ st = st2) (kk : J G M d mc ms P (pc + 3) lv st2 w (k + mc') (n + ms')) : J G M d mc ms P pc lv stk ws k n :=
  j_callV K L hk hi hs q0 he hc hd hn hst hdd hm hn2 hstk (fun _ _ h => by cases h.1) (fun v ws' h => by
    obtain ⟨h1, h2⟩ := h
    cases h1
    subst h2
    subst hr
    exact kk)
/-- a call that throws an E, caught by the first handler -/
theorem j_cat1V {E : String} {s1 e1 h1 c1 : Nat} {hr : List (Nat × Nat × Nat × Nat)} {ix nA d' mc' ms' b ci : Nat} {y : MethodName} {M' : jM} {C0 : String} {T0 : u_T} {N0 : Nat} {fs As stk : List Value} {w : va_W} (K : jCon G M' y d' mc' ms' (.ref b :: As) ws (jTw E w)) (L : jL0 y M' nA) (hk : Cond.methodLink M.1 ix y ∈ jWS) (hi : Cond.instanceMethod y ∈ jWS) (hs : Cond.selects C0 y y ∈ jWS) (q0 : Nat) (he : ws[q0]? = some (b, .inr (ci, fs))) (hc : vwCl[ci]? = some (C0, T0, N0))
    (hd : decode M.2.1 pc = .ok (.invokevirtual ix, 3)) (hn : As.length = nA) (hst : (st.map fun v => v.category).sum ≤ 8) (hdd : d' + 1 ≤ d) (hm : k + mc' ≤ mc) (hn2 : n + ms' ≤ ms) (hstk : stk = As.reverse ++ .ref b :: st)
    (hh : M.2.2.2.2.2 = (s1, e1, h1, c1) :: hr) (hc1 : s1 ≤ pc ∧ pc < e1 ∧ c1 ≠ 0) (hkc : Cond.classLink M.1 c1 E ∈ lw_tbl) (hca : Cond.castable E E ∈ lw_tbl) (kk : ∀ x : Nat, J G M d mc ms P h1 lv [.ref x] w (k + mc') (n + ms')) : J G M d mc ms P pc lv stk ws k n :=
  fun p l e s m args below meth c D A C H locs ls hP hD hS hl T hT X =>
    jThr.cat1 C hl hh hc1 hkc hca (fun E' w' h => by cases h.1; rfl) (jThr.callV C hP hD hS hl K L (fun _ _ h => by cases h.1) hk hi hs he hc hd hn hst hdd hm hn2 hstk hT X) (fun x ws' h => by
      have h2 := h.2
      subst h2
      exact kk x)
/-- .. by the second -/
theorem j_cat2V {E E1 : String} {s1 e1 h1 c1 s2 e2 h2 c2 : Nat} {hr : List (Nat × Nat × Nat × Nat)} {ix nA d' mc' ms' b ci : Nat} {y : MethodName} {M' : jM} {C0 : String} {T0 : u_T} {N0 : Nat} {fs As stk : List Value} {w : va_W} (K : jCon G M' y d' mc' ms' (.ref b :: As) ws (jTw E w)) (L : jL0 y M' nA) (hk : Cond.methodLink M.1 ix y ∈ jWS) (hi : Cond.instanceMethod y ∈ jWS) (hs : Cond.selects C0 y y ∈ jWS) (q0 : Nat) (he : ws[q0]? = some (b, .inr (ci, fs))) (hc : vwCl[ci]? = some (C0, T0, N0))
    (hd : decode M.2.1 pc = .ok (.invokevirtual ix, 3)) (hn : As.length = nA) (hst : (st.map fun v => v.category).sum ≤ 8) (hdd : d' + 1 ≤ d) (hm : k + mc' ≤ mc) (hn2 : n + ms' ≤ ms) (hstk : stk = As.reverse ++ .ref b :: st)
    (hh : M.2.2.2.2.2 = (s1, e1, h1, c1) :: (s2, e2, h2, c2) :: hr) (hc1 : s1 ≤ pc ∧ pc < e1 ∧ c1 ≠ 0) (hc2 : s2 ≤ pc ∧ pc < e2 ∧ c2 ≠ 0) (hk1 : Cond.classLink M.1 c1 E1 ∈ lw_tbl) (hk2 : Cond.classLink M.1 c2 E ∈ lw_tbl) (hnc : ∀ (A : Nat → Prop) (U : State) (H : Heap), jTh A U H → va_Nc E E1 U) (hca : Cond.castable E E ∈ lw_tbl) (kk : ∀ x : Nat, J G M d mc ms P h2 lv [.ref x] w (k + mc') (n + ms')) : J G M d mc ms P pc lv stk ws k n :=
  fun p l e s m args below meth c D A C H locs ls hP hD hS hl T hT X =>
    jThr.cat2 C hl hh hc1 hc2 hk1 hk2 (hnc _ _ _ C.2.2.2.2.2.2.1.2.2.2) hca (fun E' w' h => by cases h.1; rfl) (jThr.callV C hP hD hS hl K L (fun _ _ h => by cases h.1) hk hi hs he hc hd hn hst hdd hm hn2 hstk hT X) (fun x ws' h => by
      have h3 := h.2
      subst h3
      exact kk x)
theorem jnc12 (A : Nat → Prop) (U : State) (H : Heap) (h : jTh A U H) : va_Nc "java/lang/IllegalStateException" "java/lang/IllegalArgumentException" U := h.2.2.1
theorem jnc21 (A : Nat → Prop) (U : State) (H : Heap) (h : jTh A U H) : va_Nc "java/lang/IllegalArgumentException" "java/lang/IllegalStateException" U := h.2.2.2
end JWR
