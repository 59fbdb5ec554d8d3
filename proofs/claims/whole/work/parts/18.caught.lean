/-! ===== into a handler ===== -/
theorem jClassAt {s : State} {vm' : Vm} (hW : s.WarmedH vm') {nm : String} {c : ClassId} (h : s.vm.findClass nm = some c) : ∃ k, vm'.classes[c]? = some k := by
  obtain ⟨k, hk⟩ := Vm.classAt_of_findClass h
  obtain ⟨k', hk', -⟩ := hW.alike.2.2 _ _ hk
  exact ⟨k', hk'⟩
section JY
variable {G : jG} {M : jM} {d mc ms : Nat} {P : jR → va_W → Prop} {pc : Nat} {lv : List (Nat × Value)} {st : List Value} {ws : va_W} {k n : Nat}
theorem jThr.cat1 {P' : jR → va_W → Prop} {E : String} {s1 e1 h1 c1 : Nat} {hr : List (Nat × Nat × Nat × Nat)} {p : Program} {l : Launch} {e : Env} {s : State} {m : MethodId} {args : Array Value} {below : List Frame} {meth : Method} {c : Code} {D : va_G} {A : Nat → Prop} {locs : List Loc} {ls : Array Slot} {T : State} {g : JFrame} {k' n' : Nat} (C : jC G M p l s m args meth c D A) (hl : lv_has ls M.2.2.1 lv) (hh : M.2.2.2.2.2 = (s1, e1, h1, c1) :: hr) (hc1 : s1 ≤ pc ∧ pc < e1 ∧ c1 ≠ 0) (hk : Cond.classLink M.1 c1 E ∈ lw_tbl) (hca : Cond.castable E E ∈ lw_tbl) (hE : ∀ E' w, P' (.inr E') w → E' = E)
    (h : jThr G P' D A p l e (jrm d mc ms) s m args below meth c T locs k' n' g (F0 m pc ls st)) (kk : ∀ (x : Nat) (ws' : va_W), P' (.inr E) ws' → J G M d mc ms P h1 lv [.ref x] ws' k' n') : ∃ t, Steps p.tables e below (T.setTop g) t ∧ jMQ below (jPost P D A) args s mc ms A t := by
  obtain ⟨E', x, cell, ws', T', Lc, h1', h2, h3, h4, h5, h6, h7, X', hst⟩ := h
  cases hE E' ws' h1'
  have C' := C
  obtain ⟨hexec, hb, hml, hown, hts, hK, hZ, hA, hlocks, hret, hnm, hex, htr0, hns⟩ := C
  have hpl : e.platform.magicAccessors = ({} : Platform).magicAccessors := by rw [X'.admits.platform]
  rw [hh] at hex
  obtain ⟨x1, t1, hsp, hx1, -⟩ := List.map_eq_cons_iff.mp hex
  obtain ⟨y1, y2, y3, y4⟩ : x1.startPc = s1 ∧ x1.endPc = e1 ∧ x1.handlerPc = h1 ∧ x1.catchType = c1 := by
    simp only [Prod.mk.injEq] at hx1
    exact hx1
  obtain ⟨cc, hfc, hcl⟩ := Cond.classLink_spec hown (jAt (a := args) hK.2 hk rfl) e.platform hpl
  obtain ⟨hg₁, hw₁, hr₁⟩ := State.classEntry (e := e) X'.warmed hcl
  obtain ⟨a1, a2, b1, b2, hasg⟩ := Cond.castable_spec (jAt (a := args) hK.2 hca rfl)
  cases Option.some.inj (b1.symm.trans h7)
  cases Option.some.inj (b2.symm.trans hfc)
  generalize hvm : T'.vm.noted m.cls c1 (.cls cc) = vm' at hg₁ hw₁ hr₁
  have hfind : jFinds e ((T'.setTop (F0 m pc ls st)).pushFrame (.throwing x)) (F0 m pc ls st) x (.found h1) vm' := by
    intro Q E9 d9 acts
    have v1 := Stand.throwing_vm T' (F0 m pc ls st) x
    have v2 := Stand.throwing_heap T' (F0 m pc ls st) x
    rw [W.findHandler_eq (meth := meth) (code := c) (by rw [v1]; exact X'.method') X'.code, hsp,
      jgo (x := x1) (c := cc) (cell := cell) (vm' := vm') (by simp [covers, y1, y2]; exact ⟨hc1.1, hc1.2.1⟩) (by rw [y4]; exact hc1.2.2) (by rw [v1, y4]; exact hg₁) (by rw [v1, hw₁.2.1, X'.warmed.2.1]; exact Nat.le_refl _) (by rw [v2]; exact h5) (fun k9 => by rw [h6]; exact fun q => by cases q) (jClassAt hw₁ h7) (jClassAt hw₁ hfc), if_pos (by rw [hw₁.alike.assignable]; exact hasg), y3]
  obtain ⟨t, a3, b3⟩ := kk x ws' h1' p l e s m args below meth c D A C' T'.heap (locs ++ Lc) ls h2 h3 h4 hl (T'.setVm vm') rfl (X'.noted hw₁)
  exact ⟨t, hst _ (jcaught (g := F0 m pc ls st) X'.here hfind a3), b3⟩
theorem jThr.cat2 {P' : jR → va_W → Prop} {E E1 : String} {s1 e1 h1 c1 s2 e2 h2 c2 : Nat} {hr : List (Nat × Nat × Nat × Nat)} {p : Program} {l : Launch} {e : Env} {s : State} {m : MethodId} {args : Array Value} {below : List Frame} {meth : Method} {c : Code} {D : va_G} {A : Nat → Prop} {locs : List Loc} {ls : Array Slot} {T : State} {g : JFrame} {k' n' : Nat} (C : jC G M p l s m args meth c D A) (hl : lv_has ls M.2.2.1 lv) (hh : M.2.2.2.2.2 = (s1, e1, h1, c1) :: (s2, e2, h2, c2) :: hr) (hc1 : s1 ≤ pc ∧ pc < e1 ∧ c1 ≠ 0) (hc2 : s2 ≤ pc ∧ pc < e2 ∧ c2 ≠ 0) (hk1 : Cond.classLink M.1 c1 E1 ∈ lw_tbl) (hk2 : Cond.classLink M.1 c2 E ∈ lw_tbl) (hnc : va_Nc E E1 s) (hca : Cond.castable E E ∈ lw_tbl) (hE : ∀ E' w, P' (.inr E') w → E' = E)
    (h : jThr G P' D A p l e (jrm d mc ms) s m args below meth c T locs k' n' g (F0 m pc ls st)) (kk : ∀ (x : Nat) (ws' : va_W), P' (.inr E) ws' → J G M d mc ms P h2 lv [.ref x] ws' k' n') : ∃ t, Steps p.tables e below (T.setTop g) t ∧ jMQ below (jPost P D A) args s mc ms A t := by
  obtain ⟨E', x, cell, ws', T', Lc, h1', g2, g3, g4, g5, g6, g7, X', hst⟩ := h
  cases hE E' ws' h1'
  have C' := C
  obtain ⟨hexec, hb, hml, hown, hts, hK, hZ, hA, hlocks, hret, hnm, hex, htr0, hns⟩ := C
  have hpl : e.platform.magicAccessors = ({} : Platform).magicAccessors := by rw [X'.admits.platform]
  rw [hh] at hex
  obtain ⟨x1, t1, hsp, hx1, hex2⟩ := List.map_eq_cons_iff.mp hex
  obtain ⟨x2, t2, hsp2, hx2, -⟩ := List.map_eq_cons_iff.mp hex2
  obtain ⟨y1, y2, y3, y4⟩ : x1.startPc = s1 ∧ x1.endPc = e1 ∧ x1.handlerPc = h1 ∧ x1.catchType = c1 := by
    simp only [Prod.mk.injEq] at hx1
    exact hx1
  obtain ⟨z1, z2, z3, z4⟩ : x2.startPc = s2 ∧ x2.endPc = e2 ∧ x2.handlerPc = h2 ∧ x2.catchType = c2 := by
    simp only [Prod.mk.injEq] at hx2
    exact hx2
  obtain ⟨cc1, hfc1, hcl1⟩ := Cond.classLink_spec hown (jAt (a := args) hK.2 hk1 rfl) e.platform hpl
  obtain ⟨hg₁, hw₁, hr₁⟩ := State.classEntry (e := e) X'.warmed hcl1
  generalize hvm : T'.vm.noted m.cls c1 (.cls cc1) = vm1 at hg₁ hw₁ hr₁
  obtain ⟨cc2, hfc2, hcl2⟩ := Cond.classLink_spec hown (jAt (a := args) hK.2 hk2 rfl) e.platform hpl
  obtain ⟨hg₂, hw₂, hr₂⟩ := State.classEntry (e := e) hw₁ hcl2
  generalize hvm2 : vm1.noted m.cls c2 (.cls cc2) = vm2 at hg₂ hw₂ hr₂
  obtain ⟨a1, a2, b1, b2, hasg⟩ := Cond.castable_spec (jAt (a := args) hK.2 hca rfl)
  cases Option.some.inj (b1.symm.trans g7)
  cases Option.some.inj (b2.symm.trans hfc2)
  obtain ⟨n1, n2, m1, m2, hno⟩ := hnc
  cases Option.some.inj (m1.symm.trans g7)
  cases Option.some.inj (m2.symm.trans hfc1)
  have hfind : jFinds e ((T'.setTop (F0 m pc ls st)).pushFrame (.throwing x)) (F0 m pc ls st) x (.found h2) vm2 := by
    intro Q E9 d9 acts
    have v1 := Stand.throwing_vm T' (F0 m pc ls st) x
    have v2 := Stand.throwing_heap T' (F0 m pc ls st) x
    rw [W.findHandler_eq (meth := meth) (code := c) (by rw [v1]; exact X'.method') X'.code, hsp, hsp2,
      jgo (x := x1) (c := cc1) (cell := cell) (vm' := vm1) (by simp [covers, y1, y2]; exact ⟨hc1.1, hc1.2.1⟩) (by rw [y4]; exact hc1.2.2) (by rw [v1, y4]; exact hg₁) (by rw [v1, hw₁.2.1, X'.warmed.2.1]; exact Nat.le_refl _) (by rw [v2]; exact g5) (fun k9 => by rw [g6]; exact fun q => by cases q) (jClassAt hw₁ g7) (jClassAt hw₁ hfc1), if_neg (by rw [hw₁.alike.assignable, hno]; exact Bool.false_ne_true),
      jgo (x := x2) (c := cc2) (cell := cell) (vm' := vm2) (by simp [covers, z1, z2]; exact ⟨hc2.1, hc2.2.1⟩) (by rw [z4]; exact hc2.2.2) (by rw [z4]; exact hg₂) (by show vm2.classes.size ≤ vm1.classes.size; rw [hw₂.2.1, hw₁.2.1]; exact Nat.le_refl _) (by show ((T'.setTop (F0 m pc ls st)).pushFrame (.throwing x)).heap[x]? = _; rw [v2]; exact g5) (fun k9 => by rw [g6]; exact fun q => by cases q) (jClassAt hw₂ g7) (jClassAt hw₂ hfc2), if_pos (by rw [hw₂.alike.assignable]; exact hasg), z3]
    rfl
  obtain ⟨t, a3, b3⟩ := kk x ws' h1' p l e s m args below meth c D A C' T'.heap (locs ++ Lc) ls g2 g3 g4 hl (T'.setVm vm2) rfl (X'.noted hw₂)
  exact ⟨t, hst _ (jcaught (g := F0 m pc ls st) X'.here hfind a3), b3⟩
end JY
