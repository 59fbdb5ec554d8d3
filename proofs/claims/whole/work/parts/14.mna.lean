/-! ===== new int[2][K] ===== -/
theorem jAOA.at {U s0 : State} {ty : FieldType} {a0 : Array Value} (hW : s0.WarmedH U.vm) (h : (Cond.arrayOver (.array ty)).before a0 s0 = true) : jAOA ty U := by
  have hvm := hW.alike
  simp only [Cond.before, Cond.holds, Cond.value, beq_iff_eq] at h
  cases hc : s0.vm.findClass (FieldType.array ty).toString with
  | none => simp [hc] at h
  | some comp =>
    simp only [hc, Option.bind_some, Option.bind_eq_some_iff, Option.map_eq_some_iff] at h
    obtain ⟨c, hi, k, hk, hb⟩ := h
    obtain ⟨k', hk', he⟩ := hvm.2.2 _ _ hk
    have hi' : (U.vm.classes.findIdx? fun (x : Class) => match x.kind with | .array component _ => component == comp | _ => false) = some c := by
      have e1 := va_idx_bare U.vm comp
      have e2 := va_idx_bare s0.vm comp
      have e3 : U.vm.bare = s0.vm.bare := by first | exact hvm.bare_eq | exact hvm.bare_eq.symm
      rw [e3] at e1
      exact e1.symm.trans (e2.trans hi)
    have hk2 : k'.kind = k.kind := by rw [he]
    simp only [jAOA, Cond.before, Cond.holds, Cond.value, beq_iff_eq]
    rw [hvm.findClass, hc, Option.bind_some]
    simp only [Option.bind_eq_some_iff, Option.map_eq_some_iff]
    refine ⟨c, hi', k', hk', ?_⟩
    rw [hk2]
    cases hkind : k.kind with
    | array component t9 =>
      rw [hkind] at hb
      simp only [hvm.findClass]
      exact hb
    | _ => rw [hkind] at hb; exact hb
section JNM
variable {G : jG} {M : jM} {d mc ms : Nat} {P : jR → va_W → Prop} {pc : Nat} {lv : List (Nat × Value)} {st : List Value} {ws : va_W} {k n : Nat}
theorem j_mna {ix K0 : Nat} {x : Int32} (hk : Cond.classLink M.1 ix ("[" ++ (FieldType.array .int).toString) ∈ jWS) (ho : Cond.arrayOver (.array .int) ∈ lw_tbl) (harr : Cond.arrayClass .int ∈ jWS) (hx : ¬ x < 0) (hK0 : x.toNatClampNeg = K0) (hb : K0 ≤ 1000) (hd : decode M.2.1 pc = .ok (.multianewarray ix 2, 4)) (hc : k + 3 ≤ mc) (hs : n + (2 + 2 * K0) ≤ ms)
    (kk : ∀ (q : Nat) (r : Nat → Nat), J G M d mc ms P (pc + 4) lv (.ref q :: st) (ws ++ [(q, .inl (G.1 6, 2, .inr (.inr (.inr (.inr (fun i => if i < 2 then some (r i) else none)))))), (r 0, .inl (G.1 0, K0, .inl (fun _ => 0))), (r 1, .inl (G.1 0, K0, .inl (fun _ => 0)))]) (k + 1 + 2) (n + 2 + 2 * K0)) : J G M d mc ms P pc lv (.int x :: .int 2 :: st) ws k n :=
  fun p l e s m args below meth c D A C H locs ls hP hD hS hl => by
    have hts := C.2.2.2.2.1
    have hK := C.2.2.2.2.2.1.1
    have hov : jAOA .int s := by
      obtain ⟨s0, a0, h1, h2⟩ := C.2.2.2.2.2.1.2
      exact jAOA.at h2 (h1 _ ho)
    have hcy : s.vm.findClass (FieldType.array .int).toString = some (G.1 0) := (hK.2 0 (G.1 0, .int) rfl).2
    refine va_mna (X := ws) (L := []) (f := fun _ => .inr (0, [])) (z := (K0, .inl (fun _ => 0))) (N' := 2) (K' := K0) C.1 C.2.1 C.2.2.2.1 (hts _ hk) hov (hts _ harr) hcy hK (by simpa [va_pl] using hP) (by simpa [va_pl] using hD) hS C.2.2.2.2.2.2.2.1 (by decide) hx (by decide) hK0 (by omega) (by show K0 * 4 ≤ 536870912; omega) (by omega) rfl rfl hc hs (fun c => ?_) hd (fun q r cA H1 hr1 hr2 hK1 hP1 hD1 hS1 => ?_)
    · rw [vp_cell_i]
      exact arrV_new _ _ _
    · have e1 : cA = G.1 6 := by
        have h1 : s.vm.findClass ("[" ++ (FieldType.array .int).toString) = some cA := (hK1.2 (jT G).length (cA, .array .int) (by simp)).2
        have h2 : s.vm.findClass ("[" ++ (FieldType.array .int).toString) = some (G.1 6) := (hK.2 6 (G.1 6, .array .int) rfl).2
        exact Option.some.inj (h1.symm.trans h2)
      subst e1
      have e2 : ∀ x0 : Nat × va_E, (ws ++ [x0]) ++ va_pl ([] ++ (List.range 2).map r) (vr_up (fun _ => .inr (0, [])) ((List.range 2).map r) (.inl (G.1 0, (K0, .inl (fun _ => 0))))) = ws ++ [x0, (r 0, .inl (G.1 0, K0, .inl (fun _ => 0))), (r 1, .inl (G.1 0, K0, .inl (fun _ => 0)))] := by
        intro x0
        simp [va_pl, vr_up, List.range, List.range.loop]
      rw [e2] at hP1 hD1
      exact kk q r p l e s m args below meth c D A C H1 locs ls hP1 hD1 hS1 hl
end JNM
