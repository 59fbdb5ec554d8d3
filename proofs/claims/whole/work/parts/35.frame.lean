/-! ===== a contract holds beside other cells ===== -/
theorem va_P.left {D : va_G} {cl : List vw_C} {a b : va_W} {H : Heap} (h : va_P D cl (a ++ b) H) : va_P D cl a H := fun k q hk => h k q (by
  rw [List.getElem?_append_left (List.getElem?_eq_some_iff.mp hk).1]; exact hk)
theorem va_P.right {D : va_G} {cl : List vw_C} {a b : va_W} {H : Heap} (h : va_P D cl (a ++ b) H) : va_P D cl b H := fun k q hk => h (a.length + k) q (by
  rw [List.getElem?_append_right (by omega), Nat.add_sub_cancel_left]; exact hk)
theorem va_D.left {A : Nat → Prop} {a b : va_W} (h : va_D A (a ++ b)) : va_D A a := by
  have e : ∀ (k : Nat) (q : Nat × va_E), a[k]? = some q → (a ++ b)[k]? = some q := fun k q hk => by
    rw [List.getElem?_append_left (List.getElem?_eq_some_iff.mp hk).1]; exact hk
  exact ⟨fun i j p q hp hq hpq => h.1 i j p q (e _ _ hp) (e _ _ hq) hpq, fun k q hk => h.2 k q (e _ _ hk)⟩
theorem va_D.right {A : Nat → Prop} {a b : va_W} (h : va_D A (a ++ b)) : va_D A b := by
  have e : ∀ (k : Nat) (q : Nat × va_E), b[k]? = some q → (a ++ b)[a.length + k]? = some q := fun k q hk => by
    rw [List.getElem?_append_right (by omega), Nat.add_sub_cancel_left]; exact hk
  refine ⟨fun i j p q hp hq hpq => ?_, fun k q hk => h.2 _ q (e _ _ hk)⟩
  have h1 := h.1 _ _ p q (e _ _ hp) (e _ _ hq) hpq
  omega
theorem va_D.apart {A : Nat → Prop} {a b : va_W} (h : va_D A (a ++ b)) (i j : Nat) (p q : Nat × va_E) (hp : a[i]? = some p) (hq : b[j]? = some q) : p.1 ≠ q.1 := fun e => by
  have hi := (List.getElem?_eq_some_iff.mp hp).1
  have h1 := h.1 i (a.length + j) p q (by rw [List.getElem?_append_left hi]; exact hp) (by rw [List.getElem?_append_right (by omega), Nat.add_sub_cancel_left]; exact hq) e
  omega
theorem va_A.left {a b : va_W} {sz q : Nat} (h : va_A a sz q) : va_A (a ++ b) sz q := by
  rcases h with ⟨k, e, h⟩ | h
  · exact Or.inl ⟨k, e, by rw [List.getElem?_append_left (List.getElem?_eq_some_iff.mp h).1]; exact h⟩
  · exact Or.inr h
theorem va_A.right {a b : va_W} {sz q : Nat} (h : va_A b sz q) : va_A (a ++ b) sz q := by
  rcases h with ⟨k, e, h⟩ | h
  · exact Or.inl ⟨a.length + k, e, by rw [List.getElem?_append_right (by omega), Nat.add_sub_cancel_left]; exact h⟩
  · exact Or.inr h
/-- beside cells R in front -/
def jFrL (R : va_W) (P : jR → va_W → Prop) : jR → va_W → Prop := fun r w => ∃ w0, w = R ++ w0 ∧ P r w0
/-- beside cells R behind -/
def jFrR (R : va_W) (P : jR → va_W → Prop) : jR → va_W → Prop := fun r w => ∃ w0, w = w0 ++ R ∧ P r w0
theorem jFrL.eq {R w : va_W} {v : Option Value} {r : jR} {w' : va_W} (h : jFrL R (jEq v w) r w') : jEq v (R ++ w) r w' := by
  obtain ⟨w0, h1, h2, h3⟩ := h
  exact ⟨h2, by rw [h1, h3]⟩
theorem jFrR.eq {R w : va_W} {v : Option Value} {r : jR} {w' : va_W} (h : jFrR R (jEq v w) r w') : jEq v (w ++ R) r w' := by
  obtain ⟨w0, h1, h2, h3⟩ := h
  exact ⟨h2, by rw [h1, h3]⟩
theorem jFrR.tw {R w : va_W} {E : String} {r : jR} {w' : va_W} (h : jFrR R (jTw E w) r w') : jTw E (w ++ R) r w' := by
  obtain ⟨w0, h1, h2, h3⟩ := h
  exact ⟨h2, by rw [h1, h3]⟩
theorem jCon.post {G : jG} {M : jM} {y : MethodName} {d mc ms : Nat} {As : List Value} {ws : va_W} {P P' : jR → va_W → Prop} (K : jCon G M y d mc ms As ws P) (h : ∀ r w, P r w → P' r w) : jCon G M y d mc ms As ws P' := by
  intro l D sz hl p e ha hc hk s m args below hf happ hP hK
  obtain ⟨k, o, h1, h2, h3, ⟨⟨r, w, q1, q2, q3⟩, hF⟩, h5⟩ := K l D sz hl p e ha hc hk s m args below hf happ hP hK
  exact ⟨k, o, h1, h2, h3, ⟨⟨r, w, q1, h r w q2, q3⟩, hF⟩, h5⟩
theorem jCon.frL {G : jG} {M : jM} {y : MethodName} {d mc ms : Nat} {As : List Value} {ws : va_W} {P : jR → va_W → Prop} (K : jCon G M y d mc ms As ws P) (R : va_W) : jCon G M y d mc ms As (R ++ ws) (jFrL R P) := by
  intro l D sz hl p e ha hc hk s m args below hf happ hP hK
  obtain ⟨q0, q1, qP, qD, qK, qZ⟩ := hP
  obtain ⟨k, o, h1, h2, h3, ⟨⟨r, w, z1, z2, z3, z4⟩, hF⟩, L, h5, h6⟩ := K l D sz hl p e ha hc hk s m args below hf happ ⟨q0, q1, qP.right, qD.right, qK, jZ.narrow (fun q h => va_A.right h) qZ⟩ hK
  have hRlt : ∀ (i : Nat) (q : Nat × va_E), R[i]? = some q → q.1 < sz := fun i q hi => by
    rw [← q1]; exact (qP.left i q hi).lt
  have hRn : ∀ (i : Nat) (q : Nat × va_E), R[i]? = some q → ¬ va_A ws sz q.1 := fun i q hi hA => by
    rcases hA with ⟨j, e, hj⟩ | hA
    · exact qD.apart i j q _ hi hj rfl
    · exact absurd (hRlt i q hi) (Nat.not_lt.mpr hA)
  refine ⟨k, o, h1, h2, h3, ⟨⟨r, R ++ w, z1, ⟨w, rfl, z2⟩, va_P.app (qP.left.kept (fun i q hi => hF.2 q.1 (by rw [q1]; exact hRlt i q hi) (hRn i q hi))) z3, ?_⟩, hF.1, fun q hq hn => hF.2 q hq (fun h => hn (va_A.right h))⟩, L, h5, fun q hq => va_A.right (h6 q hq)⟩
  refine va_D.app (va_D.weaken qD.left (fun i q hi _ => va_A.left (va_A.in hi))) (z4.weaken (fun _ _ _ h => va_A.right h)) ?_
  intro i j a b ha hb hab
  exact hRn i a ha (by rw [hab]; exact z4.2 j b hb)
theorem jCon.frR {G : jG} {M : jM} {y : MethodName} {d mc ms : Nat} {As : List Value} {ws : va_W} {P : jR → va_W → Prop} (K : jCon G M y d mc ms As ws P) (R : va_W) : jCon G M y d mc ms As (ws ++ R) (jFrR R P) := by
  intro l D sz hl p e ha hc hk s m args below hf happ hP hK
  obtain ⟨q0, q1, qP, qD, qK, qZ⟩ := hP
  obtain ⟨k, o, h1, h2, h3, ⟨⟨r, w, z1, z2, z3, z4⟩, hF⟩, L, h5, h6⟩ := K l D sz hl p e ha hc hk s m args below hf happ ⟨q0, q1, qP.left, qD.left, qK, jZ.narrow (fun q h => va_A.left h) qZ⟩ hK
  have hRlt : ∀ (i : Nat) (q : Nat × va_E), R[i]? = some q → q.1 < sz := fun i q hi => by
    rw [← q1]; exact (qP.right i q hi).lt
  have hRn : ∀ (i : Nat) (q : Nat × va_E), R[i]? = some q → ¬ va_A ws sz q.1 := fun i q hi hA => by
    rcases hA with ⟨j, e, hj⟩ | hA
    · exact qD.apart j i _ q hj hi rfl
    · exact absurd (hRlt i q hi) (Nat.not_lt.mpr hA)
  refine ⟨k, o, h1, h2, h3, ⟨⟨r, w ++ R, z1, ⟨w, rfl, z2⟩, va_P.app z3 (qP.right.kept (fun i q hi => hF.2 q.1 (by rw [q1]; exact hRlt i q hi) (hRn i q hi))), ?_⟩, hF.1, fun q hq hn => hF.2 q hq (fun h => hn (va_A.left h))⟩, L, h5, fun q hq => va_A.left (h6 q hq)⟩
  refine va_D.app (z4.weaken (fun _ _ _ h => va_A.left h)) (va_D.weaken qD.right (fun i q hi _ => va_A.right (va_A.in hi))) ?_
  intro i j a b ha hb hab
  exact hRn j b hb (by rw [← hab]; exact z4.2 i a ha)
/-- the cells of a world in another order -/
theorem j_perm {G : jG} {M : jM} {d mc ms : Nat} {P : jR → va_W → Prop} {pc : Nat} {lv : List (Nat × Value)} {st : List Value} {ws ws' : va_W} {k n : Nat} (h : ws.Perm ws') (kk : J G M d mc ms P pc lv st ws' k n) : J G M d mc ms P pc lv st ws k n := by
  intro p l e s m args below meth c D A C H locs ls hP hD hS hl
  have hm : ∀ q, q ∈ ws' → q ∈ ws := fun q hq => h.mem_iff.mpr hq
  have hnd : (ws.map Prod.fst).Nodup := by
    rw [List.nodup_iff_pairwise_ne, List.pairwise_iff_getElem]
    intro i j hi hj hij e
    rw [List.length_map] at hi hj
    rw [List.getElem_map, List.getElem_map] at e
    have := hD.1 i j ws[i] ws[j] (List.getElem?_eq_getElem hi) (List.getElem?_eq_getElem hj) e
    omega
  have hnd' : (ws'.map Prod.fst).Nodup := (h.map Prod.fst).nodup_iff.mp hnd
  refine kk p l e s m args below meth c D A C H locs ls (fun k q hk => ?_) ⟨fun i j p q hp hq e => ?_, fun k q hk => ?_⟩ hS hl
  · obtain ⟨i, hi⟩ := List.getElem?_of_mem (hm q (List.mem_of_getElem? hk))
    exact hP i q hi
  · obtain ⟨hi, rfl⟩ := List.getElem?_eq_some_iff.mp hp
    obtain ⟨hj, rfl⟩ := List.getElem?_eq_some_iff.mp hq
    have h1 : (ws'.map Prod.fst)[i]'(by rw [List.length_map]; exact hi) = (ws'.map Prod.fst)[j]'(by rw [List.length_map]; exact hj) := by
      rw [List.getElem_map, List.getElem_map]; exact e
    rw [List.nodup_iff_pairwise_ne, List.pairwise_iff_getElem] at hnd'
    rcases Nat.lt_trichotomy i j with h9 | h9 | h9
    · exact absurd h1 (hnd' i j _ _ h9)
    · exact h9
    · exact absurd h1.symm (hnd' j i _ _ h9)
  · obtain ⟨i, hi⟩ := List.getElem?_of_mem (hm q (List.mem_of_getElem? hk))
    exact hD.2 i q hi
/-- some of the cells, in an order of ours -/
theorem j_cut {G : jG} {M : jM} {d mc ms : Nat} {P : jR → va_W → Prop} {pc : Nat} {lv : List (Nat × Value)} {st : List Value} {ws ws' : va_W} {k n : Nat} (is : List Nat) (hn : va_nd is = true) (hs : is.map (fun i => ws[i]?) = ws'.map some) (kk : J G M d mc ms P pc lv st ws' k n) : J G M d mc ms P pc lv st ws k n := by
  intro p l e s m args below meth c D A C H locs ls hP hD hS hl
  refine kk p l e s m args below meth c D A C H locs ls (fun k q hk => ?_) (hD.sub is hn hs) hS hl
  have h1 : (is.map (fun i => ws[i]?))[k]? = some (some q) := by rw [hs, List.getElem?_map, hk]; rfl
  rw [List.getElem?_map] at h1
  cases hi : is[k]? with
  | none => rw [hi] at h1; cases h1
  | some i =>
    rw [hi] at h1
    exact hP i q (Option.some.inj h1)
