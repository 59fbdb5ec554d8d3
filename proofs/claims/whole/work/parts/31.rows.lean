/-! ===== rows over the class's world ===== -/
def jidx (i : Int32) (N : Nat) : Option Nat := if jin i N then some i.toNatClampNeg else none
theorem jidx.get {i : Int32} {N k : Nat} (h : jidx i N = some k) : jin i N ∧ i.toNatClampNeg = k := by
  unfold jidx at h
  by_cases hc : jin i N
  · rw [if_pos hc] at h; exact ⟨hc, Option.some.inj h⟩
  · rw [if_neg hc] at h; cases h
theorem jidx.vp {i : Int32} {N k : Nat} (h : jidx i N = some k) : vp_in i N := jin.vp (jidx.get h).1
theorem jidx.lt {i : Int32} {N k : Nat} (h : jidx i N = some k) : k < N := by
  have h1 := jidx.vp h
  rw [← (jidx.get h).2]
  exact Nat.not_le.mp fun q => h1 (Or.inr q)
theorem jidx.fn {i : Int32} {N k : Nat} (h : jidx i N = some k) (g : Nat → Nat) : (fun k => if k < N then some (g k) else none) i.toNatClampNeg = some (g k) := by
  have h1 := jidx.lt h
  show (if i.toNatClampNeg < N then some (g i.toNatClampNeg) else none) = some (g k)
  rw [(jidx.get h).2, if_pos h1]
theorem jidx.row {i : Int32} {w : Nat} (h : jidx i 2 = some w) (ad : Nat → Nat) {a b : Nat} (hb : b = a + 1) : (fun k => if k < 2 then some (if k = 0 then ad a else ad b) else none) i.toNatClampNeg = some (ad (a + w)) := by
  have h1 := jidx.lt h
  show (if i.toNatClampNeg < 2 then some (if i.toNatClampNeg = 0 then ad a else ad b) else none) = some (ad (a + w))
  rw [(jidx.get h).2, if_pos h1, hb]
  match w, h1 with
  | 0, _ => rfl
  | 1, _ => rfl
theorem jidx0 : jidx 0 2 = some 0 := by decide
theorem jidx1 : jidx 1 2 = some 1 := by decide
theorem jlt0 : 0 < 2 := by decide
theorem jlt1 : 1 < 2 := by decide
theorem jrow15 (a k : Nat) : a + 1 + 15 * k = a + 15 * k + 1 := by omega
def gneu (g : Nat) : Int32 := if g = 0 then 1 else 4000
def ggen (g : Nat) : Int32 := if g = 0 then 4 else 140
def ghei (g : Nat) : Int32 := if g = 0 then 9 else 1362
theorem gf_lt {g : Nat} (h : g < 2) : 1 + g < 3 := by omega
def jtry {α β : Type} (x : Option (String ⊕ α)) (f : α → Option (String ⊕ β)) : Option (String ⊕ β) := match x with
  | none => none
  | some (.inl E) => some (.inl E)
  | some (.inr a) => f a
theorem otry {α β : Type} {x : Option (String ⊕ α)} {f : α → Option (String ⊕ β)} {r : String ⊕ β} (h : jtry x f = some r) : (∃ E, x = some (.inl E) ∧ r = .inl E) ∨ ∃ a, x = some (.inr a) ∧ f a = some r := by
  match x, h with
  | some (.inl E), h => exact Or.inl ⟨E, rfl, (Option.some.inj h).symm⟩
  | some (.inr a), h => exact Or.inr ⟨a, rfl, h⟩
def jend {α : Type} (x : Option (Int32 ⊕ α)) (f : α → Option Int32) : Option Int32 := match x with
  | none => none
  | some (.inl v) => some v
  | some (.inr a) => f a
theorem oend {α : Type} {x : Option (Int32 ⊕ α)} {f : α → Option Int32} {r : Int32} (h : jend x f = some r) : x = some (.inl r) ∨ ∃ a, x = some (.inr a) ∧ f a = some r := by
  match x, h with
  | some (.inl v), h => exact Or.inl (by rw [Option.some.inj h])
  | some (.inr a), h => exact Or.inr ⟨a, rfl, h⟩
/-- it threw E and left the world, or it answered -/
def jRs {α : Type} (w0 : va_W) (f : α → Option Value) (g : α → va_W) : String ⊕ α → jR → va_W → Prop
  | .inl E => jTw E w0
  | .inr a => jEq (f a) (g a)
section JY
variable {ad : Nat → Nat} {s : jU} {G : jG} {M : jM} {d mc ms : Nat} {P : jR → va_W → Prop} {pc : Nat} {lv : List (Nat × Value)} {st st2 : List Value} {ws : va_W} {k n : Nat}
theorem jt_V {α : Type} {w0 w : va_W} {f : α → Option Value} {g : α → va_W} {a : α} {ix nA d' mc' ms' b ci : Nat} {y : MethodName} {M' : jM} {C0 : String} {T0 : u_T} {N0 : Nat} {fs As stk : List Value} (K : jCon G M' y d' mc' ms' (.ref b :: As) ws (jRs w0 f g (.inr a))) (L : jL0 y M' nA) (hk : Cond.methodLink M.1 ix y ∈ jWS) (hi : Cond.instanceMethod y ∈ jWS) (hs : Cond.selects C0 y y ∈ jWS) (q0 : Nat) (he : ws[q0]? = some (b, .inr (ci, fs))) (hc : vwCl[ci]? = some (C0, T0, N0))
    (hd : decode M.2.1 pc = .ok (.invokevirtual ix, 3)) (hn : As.length = nA) (hst : (st.map fun v => v.category).sum ≤ 8) (hdd : d' + 1 ≤ d) (hm : k + mc' ≤ mc) (hn2 : n + ms' ≤ ms) (hstk : stk = As.reverse ++ .ref b :: st) (hr : (f a).toList ++ st = st2) (hg : g a = w) (kk : J G M d mc ms P (pc + 3) lv st2 w (k + mc') (n + ms')) : J G M d mc ms P pc lv stk ws k n :=
  j_callV K L hk hi hs q0 he hc hd hn hst hdd hm hn2 hstk (fun _ _ h => by cases h.1) (fun v ws' h => by
    obtain ⟨h1, h2⟩ := h
    cases h1
    subst h2
    subst hr
    subst hg
    exact kk)
theorem jt_S {α : Type} {w0 w : va_W} {f : α → Option Value} {g : α → va_W} {a : α} {ix nA d' mc' ms' : Nat} {y : MethodName} {M' : jM} {As stk : List Value} (K : jCon G M' y d' mc' ms' As ws (jRs w0 f g (.inr a))) (L : jL0 y M' nA) (hk : Cond.methodLink M.1 ix y ∈ jWS) (hi : Cond.static y ∈ jWS)
    (hd : decode M.2.1 pc = .ok (.invokestatic ix, 3)) (hn : As.length = nA) (hst : (st.map fun v => v.category).sum ≤ 8) (hdd : d' + 1 ≤ d) (hm : k + mc' ≤ mc) (hn2 : n + ms' ≤ ms) (hstk : stk = As.reverse ++ st) (hr : (f a).toList ++ st = st2) (hg : g a = w) (kk : J G M d mc ms P (pc + 3) lv st2 w (k + mc') (n + ms')) : J G M d mc ms P pc lv stk ws k n :=
  j_callS K L hk hi hd hn hst hdd hm hn2 hstk (fun _ _ h => by cases h.1) (fun v ws' h => by
    obtain ⟨h1, h2⟩ := h
    cases h1
    subst h2
    subst hr
    subst hg
    exact kk)
set_option maxRecDepth 20000 in
theorem g_size {ix : Nat} (F2 : jFl M.1 ix 2 0) (F6 : jFl M.1 ix 6 0) {f : Nat} (hf : f < 3) (hd : decode M.2.1 pc = .ok (.getfield ix, 3)) (kk : J G M d mc ms P (pc + 3) lv (.int (fsz f) :: st) (mkC ad G s) k n) : J G M d mc ms P pc lv (.ref (ad (2 + f)) :: st) (mkC ad G s) k n := by
  match f, hf with
  | 0, _ => exact j_get F2 2 hd rfl rfl kk
  | 1, _ => exact j_get F6 3 hd rfl rfl kk
  | 2, _ => exact j_get F6 4 hd rfl rfl kk
set_option maxRecDepth 20000 in
theorem g_exp {ix : Nat} (F9 : jFl M.1 ix 9 0) (F3 : jFl M.1 ix 3 0) {g : Nat} (hg : g < 2) (hd : decode M.2.1 pc = .ok (.getfield ix, 3)) (kk : J G M d mc ms P (pc + 3) lv (.ref (ad (2 + (1 + g))) :: st) (mkC ad G s) k n) : J G M d mc ms P pc lv (.ref (ad (11 + g)) :: st) (mkC ad G s) k n := by
  match g, hg with
  | 0, _ => exact j_get F9 11 hd rfl rfl kk
  | 1, _ => exact j_get F3 12 hd rfl rfl kk
set_option maxRecDepth 20000 in
theorem g_neu {ix : Nat} (F9 : jFl M.1 ix 9 1) (F3 : jFl M.1 ix 3 1) {g : Nat} (hg : g < 2) (hd : decode M.2.1 pc = .ok (.getfield ix, 3)) (kk : J G M d mc ms P (pc + 3) lv (.int (gneu g) :: st) (mkC ad G s) k n) : J G M d mc ms P pc lv (.ref (ad (11 + g)) :: st) (mkC ad G s) k n := by
  match g, hg with
  | 0, _ => exact j_get F9 11 hd rfl rfl kk
  | 1, _ => exact j_get F3 12 hd rfl rfl kk
set_option maxRecDepth 20000 in
theorem g_gen {ix : Nat} (F9 : jFl M.1 ix 9 2) (F3 : jFl M.1 ix 3 2) {g : Nat} (hg : g < 2) (hd : decode M.2.1 pc = .ok (.getfield ix, 3)) (kk : J G M d mc ms P (pc + 3) lv (.int (ggen g) :: st) (mkC ad G s) k n) : J G M d mc ms P pc lv (.ref (ad (11 + g)) :: st) (mkC ad G s) k n := by
  match g, hg with
  | 0, _ => exact j_get F9 11 hd rfl rfl kk
  | 1, _ => exact j_get F3 12 hd rfl rfl kk
set_option maxRecDepth 20000 in
theorem g_hei {ix : Nat} (F9 : jFl M.1 ix 9 3) (F3 : jFl M.1 ix 3 3) {g : Nat} (hg : g < 2) (hd : decode M.2.1 pc = .ok (.getfield ix, 3)) (kk : J G M d mc ms P (pc + 3) lv (.int (ghei g) :: st) (mkC ad G s) k n) : J G M d mc ms P pc lv (.ref (ad (11 + g)) :: st) (mkC ad G s) k n := by
  match g, hg with
  | 0, _ => exact j_get F9 11 hd rfl rfl kk
  | 1, _ => exact j_get F3 12 hd rfl rfl kk
end JY
set_option maxRecDepth 20000 in
theorem lkR_1 (ad : Nat → Nat) (G : jG) (s : jU) {i : Nat} (hi : i < 7) {w : Nat} (hw : w < 2) : (mkC ad G s)[28 + 15 * i + w]? = some (ad (28 + 15 * i + w), .inl (G.1 0, 7, .inl (s (0 + w) i))) := by
  match i, hi, w, hw with | 0, _, 0, _ => rfl | 0, _, 1, _ => rfl | 1, _, 0, _ => rfl | 1, _, 1, _ => rfl | 2, _, 0, _ => rfl | 2, _, 1, _ => rfl | 3, _, 0, _ => rfl | 3, _, 1, _ => rfl | 4, _, 0, _ => rfl | 4, _, 1, _ => rfl | 5, _, 0, _ => rfl | 5, _, 1, _ => rfl | 6, _, 0, _ => rfl | 6, _, 1, _ => rfl
set_option maxRecDepth 20000 in
theorem wrR_1 (ad : Nat → Nat) (G : jG) (s : jU) {i : Nat} (hi : i < 7) {w : Nat} (hw : w < 2) (a : Nat → Int32) : (mkC ad G s).set (28 + 15 * i + w) (ad (28 + 15 * i + w), .inl (G.1 0, 7, .inl a)) = mkC ad G (ups s (0 + w) i a) := by
  match i, hi, w, hw with | 0, _, 0, _ => rfl | 0, _, 1, _ => rfl | 1, _, 0, _ => rfl | 1, _, 1, _ => rfl | 2, _, 0, _ => rfl | 2, _, 1, _ => rfl | 3, _, 0, _ => rfl | 3, _, 1, _ => rfl | 4, _, 0, _ => rfl | 4, _, 1, _ => rfl | 5, _, 0, _ => rfl | 5, _, 1, _ => rfl | 6, _, 0, _ => rfl | 6, _, 1, _ => rfl
set_option maxRecDepth 20000 in
theorem lkR_5 (ad : Nat → Nat) (G : jG) (s : jU) {i : Nat} (hi : i < 7) {w : Nat} (hw : w < 2) : (mkC ad G s)[32 + 15 * i + w]? = some (ad (32 + 15 * i + w), .inl (G.1 0, 7, .inl (s (3 + w) i))) := by
  match i, hi, w, hw with | 0, _, 0, _ => rfl | 0, _, 1, _ => rfl | 1, _, 0, _ => rfl | 1, _, 1, _ => rfl | 2, _, 0, _ => rfl | 2, _, 1, _ => rfl | 3, _, 0, _ => rfl | 3, _, 1, _ => rfl | 4, _, 0, _ => rfl | 4, _, 1, _ => rfl | 5, _, 0, _ => rfl | 5, _, 1, _ => rfl | 6, _, 0, _ => rfl | 6, _, 1, _ => rfl
set_option maxRecDepth 20000 in
theorem wrR_5 (ad : Nat → Nat) (G : jG) (s : jU) {i : Nat} (hi : i < 7) {w : Nat} (hw : w < 2) (a : Nat → Int32) : (mkC ad G s).set (32 + 15 * i + w) (ad (32 + 15 * i + w), .inl (G.1 0, 7, .inl a)) = mkC ad G (ups s (3 + w) i a) := by
  match i, hi, w, hw with | 0, _, 0, _ => rfl | 0, _, 1, _ => rfl | 1, _, 0, _ => rfl | 1, _, 1, _ => rfl | 2, _, 0, _ => rfl | 2, _, 1, _ => rfl | 3, _, 0, _ => rfl | 3, _, 1, _ => rfl | 4, _, 0, _ => rfl | 4, _, 1, _ => rfl | 5, _, 0, _ => rfl | 5, _, 1, _ => rfl | 6, _, 0, _ => rfl | 6, _, 1, _ => rfl
set_option maxRecDepth 20000 in
theorem lkR_8 (ad : Nat → Nat) (G : jG) (s : jU) {i : Nat} (hi : i < 7) {w : Nat} (hw : w < 2) : (mkC ad G s)[35 + 15 * i + w]? = some (ad (35 + 15 * i + w), .inl (G.1 0, 8, .inl (s (5 + w) i))) := by
  match i, hi, w, hw with | 0, _, 0, _ => rfl | 0, _, 1, _ => rfl | 1, _, 0, _ => rfl | 1, _, 1, _ => rfl | 2, _, 0, _ => rfl | 2, _, 1, _ => rfl | 3, _, 0, _ => rfl | 3, _, 1, _ => rfl | 4, _, 0, _ => rfl | 4, _, 1, _ => rfl | 5, _, 0, _ => rfl | 5, _, 1, _ => rfl | 6, _, 0, _ => rfl | 6, _, 1, _ => rfl
set_option maxRecDepth 20000 in
theorem wrR_8 (ad : Nat → Nat) (G : jG) (s : jU) {i : Nat} (hi : i < 7) {w : Nat} (hw : w < 2) (a : Nat → Int32) : (mkC ad G s).set (35 + 15 * i + w) (ad (35 + 15 * i + w), .inl (G.1 0, 8, .inl a)) = mkC ad G (ups s (5 + w) i a) := by
  match i, hi, w, hw with | 0, _, 0, _ => rfl | 0, _, 1, _ => rfl | 1, _, 0, _ => rfl | 1, _, 1, _ => rfl | 2, _, 0, _ => rfl | 2, _, 1, _ => rfl | 3, _, 0, _ => rfl | 3, _, 1, _ => rfl | 4, _, 0, _ => rfl | 4, _, 1, _ => rfl | 5, _, 0, _ => rfl | 5, _, 1, _ => rfl | 6, _, 0, _ => rfl | 6, _, 1, _ => rfl
set_option maxRecDepth 20000 in
theorem lkR_11 (ad : Nat → Nat) (G : jG) (s : jU) {i : Nat} (hi : i < 7) {w : Nat} (hw : w < 2) : (mkC ad G s)[38 + 15 * i + w]? = some (ad (38 + 15 * i + w), .inl (G.1 0, 8, .inl (s (7 + w) i))) := by
  match i, hi, w, hw with | 0, _, 0, _ => rfl | 0, _, 1, _ => rfl | 1, _, 0, _ => rfl | 1, _, 1, _ => rfl | 2, _, 0, _ => rfl | 2, _, 1, _ => rfl | 3, _, 0, _ => rfl | 3, _, 1, _ => rfl | 4, _, 0, _ => rfl | 4, _, 1, _ => rfl | 5, _, 0, _ => rfl | 5, _, 1, _ => rfl | 6, _, 0, _ => rfl | 6, _, 1, _ => rfl
set_option maxRecDepth 20000 in
theorem wrR_11 (ad : Nat → Nat) (G : jG) (s : jU) {i : Nat} (hi : i < 7) {w : Nat} (hw : w < 2) (a : Nat → Int32) : (mkC ad G s).set (38 + 15 * i + w) (ad (38 + 15 * i + w), .inl (G.1 0, 8, .inl a)) = mkC ad G (ups s (7 + w) i a) := by
  match i, hi, w, hw with | 0, _, 0, _ => rfl | 0, _, 1, _ => rfl | 1, _, 0, _ => rfl | 1, _, 1, _ => rfl | 2, _, 0, _ => rfl | 2, _, 1, _ => rfl | 3, _, 0, _ => rfl | 3, _, 1, _ => rfl | 4, _, 0, _ => rfl | 4, _, 1, _ => rfl | 5, _, 0, _ => rfl | 5, _, 1, _ => rfl | 6, _, 0, _ => rfl | 6, _, 1, _ => rfl
theorem jcp0 {x : Int32} {N : Nat} (h : jin x N) : ¬ x < 0 := fun q => by
  have h1 := Int32.lt_iff_toInt_lt.mp q
  have h2 : (0 : Int32).toInt = 0 := rfl
  have h3 := h.1
  omega
theorem jcp1 {x : Int32} {N n0 : Nat} (h : jin x N) (hn : N ≤ n0 + 1) : (0 : Int32).toNatClampNeg + x.toNatClampNeg ≤ n0 := by
  have h1 : (0 : Int32).toNatClampNeg = 0 := rfl
  have h2 : x.toNatClampNeg = x.toInt.toNat := rfl
  have h3 := h.1
  have h4 := h.2
  omega
/-! Arrays.fill -/
def afl (N : Nat) (v : Int32) (f : Nat → Int32) : Nat → Int32 := fun k => if k < N then v else f k
def aflF (i N : Nat) (v : Int32) (f : Nat → Int32) : Nat → Int32 := fun k => if i ≤ k ∧ k < N then v else f k
theorem aflF_step {i N : Nat} {v : Int32} {f : Nat → Int32} (h : i < N) : aflF (i + 1) N v (upd f i v) = aflF i N v f := by
  funext k
  unfold aflF upd
  by_cases h1 : k = i
  · subst h1
    rw [if_neg (by omega), if_pos (show k ≤ k ∧ k < N by omega)]
    simp
  · by_cases h2 : i + 1 ≤ k ∧ k < N
    · rw [if_pos h2, if_pos (show i ≤ k ∧ k < N by omega)]
    · rw [if_neg h2, if_neg (show ¬ (i ≤ k ∧ k < N) by omega)]
      simp [h1]
theorem aflF_end {N : Nat} {v : Int32} {f : Nat → Int32} : aflF N N v f = f := by
  funext k
  unfold aflF
  rw [if_neg (by omega)]
theorem aflF_zero {N : Nat} {v : Int32} {f : Nat → Int32} : aflF 0 N v f = afl N v f := by
  funext k
  unfold aflF afl
  by_cases h : k < N
  · rw [if_pos ⟨Nat.zero_le _, h⟩, if_pos h]
  · rw [if_neg (fun q => h q.2), if_neg h]
theorem i32c {m : Nat} (h : m < 2000) : (Int32.ofNat m).toInt = (m : Int) := by
  rw [Int32.toInt_ofNat']
  have h9 : (Int32.size : Int) = 4294967296 := rfl
  rw [Int.bmod_eq_of_le] <;> omega
theorem i32n {m : Nat} (h : m < 2000) : (Int32.ofNat m).toNatClampNeg = m := by
  show (Int32.ofNat m).toInt.toNat = m
  rw [i32c h]; rfl
theorem i32s (m : Nat) : Int32.ofNat m + 1 = Int32.ofNat (m + 1) := by
  rw [Int32.ofNat_add]; rfl
set_option maxRecDepth 20000 in
theorem lp_fill {G : jG} {P : jR → va_W → Prop} {v : Int32} {q a N : Nat} (hN : N < 1000) : ∀ (m i : Nat) (f : Nat → Int32) (ws : va_W), i + m = N → ws[q]? = some (a, .inl (G.1 0, N, .inl f)) → P (.inl none) (ws.set q (a, .inl (G.1 0, N, .inl (aflF i N v f)))) → J G m_Arrays_fill 0 0 0 P 5 [(0, .ref a), (1, .int v), (2, .int (Int32.ofNat i)), (3, .int (Int32.ofNat N))] [] ws 0 0 := by
  intro m
  induction m with
  | zero =>
    intro i f ws hi hq hp
    have hiN : i = N := by omega
    subst hiN
    refine j_iload_n 2 (jd k_Arrays_fill 5 rfl) rfl ?_
    refine j_iload_n 3 (jd k_Arrays_fill 6 rfl) rfl ?_
    refine j_icmp_ge (tgt := 20) (jd k_Arrays_fill 7 rfl) rfl (fun h => ?_) (fun h => absurd (Int32.le_refl _) h)
    refine j_vret (jd k_Arrays_fill 14 rfl) rfl ?_
    rw [aflF_end] at hp
    have e : ws.set q (a, .inl (G.1 0, i, .inl f)) = ws := by
      obtain ⟨h1, h2⟩ := List.getElem?_eq_some_iff.mp hq
      rw [← h2, List.set_getElem_self]
    rw [e] at hp
    exact hp
  | succ m ih =>
    intro i f ws hi hq hp
    have hlt : i < N := by omega
    have hin : jin (Int32.ofNat i) N := by
      unfold jin
      rw [i32c (by omega)]
      omega
    refine j_iload_n 2 (jd k_Arrays_fill 5 rfl) rfl ?_
    refine j_iload_n 3 (jd k_Arrays_fill 6 rfl) rfl ?_
    refine j_icmp_ge (tgt := 20) (jd k_Arrays_fill 7 rfl) rfl (fun h => ?_) (fun h => ?_)
    · exfalso
      have h2 := Int32.le_iff_toInt_le.mp h
      rw [i32c (by omega), i32c (by omega)] at h2
      omega
    refine j_aload_n 0 (jd k_Arrays_fill 8 rfl) rfl ?_
    refine j_iload_n 2 (jd k_Arrays_fill 9 rfl) rfl ?_
    refine j_iload_n 1 (jd k_Arrays_fill 10 rfl) rfl ?_
    refine j_iast (f := f) q (jd k_Arrays_fill 11 rfl) hq (jin.vp hin) rfl ?_
    refine j_iinc (lv' := [(0, .ref a), (1, .int v), (2, .int (Int32.ofNat (i + 1))), (3, .int (Int32.ofNat N))]) 2 (jd k_Arrays_fill 12 rfl) rfl (i32s i) rfl (Nat.le_of_ble_eq_true rfl) rfl ?_
    refine j_goto (tgt := 5) (jd k_Arrays_fill 13 rfl) rfl ?_
    refine ih (i + 1) (upd f i v) _ (by omega) ?_ ?_
    · rw [i32n (by omega)]
      rw [List.getElem?_set_self (List.getElem?_eq_some_iff.mp hq).1]
    · rw [List.set_set, aflF_step hlt]
      exact hp
set_option maxRecDepth 20000 in
theorem c_Arrays_fill (G : jG) (ws : va_W) (q a N : Nat) (f : Nat → Int32) (v : Int32) (hN : N < 1000) (hq : ws[q]? = some (a, .inl (G.1 0, N, .inl f))) : jCon G m_Arrays_fill y_Arrays_fill 0 0 0 [.ref a, .int v] ws (jEq none (ws.set q (a, .inl (G.1 0, N, .inl (afl N v f))))) := by
  refine jCon.of (by decide +kernel) rfl rfl rfl (Nat.le_of_ble_eq_true rfl) rfl ?_
  refine j_iconst (v := 0) (jd k_Arrays_fill 0 rfl) (by decide) ?_
  refine j_istore_n (lv' := [(0, .ref a), (1, .int v), (2, .int 0)]) (jd k_Arrays_fill 1 rfl) rfl (Nat.le_of_ble_eq_true rfl) rfl ?_
  refine j_aload_n 0 (jd k_Arrays_fill 2 rfl) rfl ?_
  refine j_alen (t0 := 0) (v := Int32.ofNat N) q (jd k_Arrays_fill 3 rfl) hq rfl rfl ?_
  refine j_istore_n (lv' := [(0, .ref a), (1, .int v), (2, .int (Int32.ofNat 0)), (3, .int (Int32.ofNat N))]) (jd k_Arrays_fill 4 rfl) rfl (Nat.le_of_ble_eq_true rfl) rfl ?_
  exact lp_fill hN N 0 f ws (by omega) hq ⟨rfl, by rw [aflF_zero]⟩
