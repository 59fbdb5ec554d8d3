
def L_Curve_init_32 (x10 : Int32) : Nat → Int32 → (Nat → Int32) → Option (Int32 × (Nat → Int32))
  | 0, _, _ => none
  | n + 1, x13, s14 =>
    if 43 ≤ x13 then
      some (x13, s14)
    else
      Option.bind (α := (Nat → Int32)) (
        if ¬ (jrem (x10 * x13) 43) = 1 then
          some s14
        else
          if jin x10 43 then
          jlet (upd s14 x10.toNatClampNeg x13) fun s17 =>
          some s17
          else none) fun s20 =>
      jlet (x13 + 1) fun x23 =>
      L_Curve_init_32 x10 n x23 s20

def L_Curve_init_24 : Nat → Int32 → (Nat → Int32) → Option (Int32 × (Nat → Int32))
  | 0, _, _ => none
  | n + 1, x10, s11 =>
    if 43 ≤ x10 then
      some (x10, s11)
    else
      Option.bind (L_Curve_init_32 x10 jF 1 s11) fun (x25, s26) =>
      jlet (x10 + 1) fun x28 =>
      L_Curve_init_24 n x28 s26

def f_Curve_init (s : Nat → Int32) : Option ((Nat → Int32)) :=
  Option.bind (L_Curve_init_24 jF 1 s) fun (x30, s31) =>
  some s31

set_option maxRecDepth 20000 in
theorem lp_Curve_init_32 {G : jG} {a b1 q1 : Nat} {P : jR → va_W → Prop} (x10 : Int32) : ∀ (n : Nat) (x13 : Int32) (s14 : (Nat → Int32)) (r : Int32 × (Nat → Int32)), L_Curve_init_32 x10 n x13 s14 = some r → J G m_Curve_init 1 1 43 P 61 [(0, .ref a), (1, .ref b1), (2, .int x10), (3, .int r.1)] [] [(a, .inr (3, [.ref b1, .int 4000, .int 140, .int 1362, .ref q1])), (q1, .inl (G.1 0, 43, .inl r.2))] 1 43 → J G m_Curve_init 1 1 43 P 32 [(0, .ref a), (1, .ref b1), (2, .int x10), (3, .int x13)] [] [(a, .inr (3, [.ref b1, .int 4000, .int 140, .int 1362, .ref q1])), (q1, .inl (G.1 0, 43, .inl s14))] 1 43 := by
  intro n
  induction n with
  | zero =>
    intro x13 s14 r H
    cases (show none = some r from H)
  | succ n ih =>
    intro x13 s14 r H kx
    have H : (
    if 43 ≤ x13 then
      some (x13, s14)
    else
      Option.bind (α := (Nat → Int32)) (
        if ¬ (jrem (x10 * x13) 43) = 1 then
          some s14
        else
          if jin x10 43 then
          jlet (upd s14 x10.toNatClampNeg x13) fun s17 =>
          some s17
          else none) fun s20 =>
      jlet (x13 + 1) fun x23 =>
      L_Curve_init_32 x10 n x23 s20) = some r := H
    refine j_iload_n (pc := 32) 3 (jd k_Curve_init 17 rfl) rfl ?_
    refine j_bipush (pc := 33) (v := 43) (jd k_Curve_init 18 rfl) (by decide) ?_
    refine j_icmp_ge (pc := 35) (tgt := 61) (jd k_Curve_init 19 rfl) rfl (fun h15 => ?_) (fun h15 => ?_)
    · rw [if_pos h15] at H
      cases H
      exact kx
    · rw [if_neg h15] at H
      refine j_iload_n (pc := 38) 2 (jd k_Curve_init 20 rfl) rfl ?_
      refine j_iload_n (pc := 39) 3 (jd k_Curve_init 21 rfl) rfl ?_
      refine j_imul (pc := 40) (jd k_Curve_init 22 rfl) ?_
      refine j_bipush (pc := 41) (v := 43) (jd k_Curve_init 23 rfl) (by decide) ?_
      refine j_irem (pc := 43) (jd k_Curve_init 24 rfl) (by decide) ?_
      refine j_iconst (pc := 44) (v := 1) (jd k_Curve_init 25 rfl) (by decide) ?_
      obtain ⟨s20, h21, H⟩ := obnd H
      have K22 : J G m_Curve_init 1 1 43 P 55 [(0, .ref a), (1, .ref b1), (2, .int x10), (3, .int x13)] [] [(a, .inr (3, [.ref b1, .int 4000, .int 140, .int 1362, .ref q1])), (q1, .inl (G.1 0, 43, .inl s20))] 1 43 := by
        obtain ⟨x23, e24, H⟩ := olet H
        refine j_iinc (pc := 55) (lv' := [(0, .ref a), (1, .ref b1), (2, .int x10), (3, .int x23)]) 3 (jd k_Curve_init 32 rfl) rfl e24 rfl (Nat.le_of_ble_eq_true rfl) rfl ?_
        refine j_goto (pc := 58) (tgt := 32) (jd k_Curve_init 33 rfl) rfl ?_
        exact ih x23 s20 _ H kx
      have H := h21
      refine j_icmp_ne (pc := 45) (tgt := 55) (jd k_Curve_init 26 rfl) rfl (fun h16 => ?_) (fun h16 => ?_)
      · rw [if_pos h16] at H
        cases H
        exact K22
      · rw [if_neg (not_not_intro h16)] at H
        refine j_aload_n (pc := 48) 0 (jd k_Curve_init 27 rfl) rfl ?_
        refine j_get (pc := 49) (fs := [.ref b1, .int 4000, .int 140, .int 1362, .ref q1]) (v := .ref q1) fl_Curve_9_3 0 (jd k_Curve_init 28 rfl) rfl rfl ?_
        refine j_iload_n (pc := 52) 2 (jd k_Curve_init 29 rfl) rfl ?_
        refine j_iload_n (pc := 53) 3 (jd k_Curve_init 30 rfl) rfl ?_
        obtain ⟨h19, H⟩ := ochk H
        obtain ⟨s17, e18, H⟩ := olet H
        refine j_iast (pc := 54) (f := s14) (ws' := [(a, .inr (3, [.ref b1, .int 4000, .int 140, .int 1362, .ref q1])), (q1, .inl (G.1 0, 43, .inl s17))]) 1 (jd k_Curve_init 31 rfl) rfl (jin.vp h19) (by rw [← e18]; rfl) ?_
        cases H
        exact K22

set_option maxRecDepth 20000 in
theorem lp_Curve_init_24 {G : jG} {a b1 q1 : Nat} {P : jR → va_W → Prop} : ∀ (n : Nat) (x10 : Int32) (s11 : (Nat → Int32)) (r : Int32 × (Nat → Int32)), L_Curve_init_24 n x10 s11 = some r → J G m_Curve_init 1 1 43 P 67 [(0, .ref a), (1, .ref b1), (2, .int r.1)] [] [(a, .inr (3, [.ref b1, .int 4000, .int 140, .int 1362, .ref q1])), (q1, .inl (G.1 0, 43, .inl r.2))] 1 43 → J G m_Curve_init 1 1 43 P 24 [(0, .ref a), (1, .ref b1), (2, .int x10)] [] [(a, .inr (3, [.ref b1, .int 4000, .int 140, .int 1362, .ref q1])), (q1, .inl (G.1 0, 43, .inl s11))] 1 43 := by
  intro n
  induction n with
  | zero =>
    intro x10 s11 r H
    cases (show none = some r from H)
  | succ n ih =>
    intro x10 s11 r H kx
    have H : (
    if 43 ≤ x10 then
      some (x10, s11)
    else
      Option.bind (L_Curve_init_32 x10 jF 1 s11) fun (x25, s26) =>
      jlet (x10 + 1) fun x28 =>
      L_Curve_init_24 n x28 s26) = some r := H
    refine j_iload_n (pc := 24) 2 (jd k_Curve_init 12 rfl) rfl ?_
    refine j_bipush (pc := 25) (v := 43) (jd k_Curve_init 13 rfl) (by decide) ?_
    refine j_icmp_ge (pc := 27) (tgt := 67) (jd k_Curve_init 14 rfl) rfl (fun h12 => ?_) (fun h12 => ?_)
    · rw [if_pos h12] at H
      cases H
      exact kx
    · rw [if_neg h12] at H
      refine j_iconst (pc := 30) (v := 1) (jd k_Curve_init 15 rfl) (by decide) ?_
      refine j_istore_n (pc := 31) (lv' := [(0, .ref a), (1, .ref b1), (2, .int x10), (3, .int 1)]) (jd k_Curve_init 16 rfl) rfl (Nat.le_of_ble_eq_true rfl) rfl ?_
      obtain ⟨⟨x25, s26⟩, h27, H⟩ := obnd H
      try dsimp only at H
      refine lp_Curve_init_32 x10 jF 1 s11 _ h27 ?_
      refine j_pick (lv' := [(0, .ref a), (1, .ref b1), (2, .int x10)]) [0, 1, 2] rfl ?_
      obtain ⟨x28, e29, H⟩ := olet H
      refine j_iinc (pc := 61) (lv' := [(0, .ref a), (1, .ref b1), (2, .int x28)]) 2 (jd k_Curve_init 34 rfl) rfl e29 rfl (Nat.le_of_ble_eq_true rfl) rfl ?_
      refine j_goto (pc := 64) (tgt := 24) (jd k_Curve_init 35 rfl) rfl ?_
      exact ih x28 s26 _ H kx

set_option maxRecDepth 20000 in
theorem w_Curve_init {G : jG} {P : jR → va_W → Prop} (a b1 q1 : Nat) (s : Nat → Int32) (r : Nat → Int32) (H : f_Curve_init s = some r) (K : J G m_Curve_init 1 1 43 P 67 [(0, .ref a), (1, .ref b1)] [] [(a, .inr (3, [.ref b1, .int 4000, .int 140, .int 1362, .ref q1])), (q1, .inl (G.1 0, 43, .inl r))] 1 43) : J G m_Curve_init 1 1 43 P 22 [(0, .ref a), (1, .ref b1)] [] [(a, .inr (3, [.ref b1, .int 4000, .int 140, .int 1362, .ref q1])), (q1, .inl (G.1 0, 43, .inl s))] 1 43 := by
  have H : (
  Option.bind (L_Curve_init_24 jF 1 s) fun (x30, s31) =>
  some s31) = some r := H
  refine j_iconst (pc := 22) (v := 1) (jd k_Curve_init 10 rfl) (by decide) ?_
  refine j_istore_n (pc := 23) (lv' := [(0, .ref a), (1, .ref b1), (2, .int 1)]) (jd k_Curve_init 11 rfl) rfl (Nat.le_of_ble_eq_true rfl) rfl ?_
  obtain ⟨⟨x30, s31⟩, h32, H⟩ := obnd H
  try dsimp only at H
  refine lp_Curve_init_24  jF 1 s _ h32 ?_
  refine j_pick (lv' := [(0, .ref a), (1, .ref b1)]) [0, 1] rfl ?_
  cases H
  exact K

theorem arrV_ext (c : ClassId) (N : Nat) {f g : Nat → Value} (h : ∀ k, k < N → f k = g k) : arrV c N f = arrV c N g := by
  unfold arrV
  congr 1
  congr 1
  funext j
  exact h j.val j.isLt
theorem j_ext {G : jG} {M : jM} {d mc ms : Nat} {P : jR → va_W → Prop} {pc : Nat} {lv : List (Nat × Value)} {st : List Value} {ws ws' : va_W} {k n : Nat} (q a N : Nat) (c : ClassId) (f g : Nat → Int32) (hq : ws[q]? = some (a, .inl (c, N, .inl f))) (e : ∀ k, k < N → f k = g k) (hw : ws.set q (a, .inl (c, N, .inl g)) = ws') (kk : J G M d mc ms P pc lv st ws' k n) : J G M d mc ms P pc lv st ws k n := by
  subst hw
  intro p l e0 s m args below meth c0 D A C H locs ls hP hD hS hl
  refine kk p l e0 s m args below meth c0 D A C H locs ls (hP.set hD hq ?_ (fun _ _ => rfl)) (hD.set hq) hS hl
  have h1 : H[a]? = some (vp_cell c (N, .inl f)) := hP q _ hq
  show H[a]? = some (vp_cell c (N, .inl g))
  rw [h1]
  congr 1
  exact arrV_ext c N (fun k hk => by show Value.int (f k) = Value.int (g k); rw [e k hk])
set_option maxRecDepth 100000 in
theorem curve_table : ∃ r, f_Curve_init (fun _ => 0) = some r ∧ ∀ k, k < 43 → r k = invT k := by
  have h : (f_Curve_init (fun _ => 0)).map (fun r => (List.range 43).map r) = some ((List.range 43).map invT) := by decide +kernel
  cases hr : f_Curve_init (fun _ => 0) with
  | none => rw [hr] at h; cases h
  | some r =>
    rw [hr] at h
    refine ⟨r, rfl, fun k hk => ?_⟩
    have h2 := Option.some.inj h
    have h3 := congrArg (fun l => l[k]?) h2
    simpa [hk] using h3
