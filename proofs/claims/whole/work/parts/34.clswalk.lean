set_option maxRecDepth 20000 in
theorem c_Byte_minus (ad : Nat → Nat) (G : jG) (p0 : Int32) (p1 : Int32) (s : jU) (r : Int32) (H : f_Byte_minus p0 p1 = some r) : jCon G m_Byte_minus y_Byte_minus 0 0 0 [.ref (ad 2), .int p0, .int p1] (mkC ad G s) (jEq (some (.int r)) (mkC ad G s)) := by
  refine jCon.of (by decide +kernel) rfl rfl rfl (Nat.le_of_ble_eq_true rfl) rfl ?_
  have H : (
  some (p0 ^^^ p1)) = some r := H
  generalize hP9 : jEq (some (.int r)) (mkC ad G s) = P
  refine j_iload_n (pc := 0) 1 (jd k_Byte_minus 0 rfl) rfl ?_
  refine j_iload_n (pc := 1) 2 (jd k_Byte_minus 1 rfl) rfl ?_
  refine j_ixor (pc := 2) (jd k_Byte_minus 2 rfl) ?_
  cases H
  subst hP9
  exact j_iret (pc := 3) (jd k_Byte_minus 3 rfl) rfl rfl ⟨rfl, rfl⟩

set_option maxRecDepth 20000 in
theorem c_Prime_minus (ad : Nat → Nat) (G : jG) (k0 : Nat) (hk0 : k0 < 3) (p0 : Int32) (p1 : Int32) (s : jU) (r : Int32) (H : f_Prime_minus k0 p0 p1 = some r) : jCon G m_Prime_minus y_Prime_minus 0 0 0 [.ref (ad (2 + k0)), .int p0, .int p1] (mkC ad G s) (jEq (some (.int r)) (mkC ad G s)) := by
  refine jCon.of (by decide +kernel) rfl rfl rfl (Nat.le_of_ble_eq_true rfl) rfl ?_
  have H : (
  if ¬ (fsz k0) = 0 then
  some (jrem ((p0 - p1) + (fsz k0)) (fsz k0))
  else none) = some r := H
  generalize hP9 : jEq (some (.int r)) (mkC ad G s) = P
  refine j_iload_n (pc := 0) 1 (jd k_Prime_minus 0 rfl) rfl ?_
  refine j_iload_n (pc := 1) 2 (jd k_Prime_minus 1 rfl) rfl ?_
  refine j_isub (pc := 2) (jd k_Prime_minus 2 rfl) ?_
  refine j_aload_n (pc := 3) 0 (jd k_Prime_minus 3 rfl) rfl ?_
  refine g_size (pc := 4) fl_Prime_7_2 fl_Prime_7_6 (f := k0) hk0 (jd k_Prime_minus 4 rfl) ?_
  refine j_iadd (pc := 7) (jd k_Prime_minus 5 rfl) ?_
  refine j_aload_n (pc := 8) 0 (jd k_Prime_minus 6 rfl) rfl ?_
  refine g_size (pc := 9) fl_Prime_7_2 fl_Prime_7_6 (f := k0) hk0 (jd k_Prime_minus 7 rfl) ?_
  obtain ⟨h10, H⟩ := ochk H
  refine j_irem (pc := 12) (jd k_Prime_minus 8 rfl) h10 ?_
  cases H
  subst hP9
  exact j_iret (pc := 13) (jd k_Prime_minus 9 rfl) rfl rfl ⟨rfl, rfl⟩

set_option maxRecDepth 20000 in
theorem vF_minus {ad : Nat → Nat} {G : jG} {M : jM} {d mc ms : Nat} {P : jR → va_W → Prop} {pc : Nat} {lv : List (Nat × Value)} {st : List Value} {k n ix : Nat} (f : Nat) (hf : f < 3) (p0 : Int32) (p1 : Int32) (s : jU) (r : Int32) (H : F_minus f p0 p1 = some r) (hk : Cond.methodLink M.1 ix ⟨"SharingRoom$Field", "minus", "(II)I"⟩ ∈ jWS) (hd : decode M.2.1 pc = .ok (.invokevirtual ix, 3)) (hst : (st.map fun v => v.category).sum ≤ 8) (hdd : 0 + 1 ≤ d) (hm : k ≤ mc) (hn2 : n ≤ ms) (kk : J G M d mc ms P (pc + 3) lv (.int r :: st) (mkC ad G s) k n) : J G M d mc ms P pc lv (.int p1 :: .int p0 :: .ref (ad (2 + f)) :: st) (mkC ad G s) k n := by
  match f, hf with
  | 0, _ => exact jc_U (c_Byte_minus ad G p0 p1 s r H) L0_Byte_minus hk ⟨rfl, rfl, by decide, by decide⟩ w346 w347 w348 (Or.inl wt345) 2 rfl rfl hd rfl hst (Nat.le_trans (by decide) hdd) hm hn2 rfl rfl kk
  | 1, _ => exact jc_U (c_Prime_minus ad G 1 (by decide) p0 p1 s r H) L0_Prime_minus hk ⟨rfl, rfl, by decide, by decide⟩ w346 w350 w351 (Or.inl wt345) 3 rfl rfl hd rfl hst (Nat.le_trans (by decide) hdd) hm hn2 rfl rfl kk
  | 2, _ => exact jc_U (c_Prime_minus ad G 2 (by decide) p0 p1 s r H) L0_Prime_minus hk ⟨rfl, rfl, by decide, by decide⟩ w346 w350 w351 (Or.inl wt345) 4 rfl rfl hd rfl hst (Nat.le_trans (by decide) hdd) hm hn2 rfl rfl kk

set_option maxRecDepth 20000 in
theorem lp_Byte_times_8 {ad : Nat → Nat} {G : jG} {P : jR → va_W → Prop} (p1 : Int32) (s : jU) : ∀ (n : Nat) (x10 : Int32) (x11 : Int32) (x12 : Int32) (r : Int32 × Int32 × Int32), L_Byte_times_8 p1 n x10 x11 x12 = some r → J G m_Byte_times 0 0 0 P 58 [(2, .int p1), (3, .int r.1), (4, .int r.2.1), (5, .int r.2.2)] [] (mkC ad G s) 0 0 → J G m_Byte_times 0 0 0 P 8 [(2, .int p1), (3, .int x10), (4, .int x11), (5, .int x12)] [] (mkC ad G s) 0 0 := by
  intro n
  induction n with
  | zero =>
    intro x10 x11 x12 r H
    cases (show none = some r from H)
  | succ n ih =>
    intro x10 x11 x12 r H kx
    have H : (
    if 8 ≤ x12 then
      some (x10, x11, x12)
    else
      Option.bind (α := Int32) (
        if ¬ ((p1 >>> (x12 &&& 31)) &&& 1) = 1 then
          some x10
        else
          jlet (x10 ^^^ x11) fun x15 =>
          some x15) fun x17 =>
      jlet (x11 <<< (1 &&& 31)) fun x20 =>
      Option.bind (α := Int32) (
        if x20 ≤ 255 then
          some x20
        else
          jlet (x20 ^^^ 283) fun x22 =>
          some x22) fun x24 =>
      jlet (x12 + 1) fun x27 =>
      L_Byte_times_8 p1 n x17 x24 x27) = some r := H
    refine j_iload (pc := 8) 3 (jd k_Byte_times 6 rfl) rfl ?_
    refine j_bipush (pc := 10) (v := 8) (jd k_Byte_times 7 rfl) (by decide) ?_
    refine j_icmp_ge (pc := 12) (tgt := 58) (jd k_Byte_times 8 rfl) rfl (fun h13 => ?_) (fun h13 => ?_)
    · rw [if_pos h13] at H
      cases H
      exact kx
    · rw [if_neg h13] at H
      refine j_iload_n (pc := 15) 0 (jd k_Byte_times 9 rfl) rfl ?_
      refine j_iload (pc := 16) 3 (jd k_Byte_times 10 rfl) rfl ?_
      refine j_ishr (pc := 18) (jd k_Byte_times 11 rfl) ?_
      refine j_iconst (pc := 19) (v := 1) (jd k_Byte_times 12 rfl) (by decide) ?_
      refine j_iand (pc := 20) (jd k_Byte_times 13 rfl) ?_
      refine j_iconst (pc := 21) (v := 1) (jd k_Byte_times 14 rfl) (by decide) ?_
      obtain ⟨x17, h18, H⟩ := obnd H
      have K19 : J G m_Byte_times 0 0 0 P 30 [(2, .int p1), (3, .int x17), (4, .int x11), (5, .int x12)] [] (mkC ad G s) 0 0 := by
        refine j_iload (pc := 30) 2 (jd k_Byte_times 20 rfl) rfl ?_
        refine j_iconst (pc := 32) (v := 1) (jd k_Byte_times 21 rfl) (by decide) ?_
        refine j_ishl (pc := 33) (jd k_Byte_times 22 rfl) ?_
        obtain ⟨x20, e29, H⟩ := olet H
        refine j_topi e29 ?_
        refine j_istore (pc := 34) (lv' := [(2, .int p1), (3, .int x17), (4, .int x20), (5, .int x12)]) (jd k_Byte_times 23 rfl) rfl (Nat.le_of_ble_eq_true rfl) rfl ?_
        refine j_iload (pc := 36) 2 (jd k_Byte_times 24 rfl) rfl ?_
        refine j_sipush (pc := 38) (v := 255) (jd k_Byte_times 25 rfl) (by decide) ?_
        obtain ⟨x24, h25, H⟩ := obnd H
        have K26 : J G m_Byte_times 0 0 0 P 52 [(2, .int p1), (3, .int x17), (4, .int x24), (5, .int x12)] [] (mkC ad G s) 0 0 := by
          obtain ⟨x27, e28, H⟩ := olet H
          refine j_iinc (pc := 52) (lv' := [(2, .int p1), (3, .int x17), (4, .int x24), (5, .int x27)]) 3 (jd k_Byte_times 31 rfl) rfl e28 rfl (Nat.le_of_ble_eq_true rfl) rfl ?_
          refine j_goto (pc := 55) (tgt := 8) (jd k_Byte_times 32 rfl) rfl ?_
          exact ih x17 x24 x27 _ H kx
        have H := h25
        refine j_icmp_le (pc := 41) (tgt := 52) (jd k_Byte_times 26 rfl) rfl (fun h21 => ?_) (fun h21 => ?_)
        · rw [if_pos h21] at H
          cases H
          exact K26
        · rw [if_neg h21] at H
          refine j_iload (pc := 44) 2 (jd k_Byte_times 27 rfl) rfl ?_
          refine j_sipush (pc := 46) (v := 283) (jd k_Byte_times 28 rfl) (by decide) ?_
          refine j_ixor (pc := 49) (jd k_Byte_times 29 rfl) ?_
          obtain ⟨x22, e23, H⟩ := olet H
          refine j_topi e23 ?_
          refine j_istore (pc := 50) (lv' := [(2, .int p1), (3, .int x17), (4, .int x22), (5, .int x12)]) (jd k_Byte_times 30 rfl) rfl (Nat.le_of_ble_eq_true rfl) rfl ?_
          cases H
          exact K26
      have H := h18
      refine j_icmp_ne (pc := 22) (tgt := 30) (jd k_Byte_times 15 rfl) rfl (fun h14 => ?_) (fun h14 => ?_)
      · rw [if_pos h14] at H
        cases H
        exact K19
      · rw [if_neg (not_not_intro h14)] at H
        refine j_iload_n (pc := 25) 1 (jd k_Byte_times 16 rfl) rfl ?_
        refine j_iload (pc := 26) 2 (jd k_Byte_times 17 rfl) rfl ?_
        refine j_ixor (pc := 28) (jd k_Byte_times 18 rfl) ?_
        obtain ⟨x15, e16, H⟩ := olet H
        refine j_topi e16 ?_
        refine j_istore_n (pc := 29) (lv' := [(2, .int p1), (3, .int x15), (4, .int x11), (5, .int x12)]) (jd k_Byte_times 19 rfl) rfl (Nat.le_of_ble_eq_true rfl) rfl ?_
        cases H
        exact K19

set_option maxRecDepth 20000 in
theorem c_Byte_times (ad : Nat → Nat) (G : jG) (p0 : Int32) (p1 : Int32) (s : jU) (r : Int32) (H : f_Byte_times p0 p1 = some r) : jCon G m_Byte_times y_Byte_times 0 0 0 [.ref (ad 2), .int p0, .int p1] (mkC ad G s) (jEq (some (.int r)) (mkC ad G s)) := by
  refine jCon.of (by decide +kernel) rfl rfl rfl (Nat.le_of_ble_eq_true rfl) rfl ?_
  have H : (
  Option.bind (L_Byte_times_8 p1 jF 0 p0 0) fun (x30, x31, x32) =>
  some x30) = some r := H
  generalize hP9 : jEq (some (.int r)) (mkC ad G s) = P
  refine j_iconst (pc := 0) (v := 0) (jd k_Byte_times 0 rfl) (by decide) ?_
  refine j_istore_n (pc := 1) (lv' := [(0, .ref (ad 2)), (1, .int p0), (2, .int p1), (3, .int 0)]) (jd k_Byte_times 1 rfl) rfl (Nat.le_of_ble_eq_true rfl) rfl ?_
  refine j_iload_n (pc := 2) 1 (jd k_Byte_times 2 rfl) rfl ?_
  refine j_istore (pc := 3) (lv' := [(0, .ref (ad 2)), (1, .int p0), (2, .int p1), (3, .int 0), (4, .int p0)]) (jd k_Byte_times 3 rfl) rfl (Nat.le_of_ble_eq_true rfl) rfl ?_
  refine j_iconst (pc := 5) (v := 0) (jd k_Byte_times 4 rfl) (by decide) ?_
  refine j_istore (pc := 6) (lv' := [(0, .ref (ad 2)), (1, .int p0), (2, .int p1), (3, .int 0), (4, .int p0), (5, .int 0)]) (jd k_Byte_times 5 rfl) rfl (Nat.le_of_ble_eq_true rfl) rfl ?_
  obtain ⟨⟨x30, x31, x32⟩, h33, H⟩ := obnd H
  try dsimp only at H
  refine j_pick (lv' := [(2, .int p1), (3, .int 0), (4, .int p0), (5, .int 0)]) [2, 3, 4, 5] rfl ?_
  refine lp_Byte_times_8 p1 s jF 0 p0 0 _ h33 ?_
  refine j_pick (lv' := [(3, .int x30)]) [1] rfl ?_
  refine j_iload_n (pc := 58) 0 (jd k_Byte_times 33 rfl) rfl ?_
  cases H
  subst hP9
  exact j_iret (pc := 59) (jd k_Byte_times 34 rfl) rfl rfl ⟨rfl, rfl⟩

set_option maxRecDepth 20000 in
theorem c_Prime_times (ad : Nat → Nat) (G : jG) (k0 : Nat) (hk0 : k0 < 3) (p0 : Int32) (p1 : Int32) (s : jU) (r : Int32) (H : f_Prime_times k0 p0 p1 = some r) : jCon G m_Prime_times y_Prime_times 0 0 0 [.ref (ad (2 + k0)), .int p0, .int p1] (mkC ad G s) (jEq (some (.int r)) (mkC ad G s)) := by
  refine jCon.of (by decide +kernel) rfl rfl rfl (Nat.le_of_ble_eq_true rfl) rfl ?_
  have H : (
  if ¬ (fsz k0) = 0 then
  some (jrem (p0 * p1) (fsz k0))
  else none) = some r := H
  generalize hP9 : jEq (some (.int r)) (mkC ad G s) = P
  refine j_iload_n (pc := 0) 1 (jd k_Prime_times 0 rfl) rfl ?_
  refine j_iload_n (pc := 1) 2 (jd k_Prime_times 1 rfl) rfl ?_
  refine j_imul (pc := 2) (jd k_Prime_times 2 rfl) ?_
  refine j_aload_n (pc := 3) 0 (jd k_Prime_times 3 rfl) rfl ?_
  refine g_size (pc := 4) fl_Prime_7_2 fl_Prime_7_6 (f := k0) hk0 (jd k_Prime_times 4 rfl) ?_
  obtain ⟨h10, H⟩ := ochk H
  refine j_irem (pc := 7) (jd k_Prime_times 5 rfl) h10 ?_
  cases H
  subst hP9
  exact j_iret (pc := 8) (jd k_Prime_times 6 rfl) rfl rfl ⟨rfl, rfl⟩

set_option maxRecDepth 20000 in
theorem vF_times {ad : Nat → Nat} {G : jG} {M : jM} {d mc ms : Nat} {P : jR → va_W → Prop} {pc : Nat} {lv : List (Nat × Value)} {st : List Value} {k n ix : Nat} (f : Nat) (hf : f < 3) (p0 : Int32) (p1 : Int32) (s : jU) (r : Int32) (H : F_times f p0 p1 = some r) (hk : Cond.methodLink M.1 ix ⟨"SharingRoom$Field", "times", "(II)I"⟩ ∈ jWS) (hd : decode M.2.1 pc = .ok (.invokevirtual ix, 3)) (hst : (st.map fun v => v.category).sum ≤ 8) (hdd : 0 + 1 ≤ d) (hm : k ≤ mc) (hn2 : n ≤ ms) (kk : J G M d mc ms P (pc + 3) lv (.int r :: st) (mkC ad G s) k n) : J G M d mc ms P pc lv (.int p1 :: .int p0 :: .ref (ad (2 + f)) :: st) (mkC ad G s) k n := by
  match f, hf with
  | 0, _ => exact jc_U (c_Byte_times ad G p0 p1 s r H) L0_Byte_times hk ⟨rfl, rfl, by decide, by decide⟩ w361 w362 w363 (Or.inl wt360) 2 rfl rfl hd rfl hst (Nat.le_trans (by decide) hdd) hm hn2 rfl rfl kk
  | 1, _ => exact jc_U (c_Prime_times ad G 1 (by decide) p0 p1 s r H) L0_Prime_times hk ⟨rfl, rfl, by decide, by decide⟩ w361 w365 w366 (Or.inl wt360) 3 rfl rfl hd rfl hst (Nat.le_trans (by decide) hdd) hm hn2 rfl rfl kk
  | 2, _ => exact jc_U (c_Prime_times ad G 2 (by decide) p0 p1 s r H) L0_Prime_times hk ⟨rfl, rfl, by decide, by decide⟩ w361 w365 w366 (Or.inl wt360) 4 rfl rfl hd rfl hst (Nat.le_trans (by decide) hdd) hm hn2 rfl rfl kk

set_option maxRecDepth 20000 in
theorem lp_Field_inverse_12 {ad : Nat → Nat} {G : jG} {P : jR → va_W → Prop} (k0 : Nat) (hk0 : k0 < 3) (s : jU) : ∀ (n : Nat) (x11 : Int32) (x12 : Int32) (x13 : Int32) (r : Int32 × Int32 × Int32), L_Field_inverse_12 k0 n x11 x12 x13 = some r → J G m_Field_inverse 1 0 0 P 48 [(0, .ref (ad (2 + k0))), (2, .int r.1), (3, .int r.2.1), (4, .int r.2.2)] [] (mkC ad G s) 0 0 → J G m_Field_inverse 1 0 0 P 12 [(0, .ref (ad (2 + k0))), (2, .int x11), (3, .int x12), (4, .int x13)] [] (mkC ad G s) 0 0 := by
  intro n
  induction n with
  | zero =>
    intro x11 x12 x13 r H
    cases (show none = some r from H)
  | succ n ih =>
    intro x11 x12 x13 r H kx
    have H : (
    if x13 ≤ 0 then
      some (x11, x12, x13)
    else
      Option.bind (α := Int32) (
        if ¬ (x13 &&& 1) = 1 then
          some x11
        else
          Option.bind (F_times k0 x11 x12) fun x17 =>
          some x17) fun x18 =>
      Option.bind (F_times k0 x12 x12) fun x22 =>
      jlet (x13 >>> (1 &&& 31)) fun x23 =>
      L_Field_inverse_12 k0 n x18 x22 x23) = some r := H
    refine j_iload (pc := 12) 3 (jd k_Field_inverse 9 rfl) rfl ?_
    refine j_if_le (pc := 14) (tgt := 48) (jd k_Field_inverse 10 rfl) rfl (fun h14 => ?_) (fun h14 => ?_)
    · rw [if_pos h14] at H
      cases H
      exact kx
    · rw [if_neg h14] at H
      refine j_iload (pc := 17) 3 (jd k_Field_inverse 11 rfl) rfl ?_
      refine j_iconst (pc := 19) (v := 1) (jd k_Field_inverse 12 rfl) (by decide) ?_
      refine j_iand (pc := 20) (jd k_Field_inverse 13 rfl) ?_
      refine j_iconst (pc := 21) (v := 1) (jd k_Field_inverse 14 rfl) (by decide) ?_
      obtain ⟨x18, h19, H⟩ := obnd H
      have K20 : J G m_Field_inverse 1 0 0 P 32 [(0, .ref (ad (2 + k0))), (2, .int x18), (3, .int x12), (4, .int x13)] [] (mkC ad G s) 0 0 := by
        refine j_aload_n (pc := 32) 0 (jd k_Field_inverse 21 rfl) rfl ?_
        refine j_iload_n (pc := 33) 2 (jd k_Field_inverse 22 rfl) rfl ?_
        refine j_iload_n (pc := 34) 2 (jd k_Field_inverse 23 rfl) rfl ?_
        obtain ⟨x22, h21, H⟩ := obnd H
        refine vF_times (pc := 35) (st := []) k0 hk0 x12 x12 s _ h21 w359 (jd k_Field_inverse 24 rfl) (Nat.le_of_ble_eq_true rfl) (by decide) (Nat.le_refl _) (Nat.le_refl _) ?_
        refine j_istore_n (pc := 38) (lv' := [(0, .ref (ad (2 + k0))), (2, .int x18), (3, .int x22), (4, .int x13)]) (jd k_Field_inverse 25 rfl) rfl (Nat.le_of_ble_eq_true rfl) rfl ?_
        refine j_iload (pc := 39) 3 (jd k_Field_inverse 26 rfl) rfl ?_
        refine j_iconst (pc := 41) (v := 1) (jd k_Field_inverse 27 rfl) (by decide) ?_
        refine j_ishr (pc := 42) (jd k_Field_inverse 28 rfl) ?_
        obtain ⟨x23, e24, H⟩ := olet H
        refine j_topi e24 ?_
        refine j_istore (pc := 43) (lv' := [(0, .ref (ad (2 + k0))), (2, .int x18), (3, .int x22), (4, .int x23)]) (jd k_Field_inverse 29 rfl) rfl (Nat.le_of_ble_eq_true rfl) rfl ?_
        refine j_goto (pc := 45) (tgt := 12) (jd k_Field_inverse 30 rfl) rfl ?_
        exact ih x18 x22 x23 _ H kx
      have H := h19
      refine j_icmp_ne (pc := 22) (tgt := 32) (jd k_Field_inverse 15 rfl) rfl (fun h15 => ?_) (fun h15 => ?_)
      · rw [if_pos h15] at H
        cases H
        exact K20
      · rw [if_neg (not_not_intro h15)] at H
        refine j_aload_n (pc := 25) 0 (jd k_Field_inverse 16 rfl) rfl ?_
        refine j_iload_n (pc := 26) 1 (jd k_Field_inverse 17 rfl) rfl ?_
        refine j_iload_n (pc := 27) 2 (jd k_Field_inverse 18 rfl) rfl ?_
        obtain ⟨x17, h16, H⟩ := obnd H
        refine vF_times (pc := 28) (st := []) k0 hk0 x11 x12 s _ h16 w359 (jd k_Field_inverse 19 rfl) (Nat.le_of_ble_eq_true rfl) (by decide) (Nat.le_refl _) (Nat.le_refl _) ?_
        refine j_istore_n (pc := 31) (lv' := [(0, .ref (ad (2 + k0))), (2, .int x17), (3, .int x12), (4, .int x13)]) (jd k_Field_inverse 20 rfl) rfl (Nat.le_of_ble_eq_true rfl) rfl ?_
        cases H
        exact K20

set_option maxRecDepth 20000 in
theorem c_Field_inverse (ad : Nat → Nat) (G : jG) (k0 : Nat) (hk0 : k0 < 3) (p0 : Int32) (s : jU) (r : Int32) (H : f_Field_inverse k0 p0 = some r) : jCon G m_Field_inverse y_Field_inverse 1 0 0 [.ref (ad (2 + k0)), .int p0] (mkC ad G s) (jEq (some (.int r)) (mkC ad G s)) := by
  refine jCon.of (by decide +kernel) rfl rfl rfl (Nat.le_of_ble_eq_true rfl) rfl ?_
  have H : (
  jlet ((fsz k0) - 2) fun x10 =>
  Option.bind (L_Field_inverse_12 k0 jF 1 p0 x10) fun (x25, x26, x27) =>
  some x25) = some r := H
  generalize hP9 : jEq (some (.int r)) (mkC ad G s) = P
  refine j_iconst (pc := 0) (v := 1) (jd k_Field_inverse 0 rfl) (by decide) ?_
  refine j_istore_n (pc := 1) (lv' := [(0, .ref (ad (2 + k0))), (1, .int p0), (2, .int 1)]) (jd k_Field_inverse 1 rfl) rfl (Nat.le_of_ble_eq_true rfl) rfl ?_
  refine j_iload_n (pc := 2) 1 (jd k_Field_inverse 2 rfl) rfl ?_
  refine j_istore_n (pc := 3) (lv' := [(0, .ref (ad (2 + k0))), (1, .int p0), (2, .int 1), (3, .int p0)]) (jd k_Field_inverse 3 rfl) rfl (Nat.le_of_ble_eq_true rfl) rfl ?_
  refine j_aload_n (pc := 4) 0 (jd k_Field_inverse 4 rfl) rfl ?_
  refine g_size (pc := 5) fl_Field_7_2 fl_Field_7_6 (f := k0) hk0 (jd k_Field_inverse 5 rfl) ?_
  refine j_iconst (pc := 8) (v := 2) (jd k_Field_inverse 6 rfl) (by decide) ?_
  refine j_isub (pc := 9) (jd k_Field_inverse 7 rfl) ?_
  obtain ⟨x10, e29, H⟩ := olet H
  refine j_topi e29 ?_
  refine j_istore (pc := 10) (lv' := [(0, .ref (ad (2 + k0))), (1, .int p0), (2, .int 1), (3, .int p0), (4, .int x10)]) (jd k_Field_inverse 8 rfl) rfl (Nat.le_of_ble_eq_true rfl) rfl ?_
  obtain ⟨⟨x25, x26, x27⟩, h28, H⟩ := obnd H
  try dsimp only at H
  refine j_pick (lv' := [(0, .ref (ad (2 + k0))), (2, .int 1), (3, .int p0), (4, .int x10)]) [0, 2, 3, 4] rfl ?_
  refine lp_Field_inverse_12 k0 hk0 s jF 1 p0 x10 _ h28 ?_
  refine j_pick (lv' := [(2, .int x25)]) [1] rfl ?_
  refine j_iload_n (pc := 48) 0 (jd k_Field_inverse 31 rfl) rfl ?_
  cases H
  subst hP9
  exact j_iret (pc := 49) (jd k_Field_inverse 32 rfl) rfl rfl ⟨rfl, rfl⟩

set_option maxRecDepth 20000 in
theorem vF_inverse {ad : Nat → Nat} {G : jG} {M : jM} {d mc ms : Nat} {P : jR → va_W → Prop} {pc : Nat} {lv : List (Nat × Value)} {st : List Value} {k n ix : Nat} (f : Nat) (hf : f < 3) (p0 : Int32) (s : jU) (r : Int32) (H : f_Field_inverse f p0 = some r) (hk : Cond.methodLink M.1 ix ⟨"SharingRoom$Field", "inverse", "(I)I"⟩ ∈ jWS) (hd : decode M.2.1 pc = .ok (.invokevirtual ix, 3)) (hst : (st.map fun v => v.category).sum ≤ 8) (hdd : 1 + 1 ≤ d) (hm : k ≤ mc) (hn2 : n ≤ ms) (kk : J G M d mc ms P (pc + 3) lv (.int r :: st) (mkC ad G s) k n) : J G M d mc ms P pc lv (.int p0 :: .ref (ad (2 + f)) :: st) (mkC ad G s) k n := by
  match f, hf with
  | 0, _ => exact jc_U (c_Field_inverse ad G 0 (by decide) p0 s r H) L0_Field_inverse hk ⟨rfl, rfl, by decide, by decide⟩ w355 w356 w354 (Or.inr rfl) 2 rfl rfl hd rfl hst (Nat.le_trans (by decide) hdd) hm hn2 rfl rfl kk
  | 1, _ => exact jc_U (c_Field_inverse ad G 1 (by decide) p0 s r H) L0_Field_inverse hk ⟨rfl, rfl, by decide, by decide⟩ w355 w357 w354 (Or.inr rfl) 3 rfl rfl hd rfl hst (Nat.le_trans (by decide) hdd) hm hn2 rfl rfl kk
  | 2, _ => exact jc_U (c_Field_inverse ad G 2 (by decide) p0 s r H) L0_Field_inverse hk ⟨rfl, rfl, by decide, by decide⟩ w355 w357 w354 (Or.inr rfl) 4 rfl rfl hd rfl hst (Nat.le_trans (by decide) hdd) hm hn2 rfl rfl kk

set_option maxRecDepth 20000 in
theorem lp_Points_countCoefficients_124 {ad : Nat → Nat} {G : jG} {P : jR → va_W → Prop} (k0 : Nat) (hk0 : k0 < 2) (s44 : jU) : ∀ (n : Nat) (x47 : Int32) (r : Int32), L_Points_countCoefficients_124 k0 s44 n x47 = some r → J G m_Points_countCoefficients 2 0 0 P 145 [(0, .ref (ad (5 + 16 * k0))), (1, .int r)] [] (mkC ad G s44) 0 0 → J G m_Points_countCoefficients 2 0 0 P 124 [(0, .ref (ad (5 + 16 * k0))), (1, .int x47)] [] (mkC ad G s44) 0 0 := by
  intro n
  induction n with
  | zero =>
    intro x47 r H
    cases (show none = some r from H)
  | succ n ih =>
    intro x47 r H kx
    have H : (
    if x47 ≤ 0 then
      some x47
    else
      if jin (x47 - 1) 12 then
      if ¬ (s44 (32 + 4 * k0) 0 (x47 - 1).toNatClampNeg) = 0 then
        some x47
      else
        jlet (x47 + (-1)) fun x51 =>
        L_Points_countCoefficients_124 k0 s44 n x51
      else none) = some r := H
    refine j_iload_n (pc := 124) 1 (jd k_Points_countCoefficients 70 rfl) rfl ?_
    refine j_if_le (pc := 125) (tgt := 145) (jd k_Points_countCoefficients 71 rfl) rfl (fun h48 => ?_) (fun h48 => ?_)
    · rw [if_pos h48] at H
      cases H
      exact kx
    · rw [if_neg h48] at H
      refine j_aload_n (pc := 128) 0 (jd k_Points_countCoefficients 72 rfl) rfl ?_
      refine j_get (pc := 129) (fs := flPt ad s44 k0) (v := .ref (ad (8 + 16 * k0))) fl_Points_16_5 (5 + 16 * k0) (jd k_Points_countCoefficients 73 rfl) (lkPt ad G s44 hk0) rfl ?_
      refine j_iload_n (pc := 132) 1 (jd k_Points_countCoefficients 74 rfl) rfl ?_
      refine j_iconst (pc := 133) (v := 1) (jd k_Points_countCoefficients 75 rfl) (by decide) ?_
      refine j_isub (pc := 134) (jd k_Points_countCoefficients 76 rfl) ?_
      obtain ⟨h49, H⟩ := ochk H
      refine j_iald (pc := 135) (f := s44 (32 + 4 * k0) 0) (8 + 16 * k0) (jd k_Points_countCoefficients 77 rfl) (lkPa_8 ad G s44 hk0) (jin.vp h49) ?_
      refine j_if_ne (pc := 136) (tgt := 145) (jd k_Points_countCoefficients 78 rfl) rfl (fun h50 => ?_) (fun h50 => ?_)
      · rw [if_pos h50] at H
        cases H
        exact kx
      · rw [if_neg (not_not_intro h50)] at H
        obtain ⟨x51, e52, H⟩ := olet H
        refine j_iinc (pc := 139) (lv' := [(0, .ref (ad (5 + 16 * k0))), (1, .int x51)]) 1 (jd k_Points_countCoefficients 79 rfl) rfl e52 rfl (Nat.le_of_ble_eq_true rfl) rfl ?_
        refine j_goto (pc := 142) (tgt := 124) (jd k_Points_countCoefficients 80 rfl) rfl ?_
        exact ih x51 _ H kx

set_option maxRecDepth 20000 in
theorem lp_Points_countCoefficients_34 {ad : Nat → Nat} {G : jG} {P : jR → va_W → Prop} (k0 : Nat) (hk0 : k0 < 2) (x13 : Int32) : ∀ (n : Nat) (x17 : Int32) (s18 : jU) (r : Int32 × jU), L_Points_countCoefficients_34 k0 x13 n x17 s18 = some r → J G m_Points_countCoefficients 2 0 0 P 113 [(0, .ref (ad (5 + 16 * k0))), (1, .int x13), (2, .int r.1)] [] (mkC ad G r.2) 0 0 → J G m_Points_countCoefficients 2 0 0 P 34 [(0, .ref (ad (5 + 16 * k0))), (1, .int x13), (2, .int x17)] [] (mkC ad G s18) 0 0 := by
  intro n
  induction n with
  | zero =>
    intro x17 s18 r H
    cases (show none = some r from H)
  | succ n ih =>
    intro x17 s18 r H kx
    have H : (
    if x17 < x13 then
      some (x17, s18)
    else
      if jin x17 12 then
      if jin (x17 - 1) 12 then
      Option.bind (F_minus (fnum (s18 (51 + k0) 0 0)) (s18 (32 + 4 * k0) 0 x17.toNatClampNeg) (s18 (32 + 4 * k0) 0 (x17 - 1).toNatClampNeg)) fun x23 =>
      if jin x17 12 then
      if jin (x17 - x13) 12 then
      Option.bind (F_minus (fnum (s18 (51 + k0) 0 0)) (s18 (30 + 4 * k0) 0 x17.toNatClampNeg) (s18 (30 + 4 * k0) 0 (x17 - x13).toNatClampNeg)) fun x27 =>
      Option.bind (f_Field_inverse (fnum (s18 (51 + k0) 0 0)) x27) fun x29 =>
      Option.bind (F_times (fnum (s18 (51 + k0) 0 0)) x23 x29) fun x31 =>
      if jin x17 12 then
      jlet (ups s18 (32 + 4 * k0) 0 (upd (s18 (32 + 4 * k0) 0) x17.toNatClampNeg x31)) fun s32 =>
      jlet (x17 + (-1)) fun x35 =>
      L_Points_countCoefficients_34 k0 x13 n x35 s32
      else none
      else none
      else none
      else none
      else none) = some r := H
    refine j_iload_n (pc := 34) 2 (jd k_Points_countCoefficients 20 rfl) rfl ?_
    refine j_iload_n (pc := 35) 1 (jd k_Points_countCoefficients 21 rfl) rfl ?_
    refine j_icmp_lt (pc := 36) (tgt := 113) (jd k_Points_countCoefficients 22 rfl) rfl (fun h19 => ?_) (fun h19 => ?_)
    · rw [if_pos h19] at H
      cases H
      exact kx
    · rw [if_neg h19] at H
      refine j_aload_n (pc := 39) 0 (jd k_Points_countCoefficients 23 rfl) rfl ?_
      refine j_get (pc := 40) (fs := flPt ad s18 k0) (v := .ref (ad (2 + (fnum (s18 (51 + k0) 0 0))))) fl_Points_19_5 (5 + 16 * k0) (jd k_Points_countCoefficients 24 rfl) (lkPt ad G s18 hk0) rfl ?_
      refine j_aload_n (pc := 43) 0 (jd k_Points_countCoefficients 25 rfl) rfl ?_
      refine j_get (pc := 44) (fs := flPt ad s18 k0) (v := .ref (ad (8 + 16 * k0))) fl_Points_16_5 (5 + 16 * k0) (jd k_Points_countCoefficients 26 rfl) (lkPt ad G s18 hk0) rfl ?_
      refine j_iload_n (pc := 47) 2 (jd k_Points_countCoefficients 27 rfl) rfl ?_
      obtain ⟨h20, H⟩ := ochk H
      refine j_iald (pc := 48) (f := s18 (32 + 4 * k0) 0) (8 + 16 * k0) (jd k_Points_countCoefficients 28 rfl) (lkPa_8 ad G s18 hk0) (jin.vp h20) ?_
      refine j_aload_n (pc := 49) 0 (jd k_Points_countCoefficients 29 rfl) rfl ?_
      refine j_get (pc := 50) (fs := flPt ad s18 k0) (v := .ref (ad (8 + 16 * k0))) fl_Points_16_5 (5 + 16 * k0) (jd k_Points_countCoefficients 30 rfl) (lkPt ad G s18 hk0) rfl ?_
      refine j_iload_n (pc := 53) 2 (jd k_Points_countCoefficients 31 rfl) rfl ?_
      refine j_iconst (pc := 54) (v := 1) (jd k_Points_countCoefficients 32 rfl) (by decide) ?_
      refine j_isub (pc := 55) (jd k_Points_countCoefficients 33 rfl) ?_
      obtain ⟨h21, H⟩ := ochk H
      refine j_iald (pc := 56) (f := s18 (32 + 4 * k0) 0) (8 + 16 * k0) (jd k_Points_countCoefficients 34 rfl) (lkPa_8 ad G s18 hk0) (jin.vp h21) ?_
      obtain ⟨x23, h22, H⟩ := obnd H
      refine vF_minus (pc := 57) (st := []) (fnum (s18 (51 + k0) 0 0)) (fnum_lt _) (s18 (32 + 4 * k0) 0 x17.toNatClampNeg) (s18 (32 + 4 * k0) 0 (x17 - 1).toNatClampNeg) s18 _ h22 w344 (jd k_Points_countCoefficients 35 rfl) (Nat.le_of_ble_eq_true rfl) (by decide) (Nat.le_refl _) (Nat.le_refl _) ?_
      refine j_istore_n (pc := 60) (lv' := [(0, .ref (ad (5 + 16 * k0))), (1, .int x13), (2, .int x17), (3, .int x23)]) (jd k_Points_countCoefficients 36 rfl) rfl (Nat.le_of_ble_eq_true rfl) rfl ?_
      refine j_aload_n (pc := 61) 0 (jd k_Points_countCoefficients 37 rfl) rfl ?_
      refine j_get (pc := 62) (fs := flPt ad s18 k0) (v := .ref (ad (2 + (fnum (s18 (51 + k0) 0 0))))) fl_Points_19_5 (5 + 16 * k0) (jd k_Points_countCoefficients 38 rfl) (lkPt ad G s18 hk0) rfl ?_
      refine j_aload_n (pc := 65) 0 (jd k_Points_countCoefficients 39 rfl) rfl ?_
      refine j_get (pc := 66) (fs := flPt ad s18 k0) (v := .ref (ad (6 + 16 * k0))) fl_Points_9_5 (5 + 16 * k0) (jd k_Points_countCoefficients 40 rfl) (lkPt ad G s18 hk0) rfl ?_
      refine j_iload_n (pc := 69) 2 (jd k_Points_countCoefficients 41 rfl) rfl ?_
      obtain ⟨h24, H⟩ := ochk H
      refine j_iald (pc := 70) (f := s18 (30 + 4 * k0) 0) (6 + 16 * k0) (jd k_Points_countCoefficients 42 rfl) (lkPa_6 ad G s18 hk0) (jin.vp h24) ?_
      refine j_aload_n (pc := 71) 0 (jd k_Points_countCoefficients 43 rfl) rfl ?_
      refine j_get (pc := 72) (fs := flPt ad s18 k0) (v := .ref (ad (6 + 16 * k0))) fl_Points_9_5 (5 + 16 * k0) (jd k_Points_countCoefficients 44 rfl) (lkPt ad G s18 hk0) rfl ?_
      refine j_iload_n (pc := 75) 2 (jd k_Points_countCoefficients 45 rfl) rfl ?_
      refine j_iload_n (pc := 76) 1 (jd k_Points_countCoefficients 46 rfl) rfl ?_
      refine j_isub (pc := 77) (jd k_Points_countCoefficients 47 rfl) ?_
      obtain ⟨h25, H⟩ := ochk H
      refine j_iald (pc := 78) (f := s18 (30 + 4 * k0) 0) (6 + 16 * k0) (jd k_Points_countCoefficients 48 rfl) (lkPa_6 ad G s18 hk0) (jin.vp h25) ?_
      obtain ⟨x27, h26, H⟩ := obnd H
      refine vF_minus (pc := 79) (st := []) (fnum (s18 (51 + k0) 0 0)) (fnum_lt _) (s18 (30 + 4 * k0) 0 x17.toNatClampNeg) (s18 (30 + 4 * k0) 0 (x17 - x13).toNatClampNeg) s18 _ h26 w344 (jd k_Points_countCoefficients 49 rfl) (Nat.le_of_ble_eq_true rfl) (by decide) (Nat.le_refl _) (Nat.le_refl _) ?_
      refine j_istore (pc := 82) (lv' := [(0, .ref (ad (5 + 16 * k0))), (1, .int x13), (2, .int x17), (3, .int x23), (4, .int x27)]) (jd k_Points_countCoefficients 50 rfl) rfl (Nat.le_of_ble_eq_true rfl) rfl ?_
      refine j_aload_n (pc := 84) 0 (jd k_Points_countCoefficients 51 rfl) rfl ?_
      refine j_get (pc := 85) (fs := flPt ad s18 k0) (v := .ref (ad (8 + 16 * k0))) fl_Points_16_5 (5 + 16 * k0) (jd k_Points_countCoefficients 52 rfl) (lkPt ad G s18 hk0) rfl ?_
      refine j_iload_n (pc := 88) 2 (jd k_Points_countCoefficients 53 rfl) rfl ?_
      refine j_aload_n (pc := 89) 0 (jd k_Points_countCoefficients 54 rfl) rfl ?_
      refine j_get (pc := 90) (fs := flPt ad s18 k0) (v := .ref (ad (2 + (fnum (s18 (51 + k0) 0 0))))) fl_Points_19_5 (5 + 16 * k0) (jd k_Points_countCoefficients 55 rfl) (lkPt ad G s18 hk0) rfl ?_
      refine j_iload_n (pc := 93) 3 (jd k_Points_countCoefficients 56 rfl) rfl ?_
      refine j_aload_n (pc := 94) 0 (jd k_Points_countCoefficients 57 rfl) rfl ?_
      refine j_get (pc := 95) (fs := flPt ad s18 k0) (v := .ref (ad (2 + (fnum (s18 (51 + k0) 0 0))))) fl_Points_19_5 (5 + 16 * k0) (jd k_Points_countCoefficients 58 rfl) (lkPt ad G s18 hk0) rfl ?_
      refine j_iload (pc := 98) 4 (jd k_Points_countCoefficients 59 rfl) rfl ?_
      obtain ⟨x29, h28, H⟩ := obnd H
      refine vF_inverse (pc := 100) (st := [.int x23, .ref (ad (2 + (fnum (s18 (51 + k0) 0 0)))), .int x17, .ref (ad (8 + 16 * k0))]) (fnum (s18 (51 + k0) 0 0)) (fnum_lt _) x27 s18 _ h28 w353 (jd k_Points_countCoefficients 60 rfl) (Nat.le_of_ble_eq_true rfl) (by decide) (Nat.le_refl _) (Nat.le_refl _) ?_
      obtain ⟨x31, h30, H⟩ := obnd H
      refine vF_times (pc := 103) (st := [.int x17, .ref (ad (8 + 16 * k0))]) (fnum (s18 (51 + k0) 0 0)) (fnum_lt _) x23 x29 s18 _ h30 w368 (jd k_Points_countCoefficients 61 rfl) (Nat.le_of_ble_eq_true rfl) (by decide) (Nat.le_refl _) (Nat.le_refl _) ?_
      obtain ⟨h34, H⟩ := ochk H
      obtain ⟨s32, e33, H⟩ := olet H
      refine j_iast (pc := 106) (f := s18 (32 + 4 * k0) 0) (8 + 16 * k0) (jd k_Points_countCoefficients 62 rfl) (lkPa_8 ad G s18 hk0) (jin.vp h34) ((wrPa_8 ad G s18 hk0 _).trans (congrArg (mkC ad G) e33)) ?_
      obtain ⟨x35, e36, H⟩ := olet H
      refine j_iinc (pc := 107) (lv' := [(0, .ref (ad (5 + 16 * k0))), (1, .int x13), (2, .int x35), (3, .int x23), (4, .int x27)]) 2 (jd k_Points_countCoefficients 63 rfl) rfl e36 rfl (Nat.le_of_ble_eq_true rfl) rfl ?_
      refine j_goto (pc := 110) (tgt := 34) (jd k_Points_countCoefficients 64 rfl) rfl ?_
      refine j_pick (lv' := [(0, .ref (ad (5 + 16 * k0))), (1, .int x13), (2, .int x35)]) [0, 1, 2] rfl ?_
      exact ih x35 s32 _ H kx

set_option maxRecDepth 20000 in
theorem lp_Points_countCoefficients_19 {ad : Nat → Nat} {G : jG} {P : jR → va_W → Prop} (k0 : Nat) (hk0 : k0 < 2) : ∀ (n : Nat) (x13 : Int32) (s14 : jU) (r : Int32 × jU), L_Points_countCoefficients_19 k0 n x13 s14 = some r → J G m_Points_countCoefficients 2 0 0 P 119 [(0, .ref (ad (5 + 16 * k0))), (1, .int r.1)] [] (mkC ad G r.2) 0 0 → J G m_Points_countCoefficients 2 0 0 P 19 [(0, .ref (ad (5 + 16 * k0))), (1, .int x13)] [] (mkC ad G s14) 0 0 := by
  intro n
  induction n with
  | zero =>
    intro x13 s14 r H
    cases (show none = some r from H)
  | succ n ih =>
    intro x13 s14 r H kx
    have H : (
    if (s14 (33 + 4 * k0) 0 0) ≤ x13 then
      some (x13, s14)
    else
      jlet ((s14 (33 + 4 * k0) 0 0) - 1) fun x16 =>
      Option.bind (L_Points_countCoefficients_34 k0 x13 jF x16 s14) fun (x37, s38) =>
      jlet (x13 + 1) fun x40 =>
      L_Points_countCoefficients_19 k0 n x40 s38) = some r := H
    refine j_iload_n (pc := 19) 1 (jd k_Points_countCoefficients 11 rfl) rfl ?_
    refine j_aload_n (pc := 20) 0 (jd k_Points_countCoefficients 12 rfl) rfl ?_
    refine j_get (pc := 21) (fs := flPt ad s14 k0) (v := .int (s14 (33 + 4 * k0) 0 0)) fl_Points_23_5 (5 + 16 * k0) (jd k_Points_countCoefficients 13 rfl) (lkPt ad G s14 hk0) rfl ?_
    refine j_icmp_ge (pc := 24) (tgt := 119) (jd k_Points_countCoefficients 14 rfl) rfl (fun h15 => ?_) (fun h15 => ?_)
    · rw [if_pos h15] at H
      cases H
      exact kx
    · rw [if_neg h15] at H
      refine j_aload_n (pc := 27) 0 (jd k_Points_countCoefficients 15 rfl) rfl ?_
      refine j_get (pc := 28) (fs := flPt ad s14 k0) (v := .int (s14 (33 + 4 * k0) 0 0)) fl_Points_23_5 (5 + 16 * k0) (jd k_Points_countCoefficients 16 rfl) (lkPt ad G s14 hk0) rfl ?_
      refine j_iconst (pc := 31) (v := 1) (jd k_Points_countCoefficients 17 rfl) (by decide) ?_
      refine j_isub (pc := 32) (jd k_Points_countCoefficients 18 rfl) ?_
      obtain ⟨x16, e42, H⟩ := olet H
      refine j_topi e42 ?_
      refine j_istore_n (pc := 33) (lv' := [(0, .ref (ad (5 + 16 * k0))), (1, .int x13), (2, .int x16)]) (jd k_Points_countCoefficients 19 rfl) rfl (Nat.le_of_ble_eq_true rfl) rfl ?_
      obtain ⟨⟨x37, s38⟩, h39, H⟩ := obnd H
      try dsimp only at H
      refine lp_Points_countCoefficients_34 k0 hk0 x13 jF x16 s14 _ h39 ?_
      refine j_pick (lv' := [(0, .ref (ad (5 + 16 * k0))), (1, .int x13)]) [0, 1] rfl ?_
      obtain ⟨x40, e41, H⟩ := olet H
      refine j_iinc (pc := 113) (lv' := [(0, .ref (ad (5 + 16 * k0))), (1, .int x40)]) 1 (jd k_Points_countCoefficients 65 rfl) rfl e41 rfl (Nat.le_of_ble_eq_true rfl) rfl ?_
      refine j_goto (pc := 116) (tgt := 19) (jd k_Points_countCoefficients 66 rfl) rfl ?_
      exact ih x40 s38 _ H kx

set_option maxRecDepth 20000 in
theorem c_Points_countCoefficients (ad : Nat → Nat) (G : jG) (k0 : Nat) (hk0 : k0 < 2) (s : jU) (r : Int32 × jU) (H : f_Points_countCoefficients k0 s = some r) : jCon G m_Points_countCoefficients y_Points_countCoefficients 2 0 0 [.ref (ad (5 + 16 * k0))] (mkC ad G s) (jEq (some (.int r.1)) (mkC ad G r.2)) := by
  refine jCon.of (by decide +kernel) rfl rfl rfl (Nat.le_of_ble_eq_true rfl) rfl ?_
  have H : (
  if jin (s (33 + 4 * k0) 0 0) 13 then
  jlet (ups s (32 + 4 * k0) 0 (va_cpy (s (31 + 4 * k0) 0) (s (32 + 4 * k0) 0) (0 : Int32).toNatClampNeg (0 : Int32).toNatClampNeg (s (33 + 4 * k0) 0 0).toNatClampNeg)) fun s10 =>
  Option.bind (L_Points_countCoefficients_19 k0 jF 1 s10) fun (x43, s44) =>
  jlet (s44 (33 + 4 * k0) 0 0) fun x46 =>
  Option.bind (L_Points_countCoefficients_124 k0 s44 jF x46) fun x53 =>
  some (x53, s44)
  else none) = some r := H
  generalize hP9 : jEq (some (.int r.1)) (mkC ad G r.2) = P
  refine j_aload_n (pc := 0) 0 (jd k_Points_countCoefficients 0 rfl) rfl ?_
  refine j_get (pc := 1) (fs := flPt ad s k0) (v := .ref (ad (7 + 16 * k0))) fl_Points_13_5 (5 + 16 * k0) (jd k_Points_countCoefficients 1 rfl) (lkPt ad G s hk0) rfl ?_
  refine j_iconst (pc := 4) (v := 0) (jd k_Points_countCoefficients 2 rfl) (by decide) ?_
  refine j_aload_n (pc := 5) 0 (jd k_Points_countCoefficients 3 rfl) rfl ?_
  refine j_get (pc := 6) (fs := flPt ad s k0) (v := .ref (ad (8 + 16 * k0))) fl_Points_16_5 (5 + 16 * k0) (jd k_Points_countCoefficients 4 rfl) (lkPt ad G s hk0) rfl ?_
  refine j_iconst (pc := 9) (v := 0) (jd k_Points_countCoefficients 5 rfl) (by decide) ?_
  refine j_aload_n (pc := 10) 0 (jd k_Points_countCoefficients 6 rfl) rfl ?_
  refine j_get (pc := 11) (fs := flPt ad s k0) (v := .int (s (33 + 4 * k0) 0 0)) fl_Points_23_5 (5 + 16 * k0) (jd k_Points_countCoefficients 7 rfl) (lkPt ad G s hk0) rfl ?_
  obtain ⟨h12, H⟩ := ochk H
  obtain ⟨s10, e11, H⟩ := olet H
  refine j_copy (pc := 14) (st := []) (f := s (31 + 4 * k0) 0) (g := s (32 + 4 * k0) 0) (7 + 16 * k0) (8 + 16 * k0) w341 w343 w342 w81 (lkPa_7 ad G s hk0) (lkPa_8 ad G s hk0) (by decide) (by decide) (jcp0 h12) (jcp1 h12 (by decide)) (jcp1 h12 (by decide)) (Nat.le_of_ble_eq_true rfl) (jd k_Points_countCoefficients 8 rfl) ((wrPa_8 ad G s hk0 _).trans (congrArg (mkC ad G) e11)) ?_
  refine j_iconst (pc := 17) (v := 1) (jd k_Points_countCoefficients 9 rfl) (by decide) ?_
  refine j_istore_n (pc := 18) (lv' := [(0, .ref (ad (5 + 16 * k0))), (1, .int 1)]) (jd k_Points_countCoefficients 10 rfl) rfl (Nat.le_of_ble_eq_true rfl) rfl ?_
  obtain ⟨⟨x43, s44⟩, h45, H⟩ := obnd H
  try dsimp only at H
  refine lp_Points_countCoefficients_19 k0 hk0 jF 1 s10 _ h45 ?_
  refine j_pick (lv' := [(0, .ref (ad (5 + 16 * k0)))]) [0] rfl ?_
  refine j_aload_n (pc := 119) 0 (jd k_Points_countCoefficients 67 rfl) rfl ?_
  refine j_get (pc := 120) (fs := flPt ad s44 k0) (v := .int (s44 (33 + 4 * k0) 0 0)) fl_Points_23_5 (5 + 16 * k0) (jd k_Points_countCoefficients 68 rfl) (lkPt ad G s44 hk0) rfl ?_
  obtain ⟨x46, e55, H⟩ := olet H
  refine j_topi e55 ?_
  refine j_istore_n (pc := 123) (lv' := [(0, .ref (ad (5 + 16 * k0))), (1, .int x46)]) (jd k_Points_countCoefficients 69 rfl) rfl (Nat.le_of_ble_eq_true rfl) rfl ?_
  obtain ⟨x53, h54, H⟩ := obnd H
  refine lp_Points_countCoefficients_124 k0 hk0 s44 jF x46 _ h54 ?_
  refine j_pick (lv' := [(1, .int x53)]) [1] rfl ?_
  refine j_iload_n (pc := 145) 0 (jd k_Points_countCoefficients 81 rfl) rfl ?_
  cases H
  subst hP9
  exact j_iret (pc := 146) (jd k_Points_countCoefficients 82 rfl) rfl rfl ⟨rfl, rfl⟩

set_option maxRecDepth 20000 in
theorem c_SR_degree (ad : Nat → Nat) (G : jG) (s : jU) (r : Int32 × jU) (H : f_SR_degree s = some r) : jCon G m_SR_degree y_SR_degree 3 0 0 [.ref (ad 0)] (mkC ad G s) (jEq (some (.int r.1)) (mkC ad G r.2)) := by
  refine jCon.of (by decide +kernel) rfl rfl rfl (Nat.le_of_ble_eq_true rfl) rfl ?_
  have H : (
  Option.bind (f_Points_countCoefficients 0 s) fun (x11, s12) =>
  some (x11, s12)) = some r := H
  generalize hP9 : jEq (some (.int r.1)) (mkC ad G r.2) = P
  refine j_aload_n (pc := 0) 0 (jd k_SR_degree 0 rfl) rfl ?_
  refine j_get (pc := 1) (fs := [.ref (ad 1), .ref (ad 5), .ref (ad 9)]) (v := .ref (ad (5 + 16 * 0))) fl_SR_28_0 0 (jd k_SR_degree 1 rfl) rfl rfl ?_
  obtain ⟨⟨x11, s12⟩, h10, H⟩ := obnd H
  try dsimp only at H
  refine jc_V (pc := 4) (st := []) (c_Points_countCoefficients ad G 0 (by decide) s _ h10) L0_Points_countCoefficients w337 w338 w339 (5 + 16 * 0) (lkPt ad G s (by decide)) rfl (jd k_SR_degree 2 rfl) rfl (Nat.le_of_ble_eq_true rfl) (by decide) (Nat.le_refl _) (Nat.le_refl _) rfl rfl ?_
  cases H
  subst hP9
  exact j_iret (pc := 7) (jd k_SR_degree 3 rfl) rfl rfl ⟨rfl, rfl⟩

set_option maxRecDepth 20000 in
theorem c_Room_stage (ad : Nat → Nat) (G : jG) (s : jU) (r : Int32) (H : f_Room_stage s = some r) : jCon G m_Room_stage y_Room_stage 0 0 0 [.ref (ad 9)] (mkC ad G s) (jEq (some (.int r)) (mkC ad G s)) := by
  refine jCon.of (by decide +kernel) rfl rfl rfl (Nat.le_of_ble_eq_true rfl) rfl ?_
  have H : (
  some (s 22 0 0)) = some r := H
  generalize hP9 : jEq (some (.int r)) (mkC ad G s) = P
  refine j_aload_n (pc := 0) 0 (jd k_Room_stage 0 rfl) rfl ?_
  refine j_get (pc := 1) (fs := flRm ad s) (v := .int (s 22 0 0)) fl_Room_72_7 9 (jd k_Room_stage 1 rfl) rfl rfl ?_
  cases H
  subst hP9
  exact j_iret (pc := 4) (jd k_Room_stage 2 rfl) rfl rfl ⟨rfl, rfl⟩

set_option maxRecDepth 20000 in
theorem c_SR_state (ad : Nat → Nat) (G : jG) (s : jU) (r : Int32) (H : f_SR_state s = some r) : jCon G m_SR_state y_SR_state 1 0 0 [.ref (ad 0)] (mkC ad G s) (jEq (some (.int r)) (mkC ad G s)) := by
  refine jCon.of (by decide +kernel) rfl rfl rfl (Nat.le_of_ble_eq_true rfl) rfl ?_
  have H : (
  Option.bind (f_Room_stage s) fun x11 =>
  some x11) = some r := H
  generalize hP9 : jEq (some (.int r)) (mkC ad G s) = P
  refine j_aload_n (pc := 0) 0 (jd k_SR_state 0 rfl) rfl ?_
  refine j_get (pc := 1) (fs := [.ref (ad 1), .ref (ad 5), .ref (ad 9)]) (v := .ref (ad 9)) fl_SR_43_0 0 (jd k_SR_state 1 rfl) rfl rfl ?_
  obtain ⟨x11, h10, H⟩ := obnd H
  refine jc_V (pc := 4) (st := []) (c_Room_stage ad G s _ h10) L0_Room_stage w373 w374 w375 9 rfl rfl (jd k_SR_state 2 rfl) rfl (Nat.le_of_ble_eq_true rfl) (by decide) (Nat.le_refl _) (Nat.le_refl _) rfl rfl ?_
  cases H
  subst hP9
  exact j_iret (pc := 7) (jd k_SR_state 3 rfl) rfl rfl ⟨rfl, rfl⟩

set_option maxRecDepth 20000 in
theorem c_Room_everybody (ad : Nat → Nat) (G : jG) (s : jU) (r : Int32) (H : f_Room_everybody s = some r) : jCon G m_Room_everybody y_Room_everybody 0 0 0 [.ref (ad 9)] (mkC ad G s) (jEq (some (.int r)) (mkC ad G s)) := by
  refine jCon.of (by decide +kernel) rfl rfl rfl (Nat.le_of_ble_eq_true rfl) rfl ?_
  have H : (
  some ((1 <<< ((s 20 0 0) &&& 31)) - 1)) = some r := H
  generalize hP9 : jEq (some (.int r)) (mkC ad G s) = P
  refine j_iconst (pc := 0) (v := 1) (jd k_Room_everybody 0 rfl) (by decide) ?_
  refine j_aload_n (pc := 1) 0 (jd k_Room_everybody 1 rfl) rfl ?_
  refine j_get (pc := 2) (fs := flRm ad s) (v := .int (s 20 0 0)) fl_Room_55_7 9 (jd k_Room_everybody 2 rfl) rfl rfl ?_
  refine j_ishl (pc := 5) (jd k_Room_everybody 3 rfl) ?_
  refine j_iconst (pc := 6) (v := 1) (jd k_Room_everybody 4 rfl) (by decide) ?_
  refine j_isub (pc := 7) (jd k_Room_everybody 5 rfl) ?_
  cases H
  subst hP9
  exact j_iret (pc := 8) (jd k_Room_everybody 6 rfl) rfl rfl ⟨rfl, rfl⟩

set_option maxRecDepth 20000 in
theorem c_Room_qualifiedBits (ad : Nat → Nat) (G : jG) (s : jU) (r : Int32) (H : f_Room_qualifiedBits s = some r) : jCon G m_Room_qualifiedBits y_Room_qualifiedBits 1 0 0 [.ref (ad 9)] (mkC ad G s) (jEq (some (.int r)) (mkC ad G s)) := by
  refine jCon.of (by decide +kernel) rfl rfl rfl (Nat.le_of_ble_eq_true rfl) rfl ?_
  have H : (
  Option.bind (f_Room_everybody s) fun x11 =>
  some ((s 24 0 0) &&& x11)) = some r := H
  generalize hP9 : jEq (some (.int r)) (mkC ad G s) = P
  refine j_aload_n (pc := 0) 0 (jd k_Room_qualifiedBits 0 rfl) rfl ?_
  refine j_get (pc := 1) (fs := flRm ad s) (v := .int (s 24 0 0)) fl_Room_78_7 9 (jd k_Room_qualifiedBits 1 rfl) rfl rfl ?_
  refine j_aload_n (pc := 4) 0 (jd k_Room_qualifiedBits 2 rfl) rfl ?_
  obtain ⟨x11, h10, H⟩ := obnd H
  refine jc_V (pc := 5) (st := [.int (s 24 0 0)]) (c_Room_everybody ad G s _ h10) L0_Room_everybody w385 w387 w0 9 rfl rfl (jd k_Room_qualifiedBits 3 rfl) rfl (Nat.le_of_ble_eq_true rfl) (by decide) (Nat.le_refl _) (Nat.le_refl _) rfl rfl ?_
  refine j_iand (pc := 8) (jd k_Room_qualifiedBits 4 rfl) ?_
  cases H
  subst hP9
  exact j_iret (pc := 9) (jd k_Room_qualifiedBits 5 rfl) rfl rfl ⟨rfl, rfl⟩

set_option maxRecDepth 20000 in
theorem c_Room_accusedBits (ad : Nat → Nat) (G : jG) (s : jU) (r : Int32) (H : f_Room_accusedBits s = some r) : jCon G m_Room_accusedBits y_Room_accusedBits 1 0 0 [.ref (ad 9)] (mkC ad G s) (jEq (some (.int r)) (mkC ad G s)) := by
  refine jCon.of (by decide +kernel) rfl rfl rfl (Nat.le_of_ble_eq_true rfl) rfl ?_
  have H : (
  Option.bind (f_Room_everybody s) fun x11 =>
  some ((s 25 0 0) &&& x11)) = some r := H
  generalize hP9 : jEq (some (.int r)) (mkC ad G s) = P
  refine j_aload_n (pc := 0) 0 (jd k_Room_accusedBits 0 rfl) rfl ?_
  refine j_get (pc := 1) (fs := flRm ad s) (v := .int (s 25 0 0)) fl_Room_81_7 9 (jd k_Room_accusedBits 1 rfl) rfl rfl ?_
  refine j_aload_n (pc := 4) 0 (jd k_Room_accusedBits 2 rfl) rfl ?_
  obtain ⟨x11, h10, H⟩ := obnd H
  refine jc_V (pc := 5) (st := [.int (s 25 0 0)]) (c_Room_everybody ad G s _ h10) L0_Room_everybody w385 w387 w0 9 rfl rfl (jd k_Room_accusedBits 3 rfl) rfl (Nat.le_of_ble_eq_true rfl) (by decide) (Nat.le_refl _) (Nat.le_refl _) rfl rfl ?_
  refine j_iand (pc := 8) (jd k_Room_accusedBits 4 rfl) ?_
  cases H
  subst hP9
  exact j_iret (pc := 9) (jd k_Room_accusedBits 5 rfl) rfl rfl ⟨rfl, rfl⟩

set_option maxRecDepth 20000 in
theorem c_Room_openedBits (ad : Nat → Nat) (G : jG) (s : jU) (r : Int32) (H : f_Room_openedBits s = some r) : jCon G m_Room_openedBits y_Room_openedBits 1 0 0 [.ref (ad 9)] (mkC ad G s) (jEq (some (.int r)) (mkC ad G s)) := by
  refine jCon.of (by decide +kernel) rfl rfl rfl (Nat.le_of_ble_eq_true rfl) rfl ?_
  have H : (
  Option.bind (f_Room_everybody s) fun x11 =>
  some ((s 26 0 0) &&& x11)) = some r := H
  generalize hP9 : jEq (some (.int r)) (mkC ad G s) = P
  refine j_aload_n (pc := 0) 0 (jd k_Room_openedBits 0 rfl) rfl ?_
  refine j_get (pc := 1) (fs := flRm ad s) (v := .int (s 26 0 0)) fl_Room_84_7 9 (jd k_Room_openedBits 1 rfl) rfl rfl ?_
  refine j_aload_n (pc := 4) 0 (jd k_Room_openedBits 2 rfl) rfl ?_
  obtain ⟨x11, h10, H⟩ := obnd H
  refine jc_V (pc := 5) (st := [.int (s 26 0 0)]) (c_Room_everybody ad G s _ h10) L0_Room_everybody w385 w387 w0 9 rfl rfl (jd k_Room_openedBits 3 rfl) rfl (Nat.le_of_ble_eq_true rfl) (by decide) (Nat.le_refl _) (Nat.le_refl _) rfl rfl ?_
  refine j_iand (pc := 8) (jd k_Room_openedBits 4 rfl) ?_
  cases H
  subst hP9
  exact j_iret (pc := 9) (jd k_Room_openedBits 5 rfl) rfl rfl ⟨rfl, rfl⟩

set_option maxRecDepth 20000 in
theorem c_Room_party (ad : Nat → Nat) (G : jG) (i : Int32) (s : jU) (j : Nat) (h : jidx (i - 1) 7 = some j) : jCon G m_Room_party y_Room_party 0 0 0 [.ref (ad 9), .int i] (mkC ad G s) (jEq (some (.ref (ad (26 + 15 * j)))) (mkC ad G s)) := by
  refine jCon.of (by decide +kernel) rfl rfl rfl (Nat.le_of_ble_eq_true rfl) rfl ?_
  refine j_aload_n 0 (jd k_Room_party 0 rfl) rfl ?_
  refine j_get (fs := flRm ad s) (v := .ref (ad 14)) fl_Room_11_7 9 (jd k_Room_party 1 rfl) rfl rfl ?_
  refine j_iload_n 1 (jd k_Room_party 2 rfl) rfl ?_
  refine j_iconst (v := 1) (jd k_Room_party 3 rfl) (by decide) ?_
  refine j_isub (jd k_Room_party 4 rfl) ?_
  refine j_aald (t0 := 5) (v := ad (26 + 15 * j)) 14 (jd k_Room_party 5 rfl) rfl rfl rfl (jidx.vp h) (jidx.fn h (fun k => ad (26 + 15 * k))) ?_
  exact j_aret (jd k_Room_party 6 rfl) rfl (Or.inl ⟨_, rfl⟩) ⟨rfl, rfl⟩
set_option maxRecDepth 20000 in
theorem c_Party_worksIn (ad : Nat → Nat) (G : jG) (k0 : Nat) (hk0 : k0 < 7) (p0 : Int32) (s : jU) (r : Int32) (H : f_Party_worksIn k0 p0 s = some r) : jCon G m_Party_worksIn y_Party_worksIn 0 0 0 [.ref (ad (26 + 15 * k0)), .int p0] (mkC ad G s) (jEq (some (.int r)) (mkC ad G s)) := by
  refine jCon.of (by decide +kernel) rfl rfl rfl (Nat.le_of_ble_eq_true rfl) rfl ?_
  have H : (
  Option.bind (α := Int32) (
    if (s 10 k0 0) ≤ p0 then
      some 0
    else
      some 1) fun x11 =>
  if jbo x11 then
  some x11
  else none) = some r := H
  generalize hP9 : jEq (some (.int r)) (mkC ad G s) = P
  refine j_iload_n (pc := 0) 1 (jd k_Party_worksIn 0 rfl) rfl ?_
  refine j_aload_n (pc := 1) 0 (jd k_Party_worksIn 1 rfl) rfl ?_
  refine j_get (pc := 2) (fs := flPy ad s k0) (v := .int (s 10 k0 0)) fl_Party_52_4 (26 + 15 * k0) (jd k_Party_worksIn 2 rfl) (lkPy ad G s hk0) rfl ?_
  obtain ⟨x11, h12, H⟩ := obnd H
  have K13 : J G m_Party_worksIn 0 0 0 P 13 [] [.int x11] (mkC ad G s) 0 0 := by
    obtain ⟨h14, H⟩ := ochk H
    cases H
    subst hP9
    exact j_iret (pc := 13) (jd k_Party_worksIn 7 rfl) rfl (jbo.nar h14) ⟨rfl, rfl⟩
  have H := h12
  refine j_icmp_ge (pc := 5) (tgt := 12) (jd k_Party_worksIn 3 rfl) rfl (fun h10 => ?_) (fun h10 => ?_)
  · rw [if_pos h10] at H
    refine j_iconst (pc := 12) (v := 0) (jd k_Party_worksIn 6 rfl) (by decide) ?_
    cases H
    exact j_pick [] rfl K13
  · rw [if_neg h10] at H
    refine j_iconst (pc := 8) (v := 1) (jd k_Party_worksIn 4 rfl) (by decide) ?_
    refine j_goto (pc := 9) (tgt := 13) (jd k_Party_worksIn 5 rfl) rfl ?_
    cases H
    exact j_pick [] rfl K13

set_option maxRecDepth 20000 in
theorem c_Party_neverCrashes (ad : Nat → Nat) (G : jG) (k0 : Nat) (hk0 : k0 < 7) (s : jU) (r : Int32) (H : f_Party_neverCrashes k0 s = some r) : jCon G m_Party_neverCrashes y_Party_neverCrashes 0 0 0 [.ref (ad (26 + 15 * k0))] (mkC ad G s) (jEq (some (.int r)) (mkC ad G s)) := by
  refine jCon.of (by decide +kernel) rfl rfl rfl (Nat.le_of_ble_eq_true rfl) rfl ?_
  have H : (
  Option.bind (α := Int32) (
    if ¬ (s 10 k0 0) = 8 then
      some 0
    else
      some 1) fun x11 =>
  if jbo x11 then
  some x11
  else none) = some r := H
  generalize hP9 : jEq (some (.int r)) (mkC ad G s) = P
  refine j_aload_n (pc := 0) 0 (jd k_Party_neverCrashes 0 rfl) rfl ?_
  refine j_get (pc := 1) (fs := flPy ad s k0) (v := .int (s 10 k0 0)) fl_Party_52_4 (26 + 15 * k0) (jd k_Party_neverCrashes 1 rfl) (lkPy ad G s hk0) rfl ?_
  refine j_bipush (pc := 4) (v := 8) (jd k_Party_neverCrashes 2 rfl) (by decide) ?_
  obtain ⟨x11, h12, H⟩ := obnd H
  have K13 : J G m_Party_neverCrashes 0 0 0 P 14 [] [.int x11] (mkC ad G s) 0 0 := by
    obtain ⟨h14, H⟩ := ochk H
    cases H
    subst hP9
    exact j_iret (pc := 14) (jd k_Party_neverCrashes 7 rfl) rfl (jbo.nar h14) ⟨rfl, rfl⟩
  have H := h12
  refine j_icmp_ne (pc := 6) (tgt := 13) (jd k_Party_neverCrashes 3 rfl) rfl (fun h10 => ?_) (fun h10 => ?_)
  · rw [if_pos h10] at H
    refine j_iconst (pc := 13) (v := 0) (jd k_Party_neverCrashes 6 rfl) (by decide) ?_
    cases H
    exact j_pick [] rfl K13
  · rw [if_neg (not_not_intro h10)] at H
    refine j_iconst (pc := 9) (v := 1) (jd k_Party_neverCrashes 4 rfl) (by decide) ?_
    refine j_goto (pc := 10) (tgt := 14) (jd k_Party_neverCrashes 5 rfl) rfl ?_
    cases H
    exact j_pick [] rfl K13

set_option maxRecDepth 20000 in
theorem c_SR_bit (G : jG) (ws : va_W) (p0 : Int32) (r : Int32) (H : f_SR_bit p0 = some r) : jCon G m_SR_bit y_SR_bit 0 0 0 [.int p0] ws (jEq (some (.int r)) ws) := by
  refine jCon.of (by decide +kernel) rfl rfl rfl (Nat.le_of_ble_eq_true rfl) rfl ?_
  have H : (
  some (1 <<< ((p0 - 1) &&& 31))) = some r := H
  generalize hP9 : jEq (some (.int r)) ws = P
  refine j_iconst (pc := 0) (v := 1) (jd k_SR_bit 0 rfl) (by decide) ?_
  refine j_iload_n (pc := 1) 0 (jd k_SR_bit 1 rfl) rfl ?_
  refine j_iconst (pc := 2) (v := 1) (jd k_SR_bit 2 rfl) (by decide) ?_
  refine j_isub (pc := 3) (jd k_SR_bit 3 rfl) ?_
  refine j_ishl (pc := 4) (jd k_SR_bit 4 rfl) ?_
  cases H
  subst hP9
  exact j_iret (pc := 5) (jd k_SR_bit 5 rfl) rfl rfl ⟨rfl, rfl⟩

set_option maxRecDepth 20000 in
theorem lp_Room_workingBits_4 {ad : Nat → Nat} {G : jG} {P : jR → va_W → Prop} (s : jU) : ∀ (n : Nat) (x10 : Int32) (x11 : Int32) (r : Int32 × Int32), L_Room_workingBits_4 s n x10 x11 = some r → J G m_Room_workingBits 1 0 0 P 63 [(0, .ref (ad 9)), (1, .int r.1), (2, .int r.2)] [] (mkC ad G s) 0 0 → J G m_Room_workingBits 1 0 0 P 4 [(0, .ref (ad 9)), (1, .int x10), (2, .int x11)] [] (mkC ad G s) 0 0 := by
  intro n
  induction n with
  | zero =>
    intro x10 x11 r H
    cases (show none = some r from H)
  | succ n ih =>
    intro x10 x11 r H kx
    have H : (
    if (s 20 0 0) < x11 then
      some (x10, x11)
    else
      Option.bind (α := Int32) (
        if ¬ (s 22 0 0) = 1 then
          Option.bind (jidx (x11 - 1) 7) fun k14 =>
          Option.bind (f_Party_neverCrashes k14 s) fun x17 =>
          some x17
        else
          Option.bind (jidx (x11 - 1) 7) fun k18 =>
          Option.bind (f_Party_worksIn k18 ((s 23 0 0) + 1) s) fun x21 =>
          some x21) fun x22 =>
      Option.bind (α := Int32) (
        if x22 = 0 then
          some x10
        else
          Option.bind (f_SR_bit x11) fun x27 =>
          jlet (x10 ||| x27) fun x28 =>
          some x28) fun x30 =>
      jlet (x11 + 1) fun x33 =>
      L_Room_workingBits_4 s n x30 x33) = some r := H
    refine j_iload_n (pc := 4) 2 (jd k_Room_workingBits 4 rfl) rfl ?_
    refine j_aload_n (pc := 5) 0 (jd k_Room_workingBits 5 rfl) rfl ?_
    refine j_get (pc := 6) (fs := flRm ad s) (v := .int (s 20 0 0)) fl_Room_55_7 9 (jd k_Room_workingBits 6 rfl) rfl rfl ?_
    refine j_icmp_gt (pc := 9) (tgt := 63) (jd k_Room_workingBits 7 rfl) rfl (fun h12 => ?_) (fun h12 => ?_)
    · rw [if_pos h12] at H
      cases H
      exact kx
    · rw [if_neg h12] at H
      refine j_aload_n (pc := 12) 0 (jd k_Room_workingBits 8 rfl) rfl ?_
      refine j_get (pc := 13) (fs := flRm ad s) (v := .int (s 22 0 0)) fl_Room_72_7 9 (jd k_Room_workingBits 9 rfl) rfl rfl ?_
      refine j_iconst (pc := 16) (v := 1) (jd k_Room_workingBits 10 rfl) (by decide) ?_
      obtain ⟨x22, h23, H⟩ := obnd H
      have K24 : J G m_Room_workingBits 1 0 0 P 45 [(0, .ref (ad 9)), (1, .int x10), (2, .int x11)] [.int x22] (mkC ad G s) 0 0 := by
        refine j_istore_n (pc := 45) (lv' := [(0, .ref (ad 9)), (1, .int x10), (2, .int x11), (3, .int x22)]) (jd k_Room_workingBits 25 rfl) rfl (Nat.le_of_ble_eq_true rfl) rfl ?_
        refine j_iload_n (pc := 46) 3 (jd k_Room_workingBits 26 rfl) rfl ?_
        obtain ⟨x30, h31, H⟩ := obnd H
        have K32 : J G m_Room_workingBits 1 0 0 P 57 [(0, .ref (ad 9)), (1, .int x30), (2, .int x11)] [] (mkC ad G s) 0 0 := by
          obtain ⟨x33, e34, H⟩ := olet H
          refine j_iinc (pc := 57) (lv' := [(0, .ref (ad 9)), (1, .int x30), (2, .int x33)]) 2 (jd k_Room_workingBits 33 rfl) rfl e34 rfl (Nat.le_of_ble_eq_true rfl) rfl ?_
          refine j_goto (pc := 60) (tgt := 4) (jd k_Room_workingBits 34 rfl) rfl ?_
          exact ih x30 x33 _ H kx
        have H := h31
        refine j_if_eq (pc := 47) (tgt := 57) (jd k_Room_workingBits 27 rfl) rfl (fun h25 => ?_) (fun h25 => ?_)
        · rw [if_pos h25] at H
          cases H
          exact j_pick [0, 1, 2] rfl K32
        · rw [if_neg h25] at H
          refine j_iload_n (pc := 50) 1 (jd k_Room_workingBits 28 rfl) rfl ?_
          refine j_iload_n (pc := 51) 2 (jd k_Room_workingBits 29 rfl) rfl ?_
          obtain ⟨x27, h26, H⟩ := obnd H
          refine jc_SN (pc := 52) (st := [.int x10]) (c_SR_bit G _ x11 _ h26) L0_SR_bit wt413 w414 (jd k_Room_workingBits 30 rfl) rfl (Nat.le_of_ble_eq_true rfl) (by decide) (Nat.le_refl _) (Nat.le_refl _) rfl rfl ?_
          refine j_ior (pc := 55) (jd k_Room_workingBits 31 rfl) ?_
          obtain ⟨x28, e29, H⟩ := olet H
          refine j_topi e29 ?_
          refine j_istore_n (pc := 56) (lv' := [(0, .ref (ad 9)), (1, .int x28), (2, .int x11), (3, .int x22)]) (jd k_Room_workingBits 32 rfl) rfl (Nat.le_of_ble_eq_true rfl) rfl ?_
          cases H
          exact j_pick [0, 1, 2] rfl K32
      have H := h23
      refine j_icmp_ne (pc := 17) (tgt := 37) (jd k_Room_workingBits 11 rfl) rfl (fun h13 => ?_) (fun h13 => ?_)
      · rw [if_pos h13] at H
        refine j_aload_n (pc := 37) 0 (jd k_Room_workingBits 21 rfl) rfl ?_
        refine j_iload_n (pc := 38) 2 (jd k_Room_workingBits 22 rfl) rfl ?_
        obtain ⟨k14, h15, H⟩ := obnd H
        have hk14 : k14 < 7 := jidx.lt h15
        refine jc_V (pc := 39) (st := []) (c_Room_party ad G x11 s k14 h15) L0_Room_party w401 w403 w1 9 rfl rfl (jd k_Room_workingBits 23 rfl) rfl (Nat.le_of_ble_eq_true rfl) (by decide) (Nat.le_refl _) (Nat.le_refl _) rfl rfl ?_
        obtain ⟨x17, h16, H⟩ := obnd H
        refine jc_V (pc := 42) (st := []) (c_Party_neverCrashes ad G k14 hk14 s _ h16) L0_Party_neverCrashes w409 w410 w411 (26 + 15 * k14) (lkPy ad G s hk14) rfl (jd k_Room_workingBits 24 rfl) rfl (Nat.le_of_ble_eq_true rfl) (by decide) (Nat.le_refl _) (Nat.le_refl _) rfl rfl ?_
        cases H
        exact K24
      · rw [if_neg (not_not_intro h13)] at H
        refine j_aload_n (pc := 20) 0 (jd k_Room_workingBits 12 rfl) rfl ?_
        refine j_iload_n (pc := 21) 2 (jd k_Room_workingBits 13 rfl) rfl ?_
        obtain ⟨k18, h19, H⟩ := obnd H
        have hk18 : k18 < 7 := jidx.lt h19
        refine jc_V (pc := 22) (st := []) (c_Room_party ad G x11 s k18 h19) L0_Room_party w401 w403 w1 9 rfl rfl (jd k_Room_workingBits 14 rfl) rfl (Nat.le_of_ble_eq_true rfl) (by decide) (Nat.le_refl _) (Nat.le_refl _) rfl rfl ?_
        refine j_aload_n (pc := 25) 0 (jd k_Room_workingBits 15 rfl) rfl ?_
        refine j_get (pc := 26) (fs := flRm ad s) (v := .int (s 23 0 0)) fl_Room_75_7 9 (jd k_Room_workingBits 16 rfl) rfl rfl ?_
        refine j_iconst (pc := 29) (v := 1) (jd k_Room_workingBits 17 rfl) (by decide) ?_
        refine j_iadd (pc := 30) (jd k_Room_workingBits 18 rfl) ?_
        obtain ⟨x21, h20, H⟩ := obnd H
        refine jc_V (pc := 31) (st := []) (c_Party_worksIn ad G k18 hk18 ((s 23 0 0) + 1) s _ h20) L0_Party_worksIn w405 w406 w407 (26 + 15 * k18) (lkPy ad G s hk18) rfl (jd k_Room_workingBits 19 rfl) rfl (Nat.le_of_ble_eq_true rfl) (by decide) (Nat.le_refl _) (Nat.le_refl _) rfl rfl ?_
        refine j_goto (pc := 34) (tgt := 45) (jd k_Room_workingBits 20 rfl) rfl ?_
        cases H
        exact K24

set_option maxRecDepth 20000 in
theorem c_Room_workingBits (ad : Nat → Nat) (G : jG) (s : jU) (r : Int32) (H : f_Room_workingBits s = some r) : jCon G m_Room_workingBits y_Room_workingBits 1 0 0 [.ref (ad 9)] (mkC ad G s) (jEq (some (.int r)) (mkC ad G s)) := by
  refine jCon.of (by decide +kernel) rfl rfl rfl (Nat.le_of_ble_eq_true rfl) rfl ?_
  have H : (
  Option.bind (L_Room_workingBits_4 s jF 0 1) fun (x35, x36) =>
  some x35) = some r := H
  generalize hP9 : jEq (some (.int r)) (mkC ad G s) = P
  refine j_iconst (pc := 0) (v := 0) (jd k_Room_workingBits 0 rfl) (by decide) ?_
  refine j_istore_n (pc := 1) (lv' := [(0, .ref (ad 9)), (1, .int 0)]) (jd k_Room_workingBits 1 rfl) rfl (Nat.le_of_ble_eq_true rfl) rfl ?_
  refine j_iconst (pc := 2) (v := 1) (jd k_Room_workingBits 2 rfl) (by decide) ?_
  refine j_istore_n (pc := 3) (lv' := [(0, .ref (ad 9)), (1, .int 0), (2, .int 1)]) (jd k_Room_workingBits 3 rfl) rfl (Nat.le_of_ble_eq_true rfl) rfl ?_
  obtain ⟨⟨x35, x36⟩, h37, H⟩ := obnd H
  try dsimp only at H
  refine lp_Room_workingBits_4 s jF 0 1 _ h37 ?_
  refine j_pick (lv' := [(1, .int x35)]) [1] rfl ?_
  refine j_iload_n (pc := 63) 0 (jd k_Room_workingBits 35 rfl) rfl ?_
  cases H
  subst hP9
  exact j_iret (pc := 64) (jd k_Room_workingBits 36 rfl) rfl rfl ⟨rfl, rfl⟩

set_option maxRecDepth 20000 in
theorem c_SR_parties (ad : Nat → Nat) (G : jG) (p0 : Int32) (s : jU) (r : Int32) (H : f_SR_parties p0 s = some r) : jCon G m_SR_parties y_SR_parties 2 0 0 [.ref (ad 0), .int p0] (mkC ad G s) (jEq (some (.int r)) (mkC ad G s)) := by
  refine jCon.of (by decide +kernel) rfl rfl rfl (Nat.le_of_ble_eq_true rfl) rfl ?_
  have H : (
  if p0 = 0 then
    Option.bind (f_Room_qualifiedBits s) fun x15 =>
    some x15
  else
    if p0 = 1 then
      Option.bind (f_Room_accusedBits s) fun x17 =>
      some x17
    else
      if p0 = 2 then
        Option.bind (f_Room_openedBits s) fun x19 =>
        some x19
      else
        if p0 = 3 then
          Option.bind (f_Room_workingBits s) fun x21 =>
          some x21
        else
          some (-1)) = some r := H
  generalize hP9 : jEq (some (.int r)) (mkC ad G s) = P
  refine j_iload_n (pc := 0) 1 (jd k_SR_parties 0 rfl) rfl ?_
  by_cases h10 : p0 = 0
  · rw [if_pos h10] at H
    refine j_tabIn (pc := 1) (tgt := 32) (jd k_SR_parties 1 rfl) (by rw [h10]; decide) (by rw [h10]; decide) (by rw [h10]; rfl) rfl ?_
    refine j_aload_n (pc := 32) 0 (jd k_SR_parties 2 rfl) rfl ?_
    refine j_get (pc := 33) (fs := [.ref (ad 1), .ref (ad 5), .ref (ad 9)]) (v := .ref (ad 9)) fl_SR_43_0 0 (jd k_SR_parties 3 rfl) rfl rfl ?_
    obtain ⟨x15, h14, H⟩ := obnd H
    refine jc_V (pc := 36) (st := []) (c_Room_qualifiedBits ad G s _ h14) L0_Room_qualifiedBits w381 w382 w383 9 rfl rfl (jd k_SR_parties 4 rfl) rfl (Nat.le_of_ble_eq_true rfl) (by decide) (Nat.le_refl _) (Nat.le_refl _) rfl rfl ?_
    cases H
    subst hP9
    exact j_iret (pc := 39) (jd k_SR_parties 5 rfl) rfl rfl ⟨rfl, rfl⟩
  · rw [if_neg h10] at H
    by_cases h11 : p0 = 1
    · rw [if_pos h11] at H
      refine j_tabIn (pc := 1) (tgt := 40) (jd k_SR_parties 1 rfl) (by rw [h11]; decide) (by rw [h11]; decide) (by rw [h11]; rfl) rfl ?_
      refine j_aload_n (pc := 40) 0 (jd k_SR_parties 6 rfl) rfl ?_
      refine j_get (pc := 41) (fs := [.ref (ad 1), .ref (ad 5), .ref (ad 9)]) (v := .ref (ad 9)) fl_SR_43_0 0 (jd k_SR_parties 7 rfl) rfl rfl ?_
      obtain ⟨x17, h16, H⟩ := obnd H
      refine jc_V (pc := 44) (st := []) (c_Room_accusedBits ad G s _ h16) L0_Room_accusedBits w389 w390 w391 9 rfl rfl (jd k_SR_parties 8 rfl) rfl (Nat.le_of_ble_eq_true rfl) (by decide) (Nat.le_refl _) (Nat.le_refl _) rfl rfl ?_
      cases H
      subst hP9
      exact j_iret (pc := 47) (jd k_SR_parties 9 rfl) rfl rfl ⟨rfl, rfl⟩
    · rw [if_neg h11] at H
      by_cases h12 : p0 = 2
      · rw [if_pos h12] at H
        refine j_tabIn (pc := 1) (tgt := 48) (jd k_SR_parties 1 rfl) (by rw [h12]; decide) (by rw [h12]; decide) (by rw [h12]; rfl) rfl ?_
        refine j_aload_n (pc := 48) 0 (jd k_SR_parties 10 rfl) rfl ?_
        refine j_get (pc := 49) (fs := [.ref (ad 1), .ref (ad 5), .ref (ad 9)]) (v := .ref (ad 9)) fl_SR_43_0 0 (jd k_SR_parties 11 rfl) rfl rfl ?_
        obtain ⟨x19, h18, H⟩ := obnd H
        refine jc_V (pc := 52) (st := []) (c_Room_openedBits ad G s _ h18) L0_Room_openedBits w393 w394 w395 9 rfl rfl (jd k_SR_parties 12 rfl) rfl (Nat.le_of_ble_eq_true rfl) (by decide) (Nat.le_refl _) (Nat.le_refl _) rfl rfl ?_
        cases H
        subst hP9
        exact j_iret (pc := 55) (jd k_SR_parties 13 rfl) rfl rfl ⟨rfl, rfl⟩
      · rw [if_neg h12] at H
        by_cases h13 : p0 = 3
        · rw [if_pos h13] at H
          refine j_tabIn (pc := 1) (tgt := 56) (jd k_SR_parties 1 rfl) (by rw [h13]; decide) (by rw [h13]; decide) (by rw [h13]; rfl) rfl ?_
          refine j_aload_n (pc := 56) 0 (jd k_SR_parties 14 rfl) rfl ?_
          refine j_get (pc := 57) (fs := [.ref (ad 1), .ref (ad 5), .ref (ad 9)]) (v := .ref (ad 9)) fl_SR_43_0 0 (jd k_SR_parties 15 rfl) rfl rfl ?_
          obtain ⟨x21, h20, H⟩ := obnd H
          refine jc_V (pc := 60) (st := []) (c_Room_workingBits ad G s _ h20) L0_Room_workingBits w397 w398 w399 9 rfl rfl (jd k_SR_parties 16 rfl) rfl (Nat.le_of_ble_eq_true rfl) (by decide) (Nat.le_refl _) (Nat.le_refl _) rfl rfl ?_
          cases H
          subst hP9
          exact j_iret (pc := 63) (jd k_SR_parties 17 rfl) rfl rfl ⟨rfl, rfl⟩
        · rw [if_neg h13] at H
          refine j_tabOut (pc := 1) (tgt := 64) (jd k_SR_parties 1 rfl) (by have z0 := lv_neT h10 (show (0 : Int32).toInt = 0 from by decide); have z1 := lv_neT h11 (show (1 : Int32).toInt = 1 from by decide); have z2 := lv_neT h12 (show (2 : Int32).toInt = 2 from by decide); have z3 := lv_neT h13 (show (3 : Int32).toInt = 3 from by decide); omega) rfl ?_
          refine j_iconst (pc := 64) (v := (-1)) (jd k_SR_parties 18 rfl) (by decide) ?_
          cases H
          subst hP9
          exact j_iret (pc := 65) (jd k_SR_parties 19 rfl) rfl rfl ⟨rfl, rfl⟩

set_option maxRecDepth 20000 in
theorem c_Room_shownToAll (ad : Nat → Nat) (G : jG) (s : jU) : jCon G m_Room_shownToAll y_Room_shownToAll 0 0 0 [.ref (ad 9)] (mkC ad G s) (jEq (some (.ref (ad 15))) (mkC ad G s)) := by
  refine jCon.of (by decide +kernel) rfl rfl rfl (Nat.le_of_ble_eq_true rfl) rfl ?_
  refine j_aload_n 0 (jd k_Room_shownToAll 0 rfl) rfl ?_
  refine j_get (fs := flRm ad s) (v := .ref (ad 15)) fl_Room_20_7 9 (jd k_Room_shownToAll 1 rfl) rfl rfl ?_
  exact j_aret (jd k_Room_shownToAll 2 rfl) rfl (Or.inl ⟨_, rfl⟩) ⟨rfl, rfl⟩
set_option maxRecDepth 20000 in
theorem c_Board_size (ad : Nat → Nat) (G : jG) (s : jU) (r : Int32) (H : f_Board_size s = some r) : jCon G m_Board_size y_Board_size 0 0 0 [.ref (ad 15)] (mkC ad G s) (jEq (some (.int r)) (mkC ad G s)) := by
  refine jCon.of (by decide +kernel) rfl rfl rfl (Nat.le_of_ble_eq_true rfl) rfl ?_
  have H : (
  some (s 41 0 0)) = some r := H
  generalize hP9 : jEq (some (.int r)) (mkC ad G s) = P
  refine j_aload_n (pc := 0) 0 (jd k_Board_size 0 rfl) rfl ?_
  refine j_get (pc := 1) (fs := flBd ad s) (v := .int (s 41 0 0)) fl_Board_20_1 15 (jd k_Board_size 1 rfl) rfl rfl ?_
  cases H
  subst hP9
  exact j_iret (pc := 4) (jd k_Board_size 2 rfl) rfl rfl ⟨rfl, rfl⟩

set_option maxRecDepth 20000 in
theorem c_SR_board (ad : Nat → Nat) (G : jG) (s : jU) (r : Int32) (H : f_SR_board s = some r) : jCon G m_SR_board y_SR_board 1 0 0 [.ref (ad 0)] (mkC ad G s) (jEq (some (.int r)) (mkC ad G s)) := by
  refine jCon.of (by decide +kernel) rfl rfl rfl (Nat.le_of_ble_eq_true rfl) rfl ?_
  have H : (
  Option.bind (f_Board_size s) fun x11 =>
  some x11) = some r := H
  generalize hP9 : jEq (some (.int r)) (mkC ad G s) = P
  refine j_aload_n (pc := 0) 0 (jd k_SR_board 0 rfl) rfl ?_
  refine j_get (pc := 1) (fs := [.ref (ad 1), .ref (ad 5), .ref (ad 9)]) (v := .ref (ad 9)) fl_SR_43_0 0 (jd k_SR_board 1 rfl) rfl rfl ?_
  refine jc_V (pc := 4) (st := []) (c_Room_shownToAll ad G s) L0_Room_shownToAll w420 w421 w422 9 rfl rfl (jd k_SR_board 2 rfl) rfl (Nat.le_of_ble_eq_true rfl) (by decide) (Nat.le_refl _) (Nat.le_refl _) rfl rfl ?_
  obtain ⟨x11, h10, H⟩ := obnd H
  refine jc_V (pc := 7) (st := []) (c_Board_size ad G s _ h10) L0_Board_size w424 w425 w426 15 rfl rfl (jd k_SR_board 3 rfl) rfl (Nat.le_of_ble_eq_true rfl) (by decide) (Nat.le_refl _) (Nat.le_refl _) rfl rfl ?_
  cases H
  subst hP9
  exact j_iret (pc := 10) (jd k_SR_board 4 rfl) rfl rfl ⟨rfl, rfl⟩

set_option maxRecDepth 20000 in
theorem c_Room_commonKey (ad : Nat → Nat) (G : jG) (s : jU) (r : Int32) (H : f_Room_commonKey s = some r) : jCon G m_Room_commonKey y_Room_commonKey 0 0 0 [.ref (ad 9)] (mkC ad G s) (jEq (some (.int r)) (mkC ad G s)) := by
  refine jCon.of (by decide +kernel) rfl rfl rfl (Nat.le_of_ble_eq_true rfl) rfl ?_
  have H : (
  some (s 27 0 0)) = some r := H
  generalize hP9 : jEq (some (.int r)) (mkC ad G s) = P
  refine j_aload_n (pc := 0) 0 (jd k_Room_commonKey 0 rfl) rfl ?_
  refine j_get (pc := 1) (fs := flRm ad s) (v := .int (s 27 0 0)) fl_Room_90_7 9 (jd k_Room_commonKey 1 rfl) rfl rfl ?_
  cases H
  subst hP9
  exact j_iret (pc := 4) (jd k_Room_commonKey 2 rfl) rfl rfl ⟨rfl, rfl⟩

set_option maxRecDepth 20000 in
theorem c_SR_key (ad : Nat → Nat) (G : jG) (s : jU) (r : Int32) (H : f_SR_key s = some r) : jCon G m_SR_key y_SR_key 1 0 0 [.ref (ad 0)] (mkC ad G s) (jEq (some (.int r)) (mkC ad G s)) := by
  refine jCon.of (by decide +kernel) rfl rfl rfl (Nat.le_of_ble_eq_true rfl) rfl ?_
  have H : (
  Option.bind (f_Room_stage s) fun x11 =>
  Option.bind (α := Int32) (
    if ¬ x11 = 2 then
      some (-1)
    else
      Option.bind (f_Room_commonKey s) fun x14 =>
      some x14) fun x15 =>
  some x15) = some r := H
  generalize hP9 : jEq (some (.int r)) (mkC ad G s) = P
  refine j_aload_n (pc := 0) 0 (jd k_SR_key 0 rfl) rfl ?_
  refine j_get (pc := 1) (fs := [.ref (ad 1), .ref (ad 5), .ref (ad 9)]) (v := .ref (ad 9)) fl_SR_43_0 0 (jd k_SR_key 1 rfl) rfl rfl ?_
  obtain ⟨x11, h10, H⟩ := obnd H
  refine jc_V (pc := 4) (st := []) (c_Room_stage ad G s _ h10) L0_Room_stage w373 w374 w375 9 rfl rfl (jd k_SR_key 2 rfl) rfl (Nat.le_of_ble_eq_true rfl) (by decide) (Nat.le_refl _) (Nat.le_refl _) rfl rfl ?_
  refine j_iconst (pc := 7) (v := 2) (jd k_SR_key 3 rfl) (by decide) ?_
  obtain ⟨x15, h16, H⟩ := obnd H
  have K17 : J G m_SR_key 1 0 0 P 22 [] [.int x15] (mkC ad G s) 0 0 := by
    cases H
    subst hP9
    exact j_iret (pc := 22) (jd k_SR_key 10 rfl) rfl rfl ⟨rfl, rfl⟩
  have H := h16
  refine j_icmp_ne (pc := 8) (tgt := 21) (jd k_SR_key 4 rfl) rfl (fun h12 => ?_) (fun h12 => ?_)
  · rw [if_pos h12] at H
    refine j_iconst (pc := 21) (v := (-1)) (jd k_SR_key 9 rfl) (by decide) ?_
    cases H
    exact j_pick [] rfl K17
  · rw [if_neg (not_not_intro h12)] at H
    refine j_aload_n (pc := 11) 0 (jd k_SR_key 5 rfl) rfl ?_
    refine j_get (pc := 12) (fs := [.ref (ad 1), .ref (ad 5), .ref (ad 9)]) (v := .ref (ad 9)) fl_SR_43_0 0 (jd k_SR_key 6 rfl) rfl rfl ?_
    obtain ⟨x14, h13, H⟩ := obnd H
    refine jc_V (pc := 15) (st := []) (c_Room_commonKey ad G s _ h13) L0_Room_commonKey w432 w433 w434 9 rfl rfl (jd k_SR_key 7 rfl) rfl (Nat.le_of_ble_eq_true rfl) (by decide) (Nat.le_refl _) (Nat.le_refl _) rfl rfl ?_
    refine j_goto (pc := 18) (tgt := 22) (jd k_SR_key 8 rfl) rfl ?_
    cases H
    exact j_pick [] rfl K17

set_option maxRecDepth 20000 in
theorem c_Points_clear (ad : Nat → Nat) (G : jG) (k0 : Nat) (hk0 : k0 < 2) (k1 : Nat) (hk1 : k1 < 3) (s : jU) (r : jU) (H : f_Points_clear k0 k1 s = some r) : jCon G m_Points_clear y_Points_clear 0 0 0 [.ref (ad (5 + 16 * k0)), .ref (ad (2 + k1))] (mkC ad G s) (jEq none (mkC ad G r)) := by
  refine jCon.of (by decide +kernel) rfl rfl rfl (Nat.le_of_ble_eq_true rfl) rfl ?_
  have H : (
  jlet (ups s (51 + k0) 0 (fun _ => Int32.ofNat k1)) fun s10 =>
  jlet (ups s10 (33 + 4 * k0) 0 (fun _ => 0)) fun s12 =>
  some s12) = some r := H
  generalize hP9 : jEq none (mkC ad G r) = P
  refine j_aload_n (pc := 0) 0 (jd k_Points_clear 0 rfl) rfl ?_
  refine j_aload_n (pc := 1) 1 (jd k_Points_clear 1 rfl) rfl ?_
  obtain ⟨s10, e11, H⟩ := olet H
  refine j_put (pc := 2) (fs := flPt ad s k0) (fp_Points_19_5 _) (5 + 16 * k0) (jd k_Points_clear 2 rfl) (lkPt ad G s hk0) rfl rfl (Nat.le_of_ble_eq_true rfl) ((wrPt_3 ad G s hk0 hk1).trans (congrArg (mkC ad G) e11)) ?_
  refine j_aload_n (pc := 5) 0 (jd k_Points_clear 3 rfl) rfl ?_
  refine j_iconst (pc := 6) (v := 0) (jd k_Points_clear 4 rfl) (by decide) ?_
  obtain ⟨s12, e13, H⟩ := olet H
  refine j_put (pc := 7) (fs := flPt ad s10 k0) (fp_Points_23_5 _) (5 + 16 * k0) (jd k_Points_clear 5 rfl) (lkPt ad G s10 hk0) rfl rfl (Nat.le_of_ble_eq_true rfl) ((wrPt_4 ad G s10 hk0 _).trans (congrArg (mkC ad G) e13)) ?_
  cases H
  subst hP9
  exact j_vret (pc := 10) (jd k_Points_clear 6 rfl) rfl ⟨rfl, rfl⟩

set_option maxRecDepth 20000 in
theorem c_SR_field (ad : Nat → Nat) (G : jG) (p0 : Int32) (s : jU) (r : String ⊕ (jU)) (H : f_SR_field p0 s = some r) : jCon G m_SR_field y_SR_field 4 1 6 [.ref (ad 0), .int p0] (mkC ad G s) (jRs (mkC ad G s) (fun _ => none) (fun a => mkC ad G a) r) := by
  refine jCon.of (by decide +kernel) rfl rfl rfl (Nat.le_of_ble_eq_true rfl) rfl ?_
  have H : (
  if p0 < 0 then
    some (.inl "java/lang/IllegalArgumentException")
  else
    if p0 < 3 then
      Option.bind (jidx p0 3) fun k12 =>
      Option.bind (f_Points_clear 0 k12 s) fun s15 =>
      some (.inr s15)
    else
      some (.inl "java/lang/IllegalArgumentException")) = some r := H
  generalize hP9 : jRs (mkC ad G s) (fun _ => none) (fun a => mkC ad G a) r = P
  refine j_iload_n (pc := 0) 1 (jd k_SR_field 0 rfl) rfl ?_
  refine j_if_lt (pc := 1) (tgt := 13) (jd k_SR_field 1 rfl) rfl (fun h10 => ?_) (fun h10 => ?_)
  · rw [if_pos h10] at H
    cases H
    subst hP9
    exact j_throw (pc := 13) fit_IllegalArgumentException ex_SR_51 wt444 wt445 wt79 wt485 (jd k_SR_field 7 rfl) (jd k_SR_field 8 rfl) (jd k_SR_field 9 rfl) (jd k_SR_field 10 rfl) (jd k_SR_field 11 rfl) rfl (by decide) (Nat.le_of_ble_eq_true rfl) (by decide) (by decide) ⟨rfl, rfl⟩
  · rw [if_neg h10] at H
    refine j_iload_n (pc := 4) 1 (jd k_SR_field 2 rfl) rfl ?_
    refine j_aload_n (pc := 5) 0 (jd k_SR_field 3 rfl) rfl ?_
    refine j_get (pc := 6) (fs := [.ref (ad 1), .ref (ad 5), .ref (ad 9)]) (v := .ref (ad 1)) fl_SR_17_0 0 (jd k_SR_field 4 rfl) rfl rfl ?_
    refine j_alen (pc := 9) (t0 := 3) (v := 3) 1 (jd k_SR_field 5 rfl) rfl rfl rfl ?_
    refine j_icmp_lt (pc := 10) (tgt := 23) (jd k_SR_field 6 rfl) rfl (fun h11 => ?_) (fun h11 => ?_)
    · rw [if_pos h11] at H
      refine j_aload_n (pc := 23) 0 (jd k_SR_field 12 rfl) rfl ?_
      refine j_get (pc := 24) (fs := [.ref (ad 1), .ref (ad 5), .ref (ad 9)]) (v := .ref (ad (5 + 16 * 0))) fl_SR_28_0 0 (jd k_SR_field 13 rfl) rfl rfl ?_
      refine j_aload_n (pc := 27) 0 (jd k_SR_field 14 rfl) rfl ?_
      refine j_get (pc := 28) (fs := [.ref (ad 1), .ref (ad 5), .ref (ad 9)]) (v := .ref (ad 1)) fl_SR_17_0 0 (jd k_SR_field 15 rfl) rfl rfl ?_
      refine j_iload_n (pc := 31) 1 (jd k_SR_field 16 rfl) rfl ?_
      obtain ⟨k12, h13, H⟩ := obnd H
      have hk12 : k12 < 3 := jidx.lt h13
      refine j_aald (pc := 32) (t0 := 3) (v := ad (2 + k12)) 1 (jd k_SR_field 17 rfl) rfl rfl rfl (jidx.vp h13) (jidx.fn h13 (fun k => ad (2 + k))) ?_
      obtain ⟨s15, h14, H⟩ := obnd H
      refine jc_V (pc := 33) (st := []) (c_Points_clear ad G 0 (by decide) k12 hk12 s _ h14) L0_Points_clear w511 w512 w513 (5 + 16 * 0) (lkPt ad G s (by decide)) rfl (jd k_SR_field 18 rfl) rfl (Nat.le_of_ble_eq_true rfl) (by decide) (by decide) (by decide) rfl rfl ?_
      cases H
      subst hP9
      refine j_widen (k' := 1) (n' := 6) (by decide) (by decide) ?_
      exact j_vret (pc := 36) (jd k_SR_field 19 rfl) rfl ⟨rfl, rfl⟩
    · rw [if_neg h11] at H
      cases H
      subst hP9
      exact j_throw (pc := 13) fit_IllegalArgumentException ex_SR_51 wt444 wt445 wt79 wt485 (jd k_SR_field 7 rfl) (jd k_SR_field 8 rfl) (jd k_SR_field 9 rfl) (jd k_SR_field 10 rfl) (jd k_SR_field 11 rfl) rfl (by decide) (Nat.le_of_ble_eq_true rfl) (by decide) (by decide) ⟨rfl, rfl⟩

set_option maxRecDepth 20000 in
theorem c_Field_has (ad : Nat → Nat) (G : jG) (k0 : Nat) (hk0 : k0 < 3) (p0 : Int32) (s : jU) (r : Int32) (H : f_Field_has k0 p0 = some r) : jCon G m_Field_has y_Field_has 0 0 0 [.ref (ad (2 + k0)), .int p0] (mkC ad G s) (jEq (some (.int r)) (mkC ad G s)) := by
  refine jCon.of (by decide +kernel) rfl rfl rfl (Nat.le_of_ble_eq_true rfl) rfl ?_
  have H : (
  Option.bind (α := Int32) (
    if p0 < 0 then
      some 0
    else
      if (fsz k0) ≤ p0 then
        some 0
      else
        some 1) fun x12 =>
  if jbo x12 then
  some x12
  else none) = some r := H
  generalize hP9 : jEq (some (.int r)) (mkC ad G s) = P
  refine j_iload_n (pc := 0) 1 (jd k_Field_has 0 rfl) rfl ?_
  obtain ⟨x12, h13, H⟩ := obnd H
  have K14 : J G m_Field_has 0 0 0 P 17 [] [.int x12] (mkC ad G s) 0 0 := by
    obtain ⟨h15, H⟩ := ochk H
    cases H
    subst hP9
    exact j_iret (pc := 17) (jd k_Field_has 9 rfl) rfl (jbo.nar h15) ⟨rfl, rfl⟩
  have H := h13
  refine j_if_lt (pc := 1) (tgt := 16) (jd k_Field_has 1 rfl) rfl (fun h10 => ?_) (fun h10 => ?_)
  · rw [if_pos h10] at H
    refine j_iconst (pc := 16) (v := 0) (jd k_Field_has 8 rfl) (by decide) ?_
    cases H
    exact j_pick [] rfl K14
  · rw [if_neg h10] at H
    refine j_iload_n (pc := 4) 1 (jd k_Field_has 2 rfl) rfl ?_
    refine j_aload_n (pc := 5) 0 (jd k_Field_has 3 rfl) rfl ?_
    refine g_size (pc := 6) fl_Field_7_2 fl_Field_7_6 (f := k0) hk0 (jd k_Field_has 4 rfl) ?_
    refine j_icmp_ge (pc := 9) (tgt := 16) (jd k_Field_has 5 rfl) rfl (fun h11 => ?_) (fun h11 => ?_)
    · rw [if_pos h11] at H
      refine j_iconst (pc := 16) (v := 0) (jd k_Field_has 8 rfl) (by decide) ?_
      cases H
      exact j_pick [] rfl K14
    · rw [if_neg h11] at H
      refine j_iconst (pc := 12) (v := 1) (jd k_Field_has 6 rfl) (by decide) ?_
      refine j_goto (pc := 13) (tgt := 17) (jd k_Field_has 7 rfl) rfl ?_
      cases H
      exact j_pick [] rfl K14

set_option maxRecDepth 20000 in
theorem vF_has {ad : Nat → Nat} {G : jG} {M : jM} {d mc ms : Nat} {P : jR → va_W → Prop} {pc : Nat} {lv : List (Nat × Value)} {st : List Value} {k n ix : Nat} (f : Nat) (hf : f < 3) (p0 : Int32) (s : jU) (r : Int32) (H : f_Field_has f p0 = some r) (hk : Cond.methodLink M.1 ix ⟨"SharingRoom$Field", "has", "(I)Z"⟩ ∈ jWS) (hd : decode M.2.1 pc = .ok (.invokevirtual ix, 3)) (hst : (st.map fun v => v.category).sum ≤ 8) (hdd : 0 + 1 ≤ d) (hm : k ≤ mc) (hn2 : n ≤ ms) (kk : J G M d mc ms P (pc + 3) lv (.int r :: st) (mkC ad G s) k n) : J G M d mc ms P pc lv (.int p0 :: .ref (ad (2 + f)) :: st) (mkC ad G s) k n := by
  match f, hf with
  | 0, _ => exact jc_U (c_Field_has ad G 0 (by decide) p0 s r H) L0_Field_has hk ⟨rfl, rfl, by decide, by decide⟩ w529 w530 w528 (Or.inr rfl) 2 rfl rfl hd rfl hst (Nat.le_trans (by decide) hdd) hm hn2 rfl rfl kk
  | 1, _ => exact jc_U (c_Field_has ad G 1 (by decide) p0 s r H) L0_Field_has hk ⟨rfl, rfl, by decide, by decide⟩ w529 w531 w528 (Or.inr rfl) 3 rfl rfl hd rfl hst (Nat.le_trans (by decide) hdd) hm hn2 rfl rfl kk
  | 2, _ => exact jc_U (c_Field_has ad G 2 (by decide) p0 s r H) L0_Field_has hk ⟨rfl, rfl, by decide, by decide⟩ w529 w531 w528 (Or.inr rfl) 4 rfl rfl hd rfl hst (Nat.le_trans (by decide) hdd) hm hn2 rfl rfl kk

set_option maxRecDepth 20000 in
theorem c_Points_inField (ad : Nat → Nat) (G : jG) (k0 : Nat) (hk0 : k0 < 2) (p0 : Int32) (s : jU) (r : Int32) (H : f_Points_inField k0 p0 s = some r) : jCon G m_Points_inField y_Points_inField 1 0 0 [.ref (ad (5 + 16 * k0)), .int p0] (mkC ad G s) (jEq (some (.int r)) (mkC ad G s)) := by
  refine jCon.of (by decide +kernel) rfl rfl rfl (Nat.le_of_ble_eq_true rfl) rfl ?_
  have H : (
  Option.bind (f_Field_has (fnum (s (51 + k0) 0 0)) p0) fun x11 =>
  if jbo x11 then
  some x11
  else none) = some r := H
  generalize hP9 : jEq (some (.int r)) (mkC ad G s) = P
  refine j_aload_n (pc := 0) 0 (jd k_Points_inField 0 rfl) rfl ?_
  refine j_get (pc := 1) (fs := flPt ad s k0) (v := .ref (ad (2 + (fnum (s (51 + k0) 0 0))))) fl_Points_19_5 (5 + 16 * k0) (jd k_Points_inField 1 rfl) (lkPt ad G s hk0) rfl ?_
  refine j_iload_n (pc := 4) 1 (jd k_Points_inField 2 rfl) rfl ?_
  obtain ⟨x11, h10, H⟩ := obnd H
  refine vF_has (pc := 5) (st := []) (fnum (s (51 + k0) 0 0)) (fnum_lt _) p0 s _ h10 w527 (jd k_Points_inField 3 rfl) (Nat.le_of_ble_eq_true rfl) (by decide) (Nat.le_refl _) (Nat.le_refl _) ?_
  obtain ⟨h12, H⟩ := ochk H
  cases H
  subst hP9
  exact j_iret (pc := 8) (jd k_Points_inField 4 rfl) rfl (jbo.nar h12) ⟨rfl, rfl⟩

set_option maxRecDepth 20000 in
theorem lp_Points_hasAt_2 {ad : Nat → Nat} {G : jG} {P : jR → va_W → Prop} (k0 : Nat) (hk0 : k0 < 2) (p0 : Int32) (s : jU) : ∀ (n : Nat) (x10 : Int32) (r : Int32 ⊕ (Int32)), L_Points_hasAt_2 k0 p0 s n x10 = some r → (∀ v9, r = .inl v9 → P (.inl (some (.int v9))) (mkC ad G s)) → (∀ t9, r = .inr t9 → J G m_Points_hasAt 0 0 0 P 28 [(0, .ref (ad (5 + 16 * k0))), (1, .int p0), (2, .int t9)] [] (mkC ad G s) 0 0) → J G m_Points_hasAt 0 0 0 P 2 [(0, .ref (ad (5 + 16 * k0))), (1, .int p0), (2, .int x10)] [] (mkC ad G s) 0 0 := by
  intro n
  induction n with
  | zero =>
    intro x10 r H
    cases (show none = some r from H)
  | succ n ih =>
    intro x10 r H kr kx
    have H : (
    if (s (33 + 4 * k0) 0 0) ≤ x10 then
      some (.inr x10)
    else
      if jin x10 12 then
      if ¬ (s (30 + 4 * k0) 0 x10.toNatClampNeg) = p0 then
        jlet (x10 + 1) fun x14 =>
        L_Points_hasAt_2 k0 p0 s n x14
      else
        some (.inl 1)
      else none) = some r := H
    refine j_iload_n (pc := 2) 2 (jd k_Points_hasAt 2 rfl) rfl ?_
    refine j_aload_n (pc := 3) 0 (jd k_Points_hasAt 3 rfl) rfl ?_
    refine j_get (pc := 4) (fs := flPt ad s k0) (v := .int (s (33 + 4 * k0) 0 0)) fl_Points_23_5 (5 + 16 * k0) (jd k_Points_hasAt 4 rfl) (lkPt ad G s hk0) rfl ?_
    refine j_icmp_ge (pc := 7) (tgt := 28) (jd k_Points_hasAt 5 rfl) rfl (fun h11 => ?_) (fun h11 => ?_)
    · rw [if_pos h11] at H
      cases H
      exact kx _ rfl
    · rw [if_neg h11] at H
      refine j_aload_n (pc := 10) 0 (jd k_Points_hasAt 6 rfl) rfl ?_
      refine j_get (pc := 11) (fs := flPt ad s k0) (v := .ref (ad (6 + 16 * k0))) fl_Points_9_5 (5 + 16 * k0) (jd k_Points_hasAt 7 rfl) (lkPt ad G s hk0) rfl ?_
      refine j_iload_n (pc := 14) 2 (jd k_Points_hasAt 8 rfl) rfl ?_
      obtain ⟨h12, H⟩ := ochk H
      refine j_iald (pc := 15) (f := s (30 + 4 * k0) 0) (6 + 16 * k0) (jd k_Points_hasAt 9 rfl) (lkPa_6 ad G s hk0) (jin.vp h12) ?_
      refine j_iload_n (pc := 16) 1 (jd k_Points_hasAt 10 rfl) rfl ?_
      refine j_icmp_ne (pc := 17) (tgt := 22) (jd k_Points_hasAt 11 rfl) rfl (fun h13 => ?_) (fun h13 => ?_)
      · rw [if_pos h13] at H
        obtain ⟨x14, e15, H⟩ := olet H
        refine j_iinc (pc := 22) (lv' := [(0, .ref (ad (5 + 16 * k0))), (1, .int p0), (2, .int x14)]) 2 (jd k_Points_hasAt 14 rfl) rfl e15 rfl (Nat.le_of_ble_eq_true rfl) rfl ?_
        refine j_goto (pc := 25) (tgt := 2) (jd k_Points_hasAt 15 rfl) rfl ?_
        exact ih x14 _ H kr kx
      · rw [if_neg (not_not_intro h13)] at H
        refine j_iconst (pc := 20) (v := 1) (jd k_Points_hasAt 12 rfl) (by decide) ?_
        cases H
        exact j_iret (pc := 21) (jd k_Points_hasAt 13 rfl) rfl rfl (kr _ rfl)

set_option maxRecDepth 20000 in
theorem c_Points_hasAt (ad : Nat → Nat) (G : jG) (k0 : Nat) (hk0 : k0 < 2) (p0 : Int32) (s : jU) (r : Int32) (H : f_Points_hasAt k0 p0 s = some r) : jCon G m_Points_hasAt y_Points_hasAt 0 0 0 [.ref (ad (5 + 16 * k0)), .int p0] (mkC ad G s) (jEq (some (.int r)) (mkC ad G s)) := by
  refine jCon.of (by decide +kernel) rfl rfl rfl (Nat.le_of_ble_eq_true rfl) rfl ?_
  have H : (
  jend (L_Points_hasAt_2 k0 p0 s jF 0) fun x16 =>
  some 0) = some r := H
  generalize hP9 : jEq (some (.int r)) (mkC ad G s) = P
  refine j_iconst (pc := 0) (v := 0) (jd k_Points_hasAt 0 rfl) (by decide) ?_
  refine j_istore_n (pc := 1) (lv' := [(0, .ref (ad (5 + 16 * k0))), (1, .int p0), (2, .int 0)]) (jd k_Points_hasAt 1 rfl) rfl (Nat.le_of_ble_eq_true rfl) rfl ?_
  rcases oend H with h17 | ⟨x16, h17, H⟩
  · exact lp_Points_hasAt_2 k0 hk0 p0 s jF 0 _ h17 (fun v q => by cases q; subst hP9; exact ⟨rfl, rfl⟩) (fun v q => by cases q)
  · refine lp_Points_hasAt_2 k0 hk0 p0 s jF 0 _ h17 (fun v q => by cases q) (fun v q => ?_)
    cases q
    refine j_pick (lv' := []) [] rfl ?_
    refine j_iconst (pc := 28) (v := 0) (jd k_Points_hasAt 16 rfl) (by decide) ?_
    cases H
    subst hP9
    exact j_iret (pc := 29) (jd k_Points_hasAt 17 rfl) rfl rfl ⟨rfl, rfl⟩

set_option maxRecDepth 20000 in
theorem c_Points_isFull (ad : Nat → Nat) (G : jG) (k0 : Nat) (hk0 : k0 < 2) (s : jU) (r : Int32) (H : f_Points_isFull k0 s = some r) : jCon G m_Points_isFull y_Points_isFull 0 0 0 [.ref (ad (5 + 16 * k0))] (mkC ad G s) (jEq (some (.int r)) (mkC ad G s)) := by
  refine jCon.of (by decide +kernel) rfl rfl rfl (Nat.le_of_ble_eq_true rfl) rfl ?_
  have H : (
  Option.bind (α := Int32) (
    if ¬ (s (33 + 4 * k0) 0 0) = 12 then
      some 0
    else
      some 1) fun x11 =>
  if jbo x11 then
  some x11
  else none) = some r := H
  generalize hP9 : jEq (some (.int r)) (mkC ad G s) = P
  refine j_aload_n (pc := 0) 0 (jd k_Points_isFull 0 rfl) rfl ?_
  refine j_get (pc := 1) (fs := flPt ad s k0) (v := .int (s (33 + 4 * k0) 0 0)) fl_Points_23_5 (5 + 16 * k0) (jd k_Points_isFull 1 rfl) (lkPt ad G s hk0) rfl ?_
  refine j_bipush (pc := 4) (v := 12) (jd k_Points_isFull 2 rfl) (by decide) ?_
  obtain ⟨x11, h12, H⟩ := obnd H
  have K13 : J G m_Points_isFull 0 0 0 P 14 [] [.int x11] (mkC ad G s) 0 0 := by
    obtain ⟨h14, H⟩ := ochk H
    cases H
    subst hP9
    exact j_iret (pc := 14) (jd k_Points_isFull 7 rfl) rfl (jbo.nar h14) ⟨rfl, rfl⟩
  have H := h12
  refine j_icmp_ne (pc := 6) (tgt := 13) (jd k_Points_isFull 3 rfl) rfl (fun h10 => ?_) (fun h10 => ?_)
  · rw [if_pos h10] at H
    refine j_iconst (pc := 13) (v := 0) (jd k_Points_isFull 6 rfl) (by decide) ?_
    cases H
    exact j_pick [] rfl K13
  · rw [if_neg (not_not_intro h10)] at H
    refine j_iconst (pc := 9) (v := 1) (jd k_Points_isFull 4 rfl) (by decide) ?_
    refine j_goto (pc := 10) (tgt := 14) (jd k_Points_isFull 5 rfl) rfl ?_
    cases H
    exact j_pick [] rfl K13

set_option maxRecDepth 20000 in
theorem c_Points_add (ad : Nat → Nat) (G : jG) (k0 : Nat) (hk0 : k0 < 2) (p0 : Int32) (p1 : Int32) (s : jU) (r : jU) (H : f_Points_add k0 p0 p1 s = some r) : jCon G m_Points_add y_Points_add 0 0 0 [.ref (ad (5 + 16 * k0)), .int p0, .int p1] (mkC ad G s) (jEq none (mkC ad G r)) := by
  refine jCon.of (by decide +kernel) rfl rfl rfl (Nat.le_of_ble_eq_true rfl) rfl ?_
  have H : (
  Option.bind (α := jU) (
    if 12 ≤ (s (33 + 4 * k0) 0 0) then
      some s
    else
      if jin (s (33 + 4 * k0) 0 0) 12 then
      jlet (ups s (30 + 4 * k0) 0 (upd (s (30 + 4 * k0) 0) (s (33 + 4 * k0) 0 0).toNatClampNeg p0)) fun s11 =>
      if jin (s11 (33 + 4 * k0) 0 0) 12 then
      jlet (ups s11 (31 + 4 * k0) 0 (upd (s11 (31 + 4 * k0) 0) (s11 (33 + 4 * k0) 0 0).toNatClampNeg p1)) fun s14 =>
      jlet (ups s14 (33 + 4 * k0) 0 (fun _ => (s14 (33 + 4 * k0) 0 0) + 1)) fun s17 =>
      some s17
      else none
      else none) fun s19 =>
  some s19) = some r := H
  generalize hP9 : jEq none (mkC ad G r) = P
  refine j_aload_n (pc := 0) 0 (jd k_Points_add 0 rfl) rfl ?_
  refine j_get (pc := 1) (fs := flPt ad s k0) (v := .int (s (33 + 4 * k0) 0 0)) fl_Points_23_5 (5 + 16 * k0) (jd k_Points_add 1 rfl) (lkPt ad G s hk0) rfl ?_
  refine j_bipush (pc := 4) (v := 12) (jd k_Points_add 2 rfl) (by decide) ?_
  obtain ⟨s19, h20, H⟩ := obnd H
  have K21 : J G m_Points_add 0 0 0 P 39 [] [] (mkC ad G s19) 0 0 := by
    cases H
    subst hP9
    exact j_vret (pc := 39) (jd k_Points_add 22 rfl) rfl ⟨rfl, rfl⟩
  have H := h20
  refine j_icmp_ge (pc := 6) (tgt := 39) (jd k_Points_add 3 rfl) rfl (fun h10 => ?_) (fun h10 => ?_)
  · rw [if_pos h10] at H
    cases H
    exact j_pick [] rfl K21
  · rw [if_neg h10] at H
    refine j_aload_n (pc := 9) 0 (jd k_Points_add 4 rfl) rfl ?_
    refine j_get (pc := 10) (fs := flPt ad s k0) (v := .ref (ad (6 + 16 * k0))) fl_Points_9_5 (5 + 16 * k0) (jd k_Points_add 5 rfl) (lkPt ad G s hk0) rfl ?_
    refine j_aload_n (pc := 13) 0 (jd k_Points_add 6 rfl) rfl ?_
    refine j_get (pc := 14) (fs := flPt ad s k0) (v := .int (s (33 + 4 * k0) 0 0)) fl_Points_23_5 (5 + 16 * k0) (jd k_Points_add 7 rfl) (lkPt ad G s hk0) rfl ?_
    refine j_iload_n (pc := 17) 1 (jd k_Points_add 8 rfl) rfl ?_
    obtain ⟨h13, H⟩ := ochk H
    obtain ⟨s11, e12, H⟩ := olet H
    refine j_iast (pc := 18) (f := s (30 + 4 * k0) 0) (6 + 16 * k0) (jd k_Points_add 9 rfl) (lkPa_6 ad G s hk0) (jin.vp h13) ((wrPa_6 ad G s hk0 _).trans (congrArg (mkC ad G) e12)) ?_
    refine j_aload_n (pc := 19) 0 (jd k_Points_add 10 rfl) rfl ?_
    refine j_get (pc := 20) (fs := flPt ad s11 k0) (v := .ref (ad (7 + 16 * k0))) fl_Points_13_5 (5 + 16 * k0) (jd k_Points_add 11 rfl) (lkPt ad G s11 hk0) rfl ?_
    refine j_aload_n (pc := 23) 0 (jd k_Points_add 12 rfl) rfl ?_
    refine j_get (pc := 24) (fs := flPt ad s11 k0) (v := .int (s11 (33 + 4 * k0) 0 0)) fl_Points_23_5 (5 + 16 * k0) (jd k_Points_add 13 rfl) (lkPt ad G s11 hk0) rfl ?_
    refine j_iload_n (pc := 27) 2 (jd k_Points_add 14 rfl) rfl ?_
    obtain ⟨h16, H⟩ := ochk H
    obtain ⟨s14, e15, H⟩ := olet H
    refine j_iast (pc := 28) (f := s11 (31 + 4 * k0) 0) (7 + 16 * k0) (jd k_Points_add 15 rfl) (lkPa_7 ad G s11 hk0) (jin.vp h16) ((wrPa_7 ad G s11 hk0 _).trans (congrArg (mkC ad G) e15)) ?_
    refine j_aload_n (pc := 29) 0 (jd k_Points_add 16 rfl) rfl ?_
    refine j_dup (pc := 30) (jd k_Points_add 17 rfl) rfl ?_
    refine j_get (pc := 31) (fs := flPt ad s14 k0) (v := .int (s14 (33 + 4 * k0) 0 0)) fl_Points_23_5 (5 + 16 * k0) (jd k_Points_add 18 rfl) (lkPt ad G s14 hk0) rfl ?_
    refine j_iconst (pc := 34) (v := 1) (jd k_Points_add 19 rfl) (by decide) ?_
    refine j_iadd (pc := 35) (jd k_Points_add 20 rfl) ?_
    obtain ⟨s17, e18, H⟩ := olet H
    refine j_put (pc := 36) (fs := flPt ad s14 k0) (fp_Points_23_5 _) (5 + 16 * k0) (jd k_Points_add 21 rfl) (lkPt ad G s14 hk0) rfl rfl (Nat.le_of_ble_eq_true rfl) ((wrPt_4 ad G s14 hk0 _).trans (congrArg (mkC ad G) e18)) ?_
    cases H
    exact j_pick [] rfl K21

set_option maxRecDepth 20000 in
theorem c_Points_size (ad : Nat → Nat) (G : jG) (k0 : Nat) (hk0 : k0 < 2) (s : jU) (r : Int32) (H : f_Points_size k0 s = some r) : jCon G m_Points_size y_Points_size 0 0 0 [.ref (ad (5 + 16 * k0))] (mkC ad G s) (jEq (some (.int r)) (mkC ad G s)) := by
  refine jCon.of (by decide +kernel) rfl rfl rfl (Nat.le_of_ble_eq_true rfl) rfl ?_
  have H : (
  some (s (33 + 4 * k0) 0 0)) = some r := H
  generalize hP9 : jEq (some (.int r)) (mkC ad G s) = P
  refine j_aload_n (pc := 0) 0 (jd k_Points_size 0 rfl) rfl ?_
  refine j_get (pc := 1) (fs := flPt ad s k0) (v := .int (s (33 + 4 * k0) 0 0)) fl_Points_23_5 (5 + 16 * k0) (jd k_Points_size 1 rfl) (lkPt ad G s hk0) rfl ?_
  cases H
  subst hP9
  exact j_iret (pc := 4) (jd k_Points_size 2 rfl) rfl rfl ⟨rfl, rfl⟩

set_option maxRecDepth 20000 in
theorem c_SR_point (ad : Nat → Nat) (G : jG) (p0 : Int32) (p1 : Int32) (s : jU) (r : String ⊕ (Int32 × jU)) (H : f_SR_point p0 p1 s = some r) : jCon G m_SR_point y_SR_point 4 1 6 [.ref (ad 0), .int p0, .int p1] (mkC ad G s) (jRs (mkC ad G s) (fun a => some (.int a.1)) (fun a => mkC ad G a.2) r) := by
  refine jCon.of (by decide +kernel) rfl rfl rfl (Nat.le_of_ble_eq_true rfl) rfl ?_
  have H : (
  if p0 < 1 then
    some (.inl "java/lang/IllegalArgumentException")
  else
    Option.bind (f_Points_inField 0 p0 s) fun x12 =>
    if x12 = 0 then
      some (.inl "java/lang/IllegalArgumentException")
    else
      Option.bind (f_Points_inField 0 p1 s) fun x15 =>
      if ¬ x15 = 0 then
        Option.bind (f_Points_hasAt 0 p0 s) fun x18 =>
        if ¬ x18 = 0 then
          some (.inl "java/lang/IllegalStateException")
        else
          Option.bind (f_Points_isFull 0 s) fun x21 =>
          if x21 = 0 then
            Option.bind (f_Points_add 0 p0 p1 s) fun s24 =>
            Option.bind (f_Points_size 0 s24) fun x26 =>
            some (.inr (x26, s24))
          else
            some (.inl "java/lang/IllegalStateException")
      else
        some (.inl "java/lang/IllegalArgumentException")) = some r := H
  generalize hP9 : jRs (mkC ad G s) (fun a => some (.int a.1)) (fun a => mkC ad G a.2) r = P
  refine j_iload_n (pc := 0) 1 (jd k_SR_point 0 rfl) rfl ?_
  refine j_iconst (pc := 1) (v := 1) (jd k_SR_point 1 rfl) (by decide) ?_
  refine j_icmp_lt (pc := 2) (tgt := 27) (jd k_SR_point 2 rfl) rfl (fun h10 => ?_) (fun h10 => ?_)
  · rw [if_pos h10] at H
    cases H
    subst hP9
    exact j_throw (pc := 27) fit_IllegalArgumentException ex_SR_51 wt444 wt445 wt79 wt533 (jd k_SR_point 13 rfl) (jd k_SR_point 14 rfl) (jd k_SR_point 15 rfl) (jd k_SR_point 16 rfl) (jd k_SR_point 17 rfl) rfl (by decide) (Nat.le_of_ble_eq_true rfl) (by decide) (by decide) ⟨rfl, rfl⟩
  · rw [if_neg h10] at H
    refine j_aload_n (pc := 5) 0 (jd k_SR_point 3 rfl) rfl ?_
    refine j_get (pc := 6) (fs := [.ref (ad 1), .ref (ad 5), .ref (ad 9)]) (v := .ref (ad (5 + 16 * 0))) fl_SR_28_0 0 (jd k_SR_point 4 rfl) rfl rfl ?_
    refine j_iload_n (pc := 9) 1 (jd k_SR_point 5 rfl) rfl ?_
    obtain ⟨x12, h11, H⟩ := obnd H
    refine jc_V (pc := 10) (st := []) (c_Points_inField ad G 0 (by decide) p0 s _ h11) L0_Points_inField w523 w524 w525 (5 + 16 * 0) (lkPt ad G s (by decide)) rfl (jd k_SR_point 6 rfl) rfl (Nat.le_of_ble_eq_true rfl) (by decide) (by decide) (by decide) rfl rfl ?_
    refine j_if_eq (pc := 13) (tgt := 27) (jd k_SR_point 7 rfl) rfl (fun h13 => ?_) (fun h13 => ?_)
    · rw [if_pos h13] at H
      cases H
      subst hP9
      exact j_throw (pc := 27) fit_IllegalArgumentException ex_SR_51 wt444 wt445 wt79 wt533 (jd k_SR_point 13 rfl) (jd k_SR_point 14 rfl) (jd k_SR_point 15 rfl) (jd k_SR_point 16 rfl) (jd k_SR_point 17 rfl) rfl (by decide) (Nat.le_of_ble_eq_true rfl) (by decide) (by decide) ⟨rfl, rfl⟩
    · rw [if_neg h13] at H
      refine j_aload_n (pc := 16) 0 (jd k_SR_point 8 rfl) rfl ?_
      refine j_get (pc := 17) (fs := [.ref (ad 1), .ref (ad 5), .ref (ad 9)]) (v := .ref (ad (5 + 16 * 0))) fl_SR_28_0 0 (jd k_SR_point 9 rfl) rfl rfl ?_
      refine j_iload_n (pc := 20) 2 (jd k_SR_point 10 rfl) rfl ?_
      obtain ⟨x15, h14, H⟩ := obnd H
      refine jc_V (pc := 21) (st := []) (c_Points_inField ad G 0 (by decide) p1 s _ h14) L0_Points_inField w523 w524 w525 (5 + 16 * 0) (lkPt ad G s (by decide)) rfl (jd k_SR_point 11 rfl) rfl (Nat.le_of_ble_eq_true rfl) (by decide) (by decide) (by decide) rfl rfl ?_
      refine j_if_ne (pc := 24) (tgt := 37) (jd k_SR_point 12 rfl) rfl (fun h16 => ?_) (fun h16 => ?_)
      · rw [if_pos h16] at H
        refine j_aload_n (pc := 37) 0 (jd k_SR_point 18 rfl) rfl ?_
        refine j_get (pc := 38) (fs := [.ref (ad 1), .ref (ad 5), .ref (ad 9)]) (v := .ref (ad (5 + 16 * 0))) fl_SR_28_0 0 (jd k_SR_point 19 rfl) rfl rfl ?_
        refine j_iload_n (pc := 41) 1 (jd k_SR_point 20 rfl) rfl ?_
        obtain ⟨x18, h17, H⟩ := obnd H
        refine jc_V (pc := 42) (st := []) (c_Points_hasAt ad G 0 (by decide) p0 s _ h17) L0_Points_hasAt w534 w535 w536 (5 + 16 * 0) (lkPt ad G s (by decide)) rfl (jd k_SR_point 21 rfl) rfl (Nat.le_of_ble_eq_true rfl) (by decide) (by decide) (by decide) rfl rfl ?_
        refine j_if_ne (pc := 45) (tgt := 58) (jd k_SR_point 22 rfl) rfl (fun h19 => ?_) (fun h19 => ?_)
        · rw [if_pos h19] at H
          cases H
          subst hP9
          exact j_throw (pc := 58) fit_IllegalStateException ex_SR_74 wt542 wt543 wt80 wt551 (jd k_SR_point 27 rfl) (jd k_SR_point 28 rfl) (jd k_SR_point 29 rfl) (jd k_SR_point 30 rfl) (jd k_SR_point 31 rfl) rfl (by decide) (Nat.le_of_ble_eq_true rfl) (by decide) (by decide) ⟨rfl, rfl⟩
        · rw [if_neg (not_not_intro h19)] at H
          refine j_aload_n (pc := 48) 0 (jd k_SR_point 23 rfl) rfl ?_
          refine j_get (pc := 49) (fs := [.ref (ad 1), .ref (ad 5), .ref (ad 9)]) (v := .ref (ad (5 + 16 * 0))) fl_SR_28_0 0 (jd k_SR_point 24 rfl) rfl rfl ?_
          obtain ⟨x21, h20, H⟩ := obnd H
          refine jc_V (pc := 52) (st := []) (c_Points_isFull ad G 0 (by decide) s _ h20) L0_Points_isFull w538 w539 w540 (5 + 16 * 0) (lkPt ad G s (by decide)) rfl (jd k_SR_point 25 rfl) rfl (Nat.le_of_ble_eq_true rfl) (by decide) (by decide) (by decide) rfl rfl ?_
          refine j_if_eq (pc := 55) (tgt := 68) (jd k_SR_point 26 rfl) rfl (fun h22 => ?_) (fun h22 => ?_)
          · rw [if_pos h22] at H
            refine j_aload_n (pc := 68) 0 (jd k_SR_point 32 rfl) rfl ?_
            refine j_get (pc := 69) (fs := [.ref (ad 1), .ref (ad 5), .ref (ad 9)]) (v := .ref (ad (5 + 16 * 0))) fl_SR_28_0 0 (jd k_SR_point 33 rfl) rfl rfl ?_
            refine j_iload_n (pc := 72) 1 (jd k_SR_point 34 rfl) rfl ?_
            refine j_iload_n (pc := 73) 2 (jd k_SR_point 35 rfl) rfl ?_
            obtain ⟨s24, h23, H⟩ := obnd H
            refine jc_V (pc := 74) (st := []) (c_Points_add ad G 0 (by decide) p0 p1 s _ h23) L0_Points_add w558 w559 w560 (5 + 16 * 0) (lkPt ad G s (by decide)) rfl (jd k_SR_point 36 rfl) rfl (Nat.le_of_ble_eq_true rfl) (by decide) (by decide) (by decide) rfl rfl ?_
            refine j_aload_n (pc := 77) 0 (jd k_SR_point 37 rfl) rfl ?_
            refine j_get (pc := 78) (fs := [.ref (ad 1), .ref (ad 5), .ref (ad 9)]) (v := .ref (ad (5 + 16 * 0))) fl_SR_28_0 0 (jd k_SR_point 38 rfl) rfl rfl ?_
            obtain ⟨x26, h25, H⟩ := obnd H
            refine jc_V (pc := 81) (st := []) (c_Points_size ad G 0 (by decide) s24 _ h25) L0_Points_size w562 w563 w564 (5 + 16 * 0) (lkPt ad G s24 (by decide)) rfl (jd k_SR_point 39 rfl) rfl (Nat.le_of_ble_eq_true rfl) (by decide) (by decide) (by decide) rfl rfl ?_
            cases H
            subst hP9
            refine j_widen (k' := 1) (n' := 6) (by decide) (by decide) ?_
            exact j_iret (pc := 84) (jd k_SR_point 40 rfl) rfl rfl ⟨rfl, rfl⟩
          · rw [if_neg h22] at H
            cases H
            subst hP9
            exact j_throw (pc := 58) fit_IllegalStateException ex_SR_74 wt542 wt543 wt80 wt551 (jd k_SR_point 27 rfl) (jd k_SR_point 28 rfl) (jd k_SR_point 29 rfl) (jd k_SR_point 30 rfl) (jd k_SR_point 31 rfl) rfl (by decide) (Nat.le_of_ble_eq_true rfl) (by decide) (by decide) ⟨rfl, rfl⟩
      · rw [if_neg (not_not_intro h16)] at H
        cases H
        subst hP9
        exact j_throw (pc := 27) fit_IllegalArgumentException ex_SR_51 wt444 wt445 wt79 wt533 (jd k_SR_point 13 rfl) (jd k_SR_point 14 rfl) (jd k_SR_point 15 rfl) (jd k_SR_point 16 rfl) (jd k_SR_point 17 rfl) rfl (by decide) (Nat.le_of_ble_eq_true rfl) (by decide) (by decide) ⟨rfl, rfl⟩

set_option maxRecDepth 20000 in
theorem lp_Points_weight_8 {ad : Nat → Nat} {G : jG} {P : jR → va_W → Prop} (k0 : Nat) (hk0 : k0 < 2) (p0 : Int32) (p1 : Int32) (s : jU) : ∀ (n : Nat) (x10 : Int32) (x11 : Int32) (x12 : Int32) (r : Int32 × Int32 × Int32), L_Points_weight_8 k0 p0 p1 s n x10 x11 x12 = some r → J G m_Points_weight 2 0 0 P 84 [(0, .ref (ad (5 + 16 * k0))), (1, .int p0), (2, .int p1), (3, .int r.1), (4, .int r.2.1), (5, .int r.2.2)] [] (mkC ad G s) 0 0 → J G m_Points_weight 2 0 0 P 8 [(0, .ref (ad (5 + 16 * k0))), (1, .int p0), (2, .int p1), (3, .int x10), (4, .int x11), (5, .int x12)] [] (mkC ad G s) 0 0 := by
  intro n
  induction n with
  | zero =>
    intro x10 x11 x12 r H
    cases (show none = some r from H)
  | succ n ih =>
    intro x10 x11 x12 r H kx
    have H : (
    if (s (33 + 4 * k0) 0 0) ≤ x12 then
      some (x10, x11, x12)
    else
      Option.bind (α := Int32 × Int32) (
        if x12 = p0 then
          some (x10, x11)
        else
          if jin x12 12 then
          Option.bind (F_minus (fnum (s (51 + k0) 0 0)) p1 (s (30 + 4 * k0) 0 x12.toNatClampNeg)) fun x17 =>
          Option.bind (F_times (fnum (s (51 + k0) 0 0)) x10 x17) fun x19 =>
          if jin p0 12 then
          if jin x12 12 then
          Option.bind (F_minus (fnum (s (51 + k0) 0 0)) (s (30 + 4 * k0) 0 p0.toNatClampNeg) (s (30 + 4 * k0) 0 x12.toNatClampNeg)) fun x23 =>
          Option.bind (F_times (fnum (s (51 + k0) 0 0)) x11 x23) fun x25 =>
          some (x19, x25)
          else none
          else none
          else none) fun (x26, x27) =>
      jlet (x12 + 1) fun x30 =>
      L_Points_weight_8 k0 p0 p1 s n x26 x27 x30) = some r := H
    refine j_iload (pc := 8) 5 (jd k_Points_weight 6 rfl) rfl ?_
    refine j_aload_n (pc := 10) 0 (jd k_Points_weight 7 rfl) rfl ?_
    refine j_get (pc := 11) (fs := flPt ad s k0) (v := .int (s (33 + 4 * k0) 0 0)) fl_Points_23_5 (5 + 16 * k0) (jd k_Points_weight 8 rfl) (lkPt ad G s hk0) rfl ?_
    refine j_icmp_ge (pc := 14) (tgt := 84) (jd k_Points_weight 9 rfl) rfl (fun h13 => ?_) (fun h13 => ?_)
    · rw [if_pos h13] at H
      cases H
      exact kx
    · rw [if_neg h13] at H
      refine j_iload (pc := 17) 5 (jd k_Points_weight 10 rfl) rfl ?_
      refine j_iload_n (pc := 19) 1 (jd k_Points_weight 11 rfl) rfl ?_
      obtain ⟨⟨x26, x27⟩, h28, H⟩ := obnd H
      try dsimp only at H
      have K29 : J G m_Points_weight 2 0 0 P 78 [(0, .ref (ad (5 + 16 * k0))), (1, .int p0), (2, .int p1), (3, .int x26), (4, .int x27), (5, .int x12)] [] (mkC ad G s) 0 0 := by
        obtain ⟨x30, e31, H⟩ := olet H
        refine j_iinc (pc := 78) (lv' := [(0, .ref (ad (5 + 16 * k0))), (1, .int p0), (2, .int p1), (3, .int x26), (4, .int x27), (5, .int x30)]) 5 (jd k_Points_weight 42 rfl) rfl e31 rfl (Nat.le_of_ble_eq_true rfl) rfl ?_
        refine j_goto (pc := 81) (tgt := 8) (jd k_Points_weight 43 rfl) rfl ?_
        exact ih x26 x27 x30 _ H kx
      have H := h28
      refine j_icmp_eq (pc := 20) (tgt := 78) (jd k_Points_weight 12 rfl) rfl (fun h14 => ?_) (fun h14 => ?_)
      · rw [if_pos h14] at H
        cases H
        exact K29
      · rw [if_neg h14] at H
        refine j_aload_n (pc := 23) 0 (jd k_Points_weight 13 rfl) rfl ?_
        refine j_get (pc := 24) (fs := flPt ad s k0) (v := .ref (ad (2 + (fnum (s (51 + k0) 0 0))))) fl_Points_19_5 (5 + 16 * k0) (jd k_Points_weight 14 rfl) (lkPt ad G s hk0) rfl ?_
        refine j_iload_n (pc := 27) 3 (jd k_Points_weight 15 rfl) rfl ?_
        refine j_aload_n (pc := 28) 0 (jd k_Points_weight 16 rfl) rfl ?_
        refine j_get (pc := 29) (fs := flPt ad s k0) (v := .ref (ad (2 + (fnum (s (51 + k0) 0 0))))) fl_Points_19_5 (5 + 16 * k0) (jd k_Points_weight 17 rfl) (lkPt ad G s hk0) rfl ?_
        refine j_iload_n (pc := 32) 2 (jd k_Points_weight 18 rfl) rfl ?_
        refine j_aload_n (pc := 33) 0 (jd k_Points_weight 19 rfl) rfl ?_
        refine j_get (pc := 34) (fs := flPt ad s k0) (v := .ref (ad (6 + 16 * k0))) fl_Points_9_5 (5 + 16 * k0) (jd k_Points_weight 20 rfl) (lkPt ad G s hk0) rfl ?_
        refine j_iload (pc := 37) 5 (jd k_Points_weight 21 rfl) rfl ?_
        obtain ⟨h15, H⟩ := ochk H
        refine j_iald (pc := 39) (f := s (30 + 4 * k0) 0) (6 + 16 * k0) (jd k_Points_weight 22 rfl) (lkPa_6 ad G s hk0) (jin.vp h15) ?_
        obtain ⟨x17, h16, H⟩ := obnd H
        refine vF_minus (pc := 40) (st := [.int x10, .ref (ad (2 + (fnum (s (51 + k0) 0 0))))]) (fnum (s (51 + k0) 0 0)) (fnum_lt _) p1 (s (30 + 4 * k0) 0 x12.toNatClampNeg) s _ h16 w344 (jd k_Points_weight 23 rfl) (Nat.le_of_ble_eq_true rfl) (by decide) (Nat.le_refl _) (Nat.le_refl _) ?_
        obtain ⟨x19, h18, H⟩ := obnd H
        refine vF_times (pc := 43) (st := []) (fnum (s (51 + k0) 0 0)) (fnum_lt _) x10 x17 s _ h18 w368 (jd k_Points_weight 24 rfl) (Nat.le_of_ble_eq_true rfl) (by decide) (Nat.le_refl _) (Nat.le_refl _) ?_
        refine j_istore_n (pc := 46) (lv' := [(0, .ref (ad (5 + 16 * k0))), (1, .int p0), (2, .int p1), (3, .int x19), (4, .int x11), (5, .int x12)]) (jd k_Points_weight 25 rfl) rfl (Nat.le_of_ble_eq_true rfl) rfl ?_
        refine j_aload_n (pc := 47) 0 (jd k_Points_weight 26 rfl) rfl ?_
        refine j_get (pc := 48) (fs := flPt ad s k0) (v := .ref (ad (2 + (fnum (s (51 + k0) 0 0))))) fl_Points_19_5 (5 + 16 * k0) (jd k_Points_weight 27 rfl) (lkPt ad G s hk0) rfl ?_
        refine j_iload (pc := 51) 4 (jd k_Points_weight 28 rfl) rfl ?_
        refine j_aload_n (pc := 53) 0 (jd k_Points_weight 29 rfl) rfl ?_
        refine j_get (pc := 54) (fs := flPt ad s k0) (v := .ref (ad (2 + (fnum (s (51 + k0) 0 0))))) fl_Points_19_5 (5 + 16 * k0) (jd k_Points_weight 30 rfl) (lkPt ad G s hk0) rfl ?_
        refine j_aload_n (pc := 57) 0 (jd k_Points_weight 31 rfl) rfl ?_
        refine j_get (pc := 58) (fs := flPt ad s k0) (v := .ref (ad (6 + 16 * k0))) fl_Points_9_5 (5 + 16 * k0) (jd k_Points_weight 32 rfl) (lkPt ad G s hk0) rfl ?_
        refine j_iload_n (pc := 61) 1 (jd k_Points_weight 33 rfl) rfl ?_
        obtain ⟨h20, H⟩ := ochk H
        refine j_iald (pc := 62) (f := s (30 + 4 * k0) 0) (6 + 16 * k0) (jd k_Points_weight 34 rfl) (lkPa_6 ad G s hk0) (jin.vp h20) ?_
        refine j_aload_n (pc := 63) 0 (jd k_Points_weight 35 rfl) rfl ?_
        refine j_get (pc := 64) (fs := flPt ad s k0) (v := .ref (ad (6 + 16 * k0))) fl_Points_9_5 (5 + 16 * k0) (jd k_Points_weight 36 rfl) (lkPt ad G s hk0) rfl ?_
        refine j_iload (pc := 67) 5 (jd k_Points_weight 37 rfl) rfl ?_
        obtain ⟨h21, H⟩ := ochk H
        refine j_iald (pc := 69) (f := s (30 + 4 * k0) 0) (6 + 16 * k0) (jd k_Points_weight 38 rfl) (lkPa_6 ad G s hk0) (jin.vp h21) ?_
        obtain ⟨x23, h22, H⟩ := obnd H
        refine vF_minus (pc := 70) (st := [.int x11, .ref (ad (2 + (fnum (s (51 + k0) 0 0))))]) (fnum (s (51 + k0) 0 0)) (fnum_lt _) (s (30 + 4 * k0) 0 p0.toNatClampNeg) (s (30 + 4 * k0) 0 x12.toNatClampNeg) s _ h22 w344 (jd k_Points_weight 39 rfl) (Nat.le_of_ble_eq_true rfl) (by decide) (Nat.le_refl _) (Nat.le_refl _) ?_
        obtain ⟨x25, h24, H⟩ := obnd H
        refine vF_times (pc := 73) (st := []) (fnum (s (51 + k0) 0 0)) (fnum_lt _) x11 x23 s _ h24 w368 (jd k_Points_weight 40 rfl) (Nat.le_of_ble_eq_true rfl) (by decide) (Nat.le_refl _) (Nat.le_refl _) ?_
        refine j_istore (pc := 76) (lv' := [(0, .ref (ad (5 + 16 * k0))), (1, .int p0), (2, .int p1), (3, .int x19), (4, .int x25), (5, .int x12)]) (jd k_Points_weight 41 rfl) rfl (Nat.le_of_ble_eq_true rfl) rfl ?_
        cases H
        exact K29

set_option maxRecDepth 20000 in
theorem c_Points_weight (ad : Nat → Nat) (G : jG) (k0 : Nat) (hk0 : k0 < 2) (p0 : Int32) (p1 : Int32) (s : jU) (r : Int32) (H : f_Points_weight k0 p0 p1 s = some r) : jCon G m_Points_weight y_Points_weight 2 0 0 [.ref (ad (5 + 16 * k0)), .int p0, .int p1] (mkC ad G s) (jEq (some (.int r)) (mkC ad G s)) := by
  refine jCon.of (by decide +kernel) rfl rfl rfl (Nat.le_of_ble_eq_true rfl) rfl ?_
  have H : (
  Option.bind (L_Points_weight_8 k0 p0 p1 s jF 1 1 0) fun (x32, x33, x34) =>
  Option.bind (f_Field_inverse (fnum (s (51 + k0) 0 0)) x33) fun x37 =>
  Option.bind (F_times (fnum (s (51 + k0) 0 0)) x32 x37) fun x39 =>
  some x39) = some r := H
  generalize hP9 : jEq (some (.int r)) (mkC ad G s) = P
  refine j_iconst (pc := 0) (v := 1) (jd k_Points_weight 0 rfl) (by decide) ?_
  refine j_istore_n (pc := 1) (lv' := [(0, .ref (ad (5 + 16 * k0))), (1, .int p0), (2, .int p1), (3, .int 1)]) (jd k_Points_weight 1 rfl) rfl (Nat.le_of_ble_eq_true rfl) rfl ?_
  refine j_iconst (pc := 2) (v := 1) (jd k_Points_weight 2 rfl) (by decide) ?_
  refine j_istore (pc := 3) (lv' := [(0, .ref (ad (5 + 16 * k0))), (1, .int p0), (2, .int p1), (3, .int 1), (4, .int 1)]) (jd k_Points_weight 3 rfl) rfl (Nat.le_of_ble_eq_true rfl) rfl ?_
  refine j_iconst (pc := 5) (v := 0) (jd k_Points_weight 4 rfl) (by decide) ?_
  refine j_istore (pc := 6) (lv' := [(0, .ref (ad (5 + 16 * k0))), (1, .int p0), (2, .int p1), (3, .int 1), (4, .int 1), (5, .int 0)]) (jd k_Points_weight 5 rfl) rfl (Nat.le_of_ble_eq_true rfl) rfl ?_
  obtain ⟨⟨x32, x33, x34⟩, h35, H⟩ := obnd H
  try dsimp only at H
  refine lp_Points_weight_8 k0 hk0 p0 p1 s jF 1 1 0 _ h35 ?_
  refine j_pick (lv' := [(0, .ref (ad (5 + 16 * k0))), (3, .int x32), (4, .int x33)]) [0, 3, 4] rfl ?_
  refine j_aload_n (pc := 84) 0 (jd k_Points_weight 44 rfl) rfl ?_
  refine j_get (pc := 85) (fs := flPt ad s k0) (v := .ref (ad (2 + (fnum (s (51 + k0) 0 0))))) fl_Points_19_5 (5 + 16 * k0) (jd k_Points_weight 45 rfl) (lkPt ad G s hk0) rfl ?_
  refine j_iload_n (pc := 88) 1 (jd k_Points_weight 46 rfl) rfl ?_
  refine j_aload_n (pc := 89) 0 (jd k_Points_weight 47 rfl) rfl ?_
  refine j_get (pc := 90) (fs := flPt ad s k0) (v := .ref (ad (2 + (fnum (s (51 + k0) 0 0))))) fl_Points_19_5 (5 + 16 * k0) (jd k_Points_weight 48 rfl) (lkPt ad G s hk0) rfl ?_
  refine j_iload (pc := 93) 2 (jd k_Points_weight 49 rfl) rfl ?_
  obtain ⟨x37, h36, H⟩ := obnd H
  refine vF_inverse (pc := 95) (st := [.int x32, .ref (ad (2 + (fnum (s (51 + k0) 0 0))))]) (fnum (s (51 + k0) 0 0)) (fnum_lt _) x33 s _ h36 w353 (jd k_Points_weight 50 rfl) (Nat.le_of_ble_eq_true rfl) (by decide) (Nat.le_refl _) (Nat.le_refl _) ?_
  obtain ⟨x39, h38, H⟩ := obnd H
  refine vF_times (pc := 98) (st := []) (fnum (s (51 + k0) 0 0)) (fnum_lt _) x32 x37 s _ h38 w368 (jd k_Points_weight 51 rfl) (Nat.le_of_ble_eq_true rfl) (by decide) (Nat.le_refl _) (Nat.le_refl _) ?_
  cases H
  subst hP9
  exact j_iret (pc := 101) (jd k_Points_weight 52 rfl) rfl rfl ⟨rfl, rfl⟩

set_option maxRecDepth 20000 in
theorem c_Byte_plus (ad : Nat → Nat) (G : jG) (p0 : Int32) (p1 : Int32) (s : jU) (r : Int32) (H : f_Byte_plus p0 p1 = some r) : jCon G m_Byte_plus y_Byte_plus 0 0 0 [.ref (ad 2), .int p0, .int p1] (mkC ad G s) (jEq (some (.int r)) (mkC ad G s)) := by
  refine jCon.of (by decide +kernel) rfl rfl rfl (Nat.le_of_ble_eq_true rfl) rfl ?_
  have H : (
  some (p0 ^^^ p1)) = some r := H
  generalize hP9 : jEq (some (.int r)) (mkC ad G s) = P
  refine j_iload_n (pc := 0) 1 (jd k_Byte_plus 0 rfl) rfl ?_
  refine j_iload_n (pc := 1) 2 (jd k_Byte_plus 1 rfl) rfl ?_
  refine j_ixor (pc := 2) (jd k_Byte_plus 2 rfl) ?_
  cases H
  subst hP9
  exact j_iret (pc := 3) (jd k_Byte_plus 3 rfl) rfl rfl ⟨rfl, rfl⟩

set_option maxRecDepth 20000 in
theorem c_Prime_plus (ad : Nat → Nat) (G : jG) (k0 : Nat) (hk0 : k0 < 3) (p0 : Int32) (p1 : Int32) (s : jU) (r : Int32) (H : f_Prime_plus k0 p0 p1 = some r) : jCon G m_Prime_plus y_Prime_plus 0 0 0 [.ref (ad (2 + k0)), .int p0, .int p1] (mkC ad G s) (jEq (some (.int r)) (mkC ad G s)) := by
  refine jCon.of (by decide +kernel) rfl rfl rfl (Nat.le_of_ble_eq_true rfl) rfl ?_
  have H : (
  if ¬ (fsz k0) = 0 then
  some (jrem (p0 + p1) (fsz k0))
  else none) = some r := H
  generalize hP9 : jEq (some (.int r)) (mkC ad G s) = P
  refine j_iload_n (pc := 0) 1 (jd k_Prime_plus 0 rfl) rfl ?_
  refine j_iload_n (pc := 1) 2 (jd k_Prime_plus 1 rfl) rfl ?_
  refine j_iadd (pc := 2) (jd k_Prime_plus 2 rfl) ?_
  refine j_aload_n (pc := 3) 0 (jd k_Prime_plus 3 rfl) rfl ?_
  refine g_size (pc := 4) fl_Prime_7_2 fl_Prime_7_6 (f := k0) hk0 (jd k_Prime_plus 4 rfl) ?_
  obtain ⟨h10, H⟩ := ochk H
  refine j_irem (pc := 7) (jd k_Prime_plus 5 rfl) h10 ?_
  cases H
  subst hP9
  exact j_iret (pc := 8) (jd k_Prime_plus 6 rfl) rfl rfl ⟨rfl, rfl⟩

set_option maxRecDepth 20000 in
theorem vF_plus {ad : Nat → Nat} {G : jG} {M : jM} {d mc ms : Nat} {P : jR → va_W → Prop} {pc : Nat} {lv : List (Nat × Value)} {st : List Value} {k n ix : Nat} (f : Nat) (hf : f < 3) (p0 : Int32) (p1 : Int32) (s : jU) (r : Int32) (H : F_plus f p0 p1 = some r) (hk : Cond.methodLink M.1 ix ⟨"SharingRoom$Field", "plus", "(II)I"⟩ ∈ jWS) (hd : decode M.2.1 pc = .ok (.invokevirtual ix, 3)) (hst : (st.map fun v => v.category).sum ≤ 8) (hdd : 0 + 1 ≤ d) (hm : k ≤ mc) (hn2 : n ≤ ms) (kk : J G M d mc ms P (pc + 3) lv (.int r :: st) (mkC ad G s) k n) : J G M d mc ms P pc lv (.int p1 :: .int p0 :: .ref (ad (2 + f)) :: st) (mkC ad G s) k n := by
  match f, hf with
  | 0, _ => exact jc_U (c_Byte_plus ad G p0 p1 s r H) L0_Byte_plus hk ⟨rfl, rfl, by decide, by decide⟩ w585 w586 w587 (Or.inl wt584) 2 rfl rfl hd rfl hst (Nat.le_trans (by decide) hdd) hm hn2 rfl rfl kk
  | 1, _ => exact jc_U (c_Prime_plus ad G 1 (by decide) p0 p1 s r H) L0_Prime_plus hk ⟨rfl, rfl, by decide, by decide⟩ w585 w589 w590 (Or.inl wt584) 3 rfl rfl hd rfl hst (Nat.le_trans (by decide) hdd) hm hn2 rfl rfl kk
  | 2, _ => exact jc_U (c_Prime_plus ad G 2 (by decide) p0 p1 s r H) L0_Prime_plus hk ⟨rfl, rfl, by decide, by decide⟩ w585 w589 w590 (Or.inl wt584) 4 rfl rfl hd rfl hst (Nat.le_trans (by decide) hdd) hm hn2 rfl rfl kk

set_option maxRecDepth 20000 in
theorem lp_Points_valueAt_4 {ad : Nat → Nat} {G : jG} {P : jR → va_W → Prop} (k0 : Nat) (hk0 : k0 < 2) (p0 : Int32) (s : jU) : ∀ (n : Nat) (x10 : Int32) (x11 : Int32) (r : Int32 × Int32), L_Points_valueAt_4 k0 p0 s n x10 x11 = some r → J G m_Points_valueAt 3 0 0 P 46 [(0, .ref (ad (5 + 16 * k0))), (1, .int p0), (2, .int r.1), (3, .int r.2)] [] (mkC ad G s) 0 0 → J G m_Points_valueAt 3 0 0 P 4 [(0, .ref (ad (5 + 16 * k0))), (1, .int p0), (2, .int x10), (3, .int x11)] [] (mkC ad G s) 0 0 := by
  intro n
  induction n with
  | zero =>
    intro x10 x11 r H
    cases (show none = some r from H)
  | succ n ih =>
    intro x10 x11 r H kx
    have H : (
    if (s (33 + 4 * k0) 0 0) ≤ x11 then
      some (x10, x11)
    else
      Option.bind (f_Points_weight k0 x11 p0 s) fun x14 =>
      if jin x11 12 then
      Option.bind (F_times (fnum (s (51 + k0) 0 0)) x14 (s (31 + 4 * k0) 0 x11.toNatClampNeg)) fun x17 =>
      Option.bind (F_plus (fnum (s (51 + k0) 0 0)) x10 x17) fun x19 =>
      jlet (x11 + 1) fun x20 =>
      L_Points_valueAt_4 k0 p0 s n x19 x20
      else none) = some r := H
    refine j_iload_n (pc := 4) 3 (jd k_Points_valueAt 4 rfl) rfl ?_
    refine j_aload_n (pc := 5) 0 (jd k_Points_valueAt 5 rfl) rfl ?_
    refine j_get (pc := 6) (fs := flPt ad s k0) (v := .int (s (33 + 4 * k0) 0 0)) fl_Points_23_5 (5 + 16 * k0) (jd k_Points_valueAt 6 rfl) (lkPt ad G s hk0) rfl ?_
    refine j_icmp_ge (pc := 9) (tgt := 46) (jd k_Points_valueAt 7 rfl) rfl (fun h12 => ?_) (fun h12 => ?_)
    · rw [if_pos h12] at H
      cases H
      exact kx
    · rw [if_neg h12] at H
      refine j_aload_n (pc := 12) 0 (jd k_Points_valueAt 8 rfl) rfl ?_
      refine j_get (pc := 13) (fs := flPt ad s k0) (v := .ref (ad (2 + (fnum (s (51 + k0) 0 0))))) fl_Points_19_5 (5 + 16 * k0) (jd k_Points_valueAt 9 rfl) (lkPt ad G s hk0) rfl ?_
      refine j_iload_n (pc := 16) 2 (jd k_Points_valueAt 10 rfl) rfl ?_
      refine j_aload_n (pc := 17) 0 (jd k_Points_valueAt 11 rfl) rfl ?_
      refine j_get (pc := 18) (fs := flPt ad s k0) (v := .ref (ad (2 + (fnum (s (51 + k0) 0 0))))) fl_Points_19_5 (5 + 16 * k0) (jd k_Points_valueAt 12 rfl) (lkPt ad G s hk0) rfl ?_
      refine j_aload_n (pc := 21) 0 (jd k_Points_valueAt 13 rfl) rfl ?_
      refine j_iload_n (pc := 22) 3 (jd k_Points_valueAt 14 rfl) rfl ?_
      refine j_iload_n (pc := 23) 1 (jd k_Points_valueAt 15 rfl) rfl ?_
      obtain ⟨x14, h13, H⟩ := obnd H
      refine jc_V (pc := 24) (st := [.ref (ad (2 + (fnum (s (51 + k0) 0 0)))), .int x10, .ref (ad (2 + (fnum (s (51 + k0) 0 0))))]) (c_Points_weight ad G k0 hk0 x11 p0 s _ h13) L0_Points_weight w579 w580 w581 (5 + 16 * k0) (lkPt ad G s hk0) rfl (jd k_Points_valueAt 16 rfl) rfl (Nat.le_of_ble_eq_true rfl) (by decide) (Nat.le_refl _) (Nat.le_refl _) rfl rfl ?_
      refine j_aload_n (pc := 27) 0 (jd k_Points_valueAt 17 rfl) rfl ?_
      refine j_get (pc := 28) (fs := flPt ad s k0) (v := .ref (ad (7 + 16 * k0))) fl_Points_13_5 (5 + 16 * k0) (jd k_Points_valueAt 18 rfl) (lkPt ad G s hk0) rfl ?_
      refine j_iload_n (pc := 31) 3 (jd k_Points_valueAt 19 rfl) rfl ?_
      obtain ⟨h15, H⟩ := ochk H
      refine j_iald (pc := 32) (f := s (31 + 4 * k0) 0) (7 + 16 * k0) (jd k_Points_valueAt 20 rfl) (lkPa_7 ad G s hk0) (jin.vp h15) ?_
      obtain ⟨x17, h16, H⟩ := obnd H
      refine vF_times (pc := 33) (st := [.int x10, .ref (ad (2 + (fnum (s (51 + k0) 0 0))))]) (fnum (s (51 + k0) 0 0)) (fnum_lt _) x14 (s (31 + 4 * k0) 0 x11.toNatClampNeg) s _ h16 w368 (jd k_Points_valueAt 21 rfl) (Nat.le_of_ble_eq_true rfl) (by decide) (Nat.le_refl _) (Nat.le_refl _) ?_
      obtain ⟨x19, h18, H⟩ := obnd H
      refine vF_plus (pc := 36) (st := []) (fnum (s (51 + k0) 0 0)) (fnum_lt _) x10 x17 s _ h18 w583 (jd k_Points_valueAt 22 rfl) (Nat.le_of_ble_eq_true rfl) (by decide) (Nat.le_refl _) (Nat.le_refl _) ?_
      refine j_istore_n (pc := 39) (lv' := [(0, .ref (ad (5 + 16 * k0))), (1, .int p0), (2, .int x19), (3, .int x11)]) (jd k_Points_valueAt 23 rfl) rfl (Nat.le_of_ble_eq_true rfl) rfl ?_
      obtain ⟨x20, e21, H⟩ := olet H
      refine j_iinc (pc := 40) (lv' := [(0, .ref (ad (5 + 16 * k0))), (1, .int p0), (2, .int x19), (3, .int x20)]) 3 (jd k_Points_valueAt 24 rfl) rfl e21 rfl (Nat.le_of_ble_eq_true rfl) rfl ?_
      refine j_goto (pc := 43) (tgt := 4) (jd k_Points_valueAt 25 rfl) rfl ?_
      exact ih x19 x20 _ H kx

set_option maxRecDepth 20000 in
theorem c_Points_valueAt (ad : Nat → Nat) (G : jG) (k0 : Nat) (hk0 : k0 < 2) (p0 : Int32) (s : jU) (r : Int32) (H : f_Points_valueAt k0 p0 s = some r) : jCon G m_Points_valueAt y_Points_valueAt 3 0 0 [.ref (ad (5 + 16 * k0)), .int p0] (mkC ad G s) (jEq (some (.int r)) (mkC ad G s)) := by
  refine jCon.of (by decide +kernel) rfl rfl rfl (Nat.le_of_ble_eq_true rfl) rfl ?_
  have H : (
  Option.bind (L_Points_valueAt_4 k0 p0 s jF 0 0) fun (x22, x23) =>
  some x22) = some r := H
  generalize hP9 : jEq (some (.int r)) (mkC ad G s) = P
  refine j_iconst (pc := 0) (v := 0) (jd k_Points_valueAt 0 rfl) (by decide) ?_
  refine j_istore_n (pc := 1) (lv' := [(0, .ref (ad (5 + 16 * k0))), (1, .int p0), (2, .int 0)]) (jd k_Points_valueAt 1 rfl) rfl (Nat.le_of_ble_eq_true rfl) rfl ?_
  refine j_iconst (pc := 2) (v := 0) (jd k_Points_valueAt 2 rfl) (by decide) ?_
  refine j_istore_n (pc := 3) (lv' := [(0, .ref (ad (5 + 16 * k0))), (1, .int p0), (2, .int 0), (3, .int 0)]) (jd k_Points_valueAt 3 rfl) rfl (Nat.le_of_ble_eq_true rfl) rfl ?_
  obtain ⟨⟨x22, x23⟩, h24, H⟩ := obnd H
  try dsimp only at H
  refine lp_Points_valueAt_4 k0 hk0 p0 s jF 0 0 _ h24 ?_
  refine j_pick (lv' := [(2, .int x22)]) [2] rfl ?_
  refine j_iload_n (pc := 46) 0 (jd k_Points_valueAt 26 rfl) rfl ?_
  cases H
  subst hP9
  exact j_iret (pc := 47) (jd k_Points_valueAt 27 rfl) rfl rfl ⟨rfl, rfl⟩

set_option maxRecDepth 20000 in
theorem c_SR_combine (ad : Nat → Nat) (G : jG) (p0 : Int32) (s : jU) (r : String ⊕ (Int32)) (H : f_SR_combine p0 s = some r) : jCon G m_SR_combine y_SR_combine 4 1 6 [.ref (ad 0), .int p0] (mkC ad G s) (jRs (mkC ad G s) (fun a => some (.int a)) (fun _ => (mkC ad G s)) r) := by
  refine jCon.of (by decide +kernel) rfl rfl rfl (Nat.le_of_ble_eq_true rfl) rfl ?_
  have H : (
  Option.bind (f_Points_inField 0 p0 s) fun x11 =>
  if ¬ x11 = 0 then
    Option.bind (f_Points_size 0 s) fun x14 =>
    if ¬ x14 = 0 then
      Option.bind (f_Points_valueAt 0 p0 s) fun x17 =>
      some (.inr x17)
    else
      some (.inl "java/lang/IllegalStateException")
  else
    some (.inl "java/lang/IllegalArgumentException")) = some r := H
  generalize hP9 : jRs (mkC ad G s) (fun a => some (.int a)) (fun _ => (mkC ad G s)) r = P
  refine j_aload_n (pc := 0) 0 (jd k_SR_combine 0 rfl) rfl ?_
  refine j_get (pc := 1) (fs := [.ref (ad 1), .ref (ad 5), .ref (ad 9)]) (v := .ref (ad (5 + 16 * 0))) fl_SR_28_0 0 (jd k_SR_combine 1 rfl) rfl rfl ?_
  refine j_iload_n (pc := 4) 1 (jd k_SR_combine 2 rfl) rfl ?_
  obtain ⟨x11, h10, H⟩ := obnd H
  refine jc_V (pc := 5) (st := []) (c_Points_inField ad G 0 (by decide) p0 s _ h10) L0_Points_inField w523 w524 w525 (5 + 16 * 0) (lkPt ad G s (by decide)) rfl (jd k_SR_combine 3 rfl) rfl (Nat.le_of_ble_eq_true rfl) (by decide) (by decide) (by decide) rfl rfl ?_
  refine j_if_ne (pc := 8) (tgt := 21) (jd k_SR_combine 4 rfl) rfl (fun h12 => ?_) (fun h12 => ?_)
  · rw [if_pos h12] at H
    refine j_aload_n (pc := 21) 0 (jd k_SR_combine 10 rfl) rfl ?_
    refine j_get (pc := 22) (fs := [.ref (ad 1), .ref (ad 5), .ref (ad 9)]) (v := .ref (ad (5 + 16 * 0))) fl_SR_28_0 0 (jd k_SR_combine 11 rfl) rfl rfl ?_
    obtain ⟨x14, h13, H⟩ := obnd H
    refine jc_V (pc := 25) (st := []) (c_Points_size ad G 0 (by decide) s _ h13) L0_Points_size w562 w563 w564 (5 + 16 * 0) (lkPt ad G s (by decide)) rfl (jd k_SR_combine 12 rfl) rfl (Nat.le_of_ble_eq_true rfl) (by decide) (by decide) (by decide) rfl rfl ?_
    refine j_if_ne (pc := 28) (tgt := 41) (jd k_SR_combine 13 rfl) rfl (fun h15 => ?_) (fun h15 => ?_)
    · rw [if_pos h15] at H
      refine j_aload_n (pc := 41) 0 (jd k_SR_combine 19 rfl) rfl ?_
      refine j_get (pc := 42) (fs := [.ref (ad 1), .ref (ad 5), .ref (ad 9)]) (v := .ref (ad (5 + 16 * 0))) fl_SR_28_0 0 (jd k_SR_combine 20 rfl) rfl rfl ?_
      refine j_iload_n (pc := 45) 1 (jd k_SR_combine 21 rfl) rfl ?_
      obtain ⟨x17, h16, H⟩ := obnd H
      refine jc_V (pc := 46) (st := []) (c_Points_valueAt ad G 0 (by decide) p0 s _ h16) L0_Points_valueAt w575 w576 w577 (5 + 16 * 0) (lkPt ad G s (by decide)) rfl (jd k_SR_combine 22 rfl) rfl (Nat.le_of_ble_eq_true rfl) (by decide) (by decide) (by decide) rfl rfl ?_
      cases H
      subst hP9
      refine j_widen (k' := 1) (n' := 6) (by decide) (by decide) ?_
      exact j_iret (pc := 49) (jd k_SR_combine 23 rfl) rfl rfl ⟨rfl, rfl⟩
    · rw [if_neg (not_not_intro h15)] at H
      cases H
      subst hP9
      exact j_throw (pc := 31) fit_IllegalStateException ex_SR_74 wt542 wt543 wt80 wt574 (jd k_SR_combine 14 rfl) (jd k_SR_combine 15 rfl) (jd k_SR_combine 16 rfl) (jd k_SR_combine 17 rfl) (jd k_SR_combine 18 rfl) rfl (by decide) (Nat.le_of_ble_eq_true rfl) (by decide) (by decide) ⟨rfl, rfl⟩
  · rw [if_neg (not_not_intro h12)] at H
    cases H
    subst hP9
    exact j_throw (pc := 11) fit_IllegalArgumentException ex_SR_51 wt444 wt445 wt79 wt573 (jd k_SR_combine 5 rfl) (jd k_SR_combine 6 rfl) (jd k_SR_combine 7 rfl) (jd k_SR_combine 8 rfl) (jd k_SR_combine 9 rfl) rfl (by decide) (Nat.le_of_ble_eq_true rfl) (by decide) (by decide) ⟨rfl, rfl⟩

set_option maxRecDepth 20000 in
theorem c_Room_hasGroup (ad : Nat → Nat) (G : jG) (p0 : Int32) (s : jU) (r : Int32) (H : f_Room_hasGroup p0 = some r) : jCon G m_Room_hasGroup y_Room_hasGroup 0 0 0 [.ref (ad 9), .int p0] (mkC ad G s) (jEq (some (.int r)) (mkC ad G s)) := by
  refine jCon.of (by decide +kernel) rfl rfl rfl (Nat.le_of_ble_eq_true rfl) rfl ?_
  have H : (
  Option.bind (α := Int32) (
    if p0 < 0 then
      some 0
    else
      if 2 ≤ p0 then
        some 0
      else
        some 1) fun x12 =>
  if jbo x12 then
  some x12
  else none) = some r := H
  generalize hP9 : jEq (some (.int r)) (mkC ad G s) = P
  refine j_iload_n (pc := 0) 1 (jd k_Room_hasGroup 0 rfl) rfl ?_
  obtain ⟨x12, h13, H⟩ := obnd H
  have K14 : J G m_Room_hasGroup 0 0 0 P 18 [] [.int x12] (mkC ad G s) 0 0 := by
    obtain ⟨h15, H⟩ := ochk H
    cases H
    subst hP9
    exact j_iret (pc := 18) (jd k_Room_hasGroup 10 rfl) rfl (jbo.nar h15) ⟨rfl, rfl⟩
  have H := h13
  refine j_if_lt (pc := 1) (tgt := 17) (jd k_Room_hasGroup 1 rfl) rfl (fun h10 => ?_) (fun h10 => ?_)
  · rw [if_pos h10] at H
    refine j_iconst (pc := 17) (v := 0) (jd k_Room_hasGroup 9 rfl) (by decide) ?_
    cases H
    exact j_pick [] rfl K14
  · rw [if_neg h10] at H
    refine j_iload_n (pc := 4) 1 (jd k_Room_hasGroup 2 rfl) rfl ?_
    refine j_aload_n (pc := 5) 0 (jd k_Room_hasGroup 3 rfl) rfl ?_
    refine j_get (pc := 6) (fs := flRm ad s) (v := .ref (ad 10)) fl_Room_30_7 9 (jd k_Room_hasGroup 4 rfl) rfl rfl ?_
    refine j_alen (pc := 9) (t0 := 4) (v := 2) 10 (jd k_Room_hasGroup 5 rfl) rfl rfl rfl ?_
    refine j_icmp_ge (pc := 10) (tgt := 17) (jd k_Room_hasGroup 6 rfl) rfl (fun h11 => ?_) (fun h11 => ?_)
    · rw [if_pos h11] at H
      refine j_iconst (pc := 17) (v := 0) (jd k_Room_hasGroup 9 rfl) (by decide) ?_
      cases H
      exact j_pick [] rfl K14
    · rw [if_neg h11] at H
      refine j_iconst (pc := 13) (v := 1) (jd k_Room_hasGroup 7 rfl) (by decide) ?_
      refine j_goto (pc := 14) (tgt := 18) (jd k_Room_hasGroup 8 rfl) rfl ?_
      cases H
      exact j_pick [] rfl K14

set_option maxRecDepth 20000 in
theorem c_Room_isCommittee (G : jG) (ws : va_W) (p0 : Int32) (p1 : Int32) (r : Int32) (H : f_Room_isCommittee p0 p1 = some r) : jCon G m_Room_isCommittee y_Room_isCommittee 0 0 0 [.int p0, .int p1] ws (jEq (some (.int r)) ws) := by
  refine jCon.of (by decide +kernel) rfl rfl rfl (Nat.le_of_ble_eq_true rfl) rfl ?_
  have H : (
  Option.bind (α := Int32) (
    if p0 < 1 then
      some 0
    else
      if 7 < p0 then
        some 0
      else
        if p1 < 1 then
          some 0
        else
          if p0 < p1 then
            some 0
          else
            some 1) fun x14 =>
  if jbo x14 then
  some x14
  else none) = some r := H
  generalize hP9 : jEq (some (.int r)) ws = P
  refine j_iload_n (pc := 0) 0 (jd k_Room_isCommittee 0 rfl) rfl ?_
  refine j_iconst (pc := 1) (v := 1) (jd k_Room_isCommittee 1 rfl) (by decide) ?_
  obtain ⟨x14, h15, H⟩ := obnd H
  have K16 : J G m_Room_isCommittee 0 0 0 P 26 [] [.int x14] ws 0 0 := by
    obtain ⟨h17, H⟩ := ochk H
    cases H
    subst hP9
    exact j_iret (pc := 26) (jd k_Room_isCommittee 15 rfl) rfl (jbo.nar h17) ⟨rfl, rfl⟩
  have H := h15
  refine j_icmp_lt (pc := 2) (tgt := 25) (jd k_Room_isCommittee 2 rfl) rfl (fun h10 => ?_) (fun h10 => ?_)
  · rw [if_pos h10] at H
    refine j_iconst (pc := 25) (v := 0) (jd k_Room_isCommittee 14 rfl) (by decide) ?_
    cases H
    exact j_pick [] rfl K16
  · rw [if_neg h10] at H
    refine j_iload_n (pc := 5) 0 (jd k_Room_isCommittee 3 rfl) rfl ?_
    refine j_bipush (pc := 6) (v := 7) (jd k_Room_isCommittee 4 rfl) (by decide) ?_
    refine j_icmp_gt (pc := 8) (tgt := 25) (jd k_Room_isCommittee 5 rfl) rfl (fun h11 => ?_) (fun h11 => ?_)
    · rw [if_pos h11] at H
      refine j_iconst (pc := 25) (v := 0) (jd k_Room_isCommittee 14 rfl) (by decide) ?_
      cases H
      exact j_pick [] rfl K16
    · rw [if_neg h11] at H
      refine j_iload_n (pc := 11) 1 (jd k_Room_isCommittee 6 rfl) rfl ?_
      refine j_iconst (pc := 12) (v := 1) (jd k_Room_isCommittee 7 rfl) (by decide) ?_
      refine j_icmp_lt (pc := 13) (tgt := 25) (jd k_Room_isCommittee 8 rfl) rfl (fun h12 => ?_) (fun h12 => ?_)
      · rw [if_pos h12] at H
        refine j_iconst (pc := 25) (v := 0) (jd k_Room_isCommittee 14 rfl) (by decide) ?_
        cases H
        exact j_pick [] rfl K16
      · rw [if_neg h12] at H
        refine j_iload_n (pc := 16) 1 (jd k_Room_isCommittee 9 rfl) rfl ?_
        refine j_iload_n (pc := 17) 0 (jd k_Room_isCommittee 10 rfl) rfl ?_
        refine j_icmp_gt (pc := 18) (tgt := 25) (jd k_Room_isCommittee 11 rfl) rfl (fun h13 => ?_) (fun h13 => ?_)
        · rw [if_pos h13] at H
          refine j_iconst (pc := 25) (v := 0) (jd k_Room_isCommittee 14 rfl) (by decide) ?_
          cases H
          exact j_pick [] rfl K16
        · rw [if_neg h13] at H
          refine j_iconst (pc := 21) (v := 1) (jd k_Room_isCommittee 12 rfl) (by decide) ?_
          refine j_goto (pc := 22) (tgt := 26) (jd k_Room_isCommittee 13 rfl) rfl ?_
          cases H
          exact j_pick [] rfl K16

set_option maxRecDepth 20000 in
theorem c_Board_clear (ad : Nat → Nat) (G : jG) (s : jU) (r : jU) (H : f_Board_clear s = some r) : jCon G m_Board_clear y_Board_clear 0 0 0 [.ref (ad 15)] (mkC ad G s) (jEq none (mkC ad G r)) := by
  refine jCon.of (by decide +kernel) rfl rfl rfl (Nat.le_of_ble_eq_true rfl) rfl ?_
  have H : (
  jlet (ups s 41 0 (fun _ => 0)) fun s10 =>
  some s10) = some r := H
  generalize hP9 : jEq none (mkC ad G r) = P
  refine j_aload_n (pc := 0) 0 (jd k_Board_clear 0 rfl) rfl ?_
  refine j_iconst (pc := 1) (v := 0) (jd k_Board_clear 1 rfl) (by decide) ?_
  obtain ⟨s10, e11, H⟩ := olet H
  refine j_put (pc := 2) (fs := flBd ad s) (fp_Board_20_1 _) 15 (jd k_Board_clear 2 rfl) rfl rfl rfl (Nat.le_of_ble_eq_true rfl) ((wrBd_2 ad G s _).trans (congrArg (mkC ad G) e11)) ?_
  cases H
  subst hP9
  exact j_vret (pc := 5) (jd k_Board_clear 3 rfl) rfl ⟨rfl, rfl⟩

set_option maxRecDepth 20000 in
theorem c_Party_forget (ad : Nat → Nat) (G : jG) (k0 : Nat) (hk0 : k0 < 7) (s : jU) (r : jU) (H : f_Party_forget k0 s = some r) : jCon G m_Party_forget y_Party_forget 1 0 0 [.ref (ad (26 + 15 * k0))] (mkC ad G s) (jEq none (mkC ad G r)) := by
  refine jCon.of (by decide +kernel) rfl rfl rfl (Nat.le_of_ble_eq_true rfl) rfl ?_
  have H : (
  jlet (ups s 0 k0 (afl 7 0 (s 0 k0))) fun s10 =>
  jlet (ups s10 1 k0 (afl 7 0 (s10 1 k0))) fun s12 =>
  jlet (ups s12 2 k0 (afl 7 0 (s12 2 k0))) fun s14 =>
  jlet (ups s14 10 k0 (fun _ => 8)) fun s16 =>
  some s16) = some r := H
  generalize hP9 : jEq none (mkC ad G r) = P
  refine j_aload_n (pc := 0) 0 (jd k_Party_forget 0 rfl) rfl ?_
  refine j_get (pc := 1) (fs := flPy ad s k0) (v := .ref (ad (27 + 15 * k0))) fl_Party_11_4 (26 + 15 * k0) (jd k_Party_forget 1 rfl) (lkPy ad G s hk0) rfl ?_
  refine j_iconst (pc := 4) (v := 0) (jd k_Party_forget 2 rfl) (by decide) ?_
  refine j_aald (pc := 5) (t0 := 6) (v := ad (28 + 15 * k0 + 0)) (27 + 15 * k0) (jd k_Party_forget 3 rfl) (lkAA_1 ad G s hk0) rfl rfl (jidx.vp jidx0) (jidx.row jidx0 ad (jrow15 _ _)) ?_
  refine j_iconst (pc := 6) (v := 0) (jd k_Party_forget 4 rfl) (by decide) ?_
  obtain ⟨s10, e11, H⟩ := olet H
  refine jc_S (pc := 7) (st := []) (w := mkC ad G s10) (r := none) (by rw [← e11, ← (wrR_1 ad G s hk0 (w := 0) jlt0 _)]; exact c_Arrays_fill G (mkC ad G s) (28 + 15 * k0 + 0) _ 7 (s 0 k0) 0 (by decide) (lkR_1 ad G s hk0 (w := 0) jlt0)) L0_Arrays_fill w623 w624 (jd k_Party_forget 5 rfl) rfl (Nat.le_of_ble_eq_true rfl) (by decide) (Nat.le_refl _) (Nat.le_refl _) rfl rfl ?_
  refine j_aload_n (pc := 10) 0 (jd k_Party_forget 6 rfl) rfl ?_
  refine j_get (pc := 11) (fs := flPy ad s10 k0) (v := .ref (ad (27 + 15 * k0))) fl_Party_11_4 (26 + 15 * k0) (jd k_Party_forget 7 rfl) (lkPy ad G s10 hk0) rfl ?_
  refine j_iconst (pc := 14) (v := 1) (jd k_Party_forget 8 rfl) (by decide) ?_
  refine j_aald (pc := 15) (t0 := 6) (v := ad (28 + 15 * k0 + 1)) (27 + 15 * k0) (jd k_Party_forget 9 rfl) (lkAA_1 ad G s10 hk0) rfl rfl (jidx.vp jidx1) (jidx.row jidx1 ad (jrow15 _ _)) ?_
  refine j_iconst (pc := 16) (v := 0) (jd k_Party_forget 10 rfl) (by decide) ?_
  obtain ⟨s12, e13, H⟩ := olet H
  refine jc_S (pc := 17) (st := []) (w := mkC ad G s12) (r := none) (by rw [← e13, ← (wrR_1 ad G s10 hk0 (w := 1) jlt1 _)]; exact c_Arrays_fill G (mkC ad G s10) (28 + 15 * k0 + 1) _ 7 (s10 1 k0) 0 (by decide) (lkR_1 ad G s10 hk0 (w := 1) jlt1)) L0_Arrays_fill w623 w624 (jd k_Party_forget 11 rfl) rfl (Nat.le_of_ble_eq_true rfl) (by decide) (Nat.le_refl _) (Nat.le_refl _) rfl rfl ?_
  refine j_aload_n (pc := 20) 0 (jd k_Party_forget 12 rfl) rfl ?_
  refine j_get (pc := 21) (fs := flPy ad s12 k0) (v := .ref (ad (30 + 15 * k0))) fl_Party_16_4 (26 + 15 * k0) (jd k_Party_forget 13 rfl) (lkPy ad G s12 hk0) rfl ?_
  refine j_iconst (pc := 24) (v := 0) (jd k_Party_forget 14 rfl) (by decide) ?_
  obtain ⟨s14, e15, H⟩ := olet H
  refine jc_S (pc := 25) (st := []) (w := mkC ad G s14) (r := none) (by rw [← e15, ← (wrA_4 ad G s12 hk0 _)]; exact c_Arrays_fill G (mkC ad G s12) (30 + 15 * k0) _ 7 (s12 2 k0) 0 (by decide) (lkA_4 ad G s12 hk0)) L0_Arrays_fill w623 w624 (jd k_Party_forget 15 rfl) rfl (Nat.le_of_ble_eq_true rfl) (by decide) (Nat.le_refl _) (Nat.le_refl _) rfl rfl ?_
  refine j_aload_n (pc := 28) 0 (jd k_Party_forget 16 rfl) rfl ?_
  refine j_bipush (pc := 29) (v := 8) (jd k_Party_forget 17 rfl) (by decide) ?_
  obtain ⟨s16, e17, H⟩ := olet H
  refine j_put (pc := 31) (fs := flPy ad s14 k0) (fp_Party_52_4 _) (26 + 15 * k0) (jd k_Party_forget 18 rfl) (lkPy ad G s14 hk0) rfl rfl (Nat.le_of_ble_eq_true rfl) ((wrPy_6 ad G s14 hk0 _).trans (congrArg (mkC ad G) e17)) ?_
  cases H
  subst hP9
  exact j_vret (pc := 34) (jd k_Party_forget 19 rfl) rfl ⟨rfl, rfl⟩

set_option maxRecDepth 20000 in
theorem lp_Party_clear_6 {ad : Nat → Nat} {G : jG} {P : jR → va_W → Prop} (k0 : Nat) (hk0 : k0 < 7) : ∀ (n : Nat) (x12 : Int32) (s13 : jU) (r : Int32 × jU), L_Party_clear_6 k0 n x12 s13 = some r → J G m_Party_clear 2 0 0 P 54 [(0, .ref (ad (26 + 15 * k0))), (1, .int r.1)] [] (mkC ad G r.2) 0 0 → J G m_Party_clear 2 0 0 P 6 [(0, .ref (ad (26 + 15 * k0))), (1, .int x12)] [] (mkC ad G s13) 0 0 := by
  intro n
  induction n with
  | zero =>
    intro x12 s13 r H
    cases (show none = some r from H)
  | succ n ih =>
    intro x12 s13 r H kx
    have H : (
    if 2 ≤ x12 then
      some (x12, s13)
    else
      Option.bind (jidx x12 2) fun k15 =>
      jlet (ups s13 (3 + k15) k0 (afl 7 (-1) (s13 (3 + k15) k0))) fun s17 =>
      Option.bind (jidx x12 2) fun k19 =>
      jlet (ups s17 (5 + k19) k0 (afl 8 (-1) (s17 (5 + k19) k0))) fun s21 =>
      Option.bind (jidx x12 2) fun k23 =>
      jlet (ups s21 (7 + k23) k0 (afl 8 (-1) (s21 (7 + k23) k0))) fun s25 =>
      if jin x12 2 then
      jlet (ups s25 9 k0 (upd (s25 9 k0) x12.toNatClampNeg (-1))) fun s27 =>
      jlet (x12 + 1) fun x30 =>
      L_Party_clear_6 k0 n x30 s27
      else none) = some r := H
    refine j_iload_n (pc := 6) 1 (jd k_Party_clear 4 rfl) rfl ?_
    refine j_iconst (pc := 7) (v := 2) (jd k_Party_clear 5 rfl) (by decide) ?_
    refine j_icmp_ge (pc := 8) (tgt := 54) (jd k_Party_clear 6 rfl) rfl (fun h14 => ?_) (fun h14 => ?_)
    · rw [if_pos h14] at H
      cases H
      exact kx
    · rw [if_neg h14] at H
      refine j_aload_n (pc := 11) 0 (jd k_Party_clear 7 rfl) rfl ?_
      refine j_get (pc := 12) (fs := flPy ad s13 k0) (v := .ref (ad (31 + 15 * k0))) fl_Party_20_4 (26 + 15 * k0) (jd k_Party_clear 8 rfl) (lkPy ad G s13 hk0) rfl ?_
      refine j_iload_n (pc := 15) 1 (jd k_Party_clear 9 rfl) rfl ?_
      obtain ⟨k15, h16, H⟩ := obnd H
      have hk15 : k15 < 2 := jidx.lt h16
      refine j_aald (pc := 16) (t0 := 6) (v := ad (32 + 15 * k0 + k15)) (31 + 15 * k0) (jd k_Party_clear 10 rfl) (lkAA_5 ad G s13 hk0) rfl rfl (jidx.vp h16) (jidx.row h16 ad (jrow15 _ _)) ?_
      refine j_iconst (pc := 17) (v := (-1)) (jd k_Party_clear 11 rfl) (by decide) ?_
      obtain ⟨s17, e18, H⟩ := olet H
      refine jc_S (pc := 18) (st := []) (w := mkC ad G s17) (r := none) (by rw [← e18, ← (wrR_5 ad G s13 hk0 (w := k15) hk15 _)]; exact c_Arrays_fill G (mkC ad G s13) (32 + 15 * k0 + k15) _ 7 (s13 (3 + k15) k0) (-1) (by decide) (lkR_5 ad G s13 hk0 (w := k15) hk15)) L0_Arrays_fill w623 w624 (jd k_Party_clear 12 rfl) rfl (Nat.le_of_ble_eq_true rfl) (by decide) (Nat.le_refl _) (Nat.le_refl _) rfl rfl ?_
      refine j_aload_n (pc := 21) 0 (jd k_Party_clear 13 rfl) rfl ?_
      refine j_get (pc := 22) (fs := flPy ad s17 k0) (v := .ref (ad (34 + 15 * k0))) fl_Party_23_4 (26 + 15 * k0) (jd k_Party_clear 14 rfl) (lkPy ad G s17 hk0) rfl ?_
      refine j_iload_n (pc := 25) 1 (jd k_Party_clear 15 rfl) rfl ?_
      obtain ⟨k19, h20, H⟩ := obnd H
      have hk19 : k19 < 2 := jidx.lt h20
      refine j_aald (pc := 26) (t0 := 6) (v := ad (35 + 15 * k0 + k19)) (34 + 15 * k0) (jd k_Party_clear 16 rfl) (lkAA_8 ad G s17 hk0) rfl rfl (jidx.vp h20) (jidx.row h20 ad (jrow15 _ _)) ?_
      refine j_iconst (pc := 27) (v := (-1)) (jd k_Party_clear 17 rfl) (by decide) ?_
      obtain ⟨s21, e22, H⟩ := olet H
      refine jc_S (pc := 28) (st := []) (w := mkC ad G s21) (r := none) (by rw [← e22, ← (wrR_8 ad G s17 hk0 (w := k19) hk19 _)]; exact c_Arrays_fill G (mkC ad G s17) (35 + 15 * k0 + k19) _ 8 (s17 (5 + k19) k0) (-1) (by decide) (lkR_8 ad G s17 hk0 (w := k19) hk19)) L0_Arrays_fill w623 w624 (jd k_Party_clear 18 rfl) rfl (Nat.le_of_ble_eq_true rfl) (by decide) (Nat.le_refl _) (Nat.le_refl _) rfl rfl ?_
      refine j_aload_n (pc := 31) 0 (jd k_Party_clear 19 rfl) rfl ?_
      refine j_get (pc := 32) (fs := flPy ad s21 k0) (v := .ref (ad (37 + 15 * k0))) fl_Party_26_4 (26 + 15 * k0) (jd k_Party_clear 20 rfl) (lkPy ad G s21 hk0) rfl ?_
      refine j_iload_n (pc := 35) 1 (jd k_Party_clear 21 rfl) rfl ?_
      obtain ⟨k23, h24, H⟩ := obnd H
      have hk23 : k23 < 2 := jidx.lt h24
      refine j_aald (pc := 36) (t0 := 6) (v := ad (38 + 15 * k0 + k23)) (37 + 15 * k0) (jd k_Party_clear 22 rfl) (lkAA_11 ad G s21 hk0) rfl rfl (jidx.vp h24) (jidx.row h24 ad (jrow15 _ _)) ?_
      refine j_iconst (pc := 37) (v := (-1)) (jd k_Party_clear 23 rfl) (by decide) ?_
      obtain ⟨s25, e26, H⟩ := olet H
      refine jc_S (pc := 38) (st := []) (w := mkC ad G s25) (r := none) (by rw [← e26, ← (wrR_11 ad G s21 hk0 (w := k23) hk23 _)]; exact c_Arrays_fill G (mkC ad G s21) (38 + 15 * k0 + k23) _ 8 (s21 (7 + k23) k0) (-1) (by decide) (lkR_11 ad G s21 hk0 (w := k23) hk23)) L0_Arrays_fill w623 w624 (jd k_Party_clear 24 rfl) rfl (Nat.le_of_ble_eq_true rfl) (by decide) (Nat.le_refl _) (Nat.le_refl _) rfl rfl ?_
      refine j_aload_n (pc := 41) 0 (jd k_Party_clear 25 rfl) rfl ?_
      refine j_get (pc := 42) (fs := flPy ad s25 k0) (v := .ref (ad (40 + 15 * k0))) fl_Party_29_4 (26 + 15 * k0) (jd k_Party_clear 26 rfl) (lkPy ad G s25 hk0) rfl ?_
      refine j_iload_n (pc := 45) 1 (jd k_Party_clear 27 rfl) rfl ?_
      refine j_iconst (pc := 46) (v := (-1)) (jd k_Party_clear 28 rfl) (by decide) ?_
      obtain ⟨h29, H⟩ := ochk H
      obtain ⟨s27, e28, H⟩ := olet H
      refine j_iast (pc := 47) (f := s25 9 k0) (40 + 15 * k0) (jd k_Party_clear 29 rfl) (lkA_14 ad G s25 hk0) (jin.vp h29) ((wrA_14 ad G s25 hk0 _).trans (congrArg (mkC ad G) e28)) ?_
      obtain ⟨x30, e31, H⟩ := olet H
      refine j_iinc (pc := 48) (lv' := [(0, .ref (ad (26 + 15 * k0))), (1, .int x30)]) 1 (jd k_Party_clear 30 rfl) rfl e31 rfl (Nat.le_of_ble_eq_true rfl) rfl ?_
      refine j_goto (pc := 51) (tgt := 6) (jd k_Party_clear 31 rfl) rfl ?_
      exact ih x30 s27 _ H kx

set_option maxRecDepth 20000 in
theorem c_Party_clear (ad : Nat → Nat) (G : jG) (k0 : Nat) (hk0 : k0 < 7) (s : jU) (r : jU) (H : f_Party_clear k0 s = some r) : jCon G m_Party_clear y_Party_clear 2 0 0 [.ref (ad (26 + 15 * k0))] (mkC ad G s) (jEq none (mkC ad G r)) := by
  refine jCon.of (by decide +kernel) rfl rfl rfl (Nat.le_of_ble_eq_true rfl) rfl ?_
  have H : (
  Option.bind (f_Party_forget k0 s) fun s11 =>
  Option.bind (L_Party_clear_6 k0 jF 0 s11) fun (x32, s33) =>
  jlet (ups s33 11 k0 (fun _ => 0)) fun s35 =>
  jlet (ups s35 12 k0 (fun _ => 0)) fun s37 =>
  jlet (ups s37 13 k0 (fun _ => 0)) fun s39 =>
  some s39) = some r := H
  generalize hP9 : jEq none (mkC ad G r) = P
  refine j_aload_n (pc := 0) 0 (jd k_Party_clear 0 rfl) rfl ?_
  obtain ⟨s11, h10, H⟩ := obnd H
  refine jc_V (pc := 1) (st := []) (c_Party_forget ad G k0 hk0 s _ h10) L0_Party_forget w619 w620 w621 (26 + 15 * k0) (lkPy ad G s hk0) rfl (jd k_Party_clear 1 rfl) rfl (Nat.le_of_ble_eq_true rfl) (by decide) (Nat.le_refl _) (Nat.le_refl _) rfl rfl ?_
  refine j_iconst (pc := 4) (v := 0) (jd k_Party_clear 2 rfl) (by decide) ?_
  refine j_istore_n (pc := 5) (lv' := [(0, .ref (ad (26 + 15 * k0))), (1, .int 0)]) (jd k_Party_clear 3 rfl) rfl (Nat.le_of_ble_eq_true rfl) rfl ?_
  obtain ⟨⟨x32, s33⟩, h34, H⟩ := obnd H
  try dsimp only at H
  refine lp_Party_clear_6 k0 hk0 jF 0 s11 _ h34 ?_
  refine j_pick (lv' := [(0, .ref (ad (26 + 15 * k0)))]) [0] rfl ?_
  refine j_aload_n (pc := 54) 0 (jd k_Party_clear 32 rfl) rfl ?_
  refine j_iconst (pc := 55) (v := 0) (jd k_Party_clear 33 rfl) (by decide) ?_
  obtain ⟨s35, e36, H⟩ := olet H
  refine j_put (pc := 56) (fs := flPy ad s33 k0) (fp_Party_41_4 _) (26 + 15 * k0) (jd k_Party_clear 34 rfl) (lkPy ad G s33 hk0) rfl rfl (Nat.le_of_ble_eq_true rfl) ((wrPy_7 ad G s33 hk0 _).trans (congrArg (mkC ad G) e36)) ?_
  refine j_aload_n (pc := 59) 0 (jd k_Party_clear 35 rfl) rfl ?_
  refine j_iconst (pc := 60) (v := 0) (jd k_Party_clear 36 rfl) (by decide) ?_
  obtain ⟨s37, e38, H⟩ := olet H
  refine j_put (pc := 61) (fs := flPy ad s35 k0) (fp_Party_45_4 _) (26 + 15 * k0) (jd k_Party_clear 37 rfl) (lkPy ad G s35 hk0) rfl rfl (Nat.le_of_ble_eq_true rfl) ((wrPy_8 ad G s35 hk0 _).trans (congrArg (mkC ad G) e38)) ?_
  refine j_aload_n (pc := 64) 0 (jd k_Party_clear 38 rfl) rfl ?_
  refine j_iconst (pc := 65) (v := 0) (jd k_Party_clear 39 rfl) (by decide) ?_
  obtain ⟨s39, e40, H⟩ := olet H
  refine j_put (pc := 66) (fs := flPy ad s37 k0) (fp_Party_49_4 _) (26 + 15 * k0) (jd k_Party_clear 40 rfl) (lkPy ad G s37 hk0) rfl rfl (Nat.le_of_ble_eq_true rfl) ((wrPy_9 ad G s37 hk0 _).trans (congrArg (mkC ad G) e40)) ?_
  cases H
  subst hP9
  exact j_vret (pc := 69) (jd k_Party_clear 41 rfl) rfl ⟨rfl, rfl⟩

set_option maxRecDepth 20000 in
theorem lp_Room_start_77 {ad : Nat → Nat} {G : jG} {P : jR → va_W → Prop} : ∀ (n : Nat) (x34 : Int32) (s35 : jU) (r : Int32 × jU), L_Room_start_77 n x34 s35 = some r → J G m_Room_start 3 0 0 P 99 [(0, .ref (ad 9)), (4, .int r.1)] [] (mkC ad G r.2) 0 0 → J G m_Room_start 3 0 0 P 77 [(0, .ref (ad 9)), (4, .int x34)] [] (mkC ad G s35) 0 0 := by
  intro n
  induction n with
  | zero =>
    intro x34 s35 r H
    cases (show none = some r from H)
  | succ n ih =>
    intro x34 s35 r H kx
    have H : (
    if 7 < x34 then
      some (x34, s35)
    else
      Option.bind (jidx (x34 - 1) 7) fun k37 =>
      Option.bind (f_Party_clear k37 s35) fun s40 =>
      jlet (x34 + 1) fun x41 =>
      L_Room_start_77 n x41 s40) = some r := H
    refine j_iload (pc := 77) 1 (jd k_Room_start 42 rfl) rfl ?_
    refine j_bipush (pc := 79) (v := 7) (jd k_Room_start 43 rfl) (by decide) ?_
    refine j_icmp_gt (pc := 81) (tgt := 99) (jd k_Room_start 44 rfl) rfl (fun h36 => ?_) (fun h36 => ?_)
    · rw [if_pos h36] at H
      cases H
      exact kx
    · rw [if_neg h36] at H
      refine j_aload_n (pc := 84) 0 (jd k_Room_start 45 rfl) rfl ?_
      refine j_iload (pc := 85) 1 (jd k_Room_start 46 rfl) rfl ?_
      obtain ⟨k37, h38, H⟩ := obnd H
      have hk37 : k37 < 7 := jidx.lt h38
      refine jc_V (pc := 87) (st := []) (c_Room_party ad G x34 s35 k37 h38) L0_Room_party w401 w403 w1 9 rfl rfl (jd k_Room_start 47 rfl) rfl (Nat.le_of_ble_eq_true rfl) (by decide) (Nat.le_refl _) (Nat.le_refl _) rfl rfl ?_
      obtain ⟨s40, h39, H⟩ := obnd H
      refine jc_V (pc := 90) (st := []) (c_Party_clear ad G k37 hk37 s35 _ h39) L0_Party_clear w615 w616 w617 (26 + 15 * k37) (lkPy ad G s35 hk37) rfl (jd k_Room_start 48 rfl) rfl (Nat.le_of_ble_eq_true rfl) (by decide) (Nat.le_refl _) (Nat.le_refl _) rfl rfl ?_
      obtain ⟨x41, e42, H⟩ := olet H
      refine j_iinc (pc := 93) (lv' := [(0, .ref (ad 9)), (4, .int x41)]) 1 (jd k_Room_start 49 rfl) rfl e42 rfl (Nat.le_of_ble_eq_true rfl) rfl ?_
      refine j_goto (pc := 96) (tgt := 77) (jd k_Room_start 50 rfl) rfl ?_
      exact ih x41 s40 _ H kx

set_option maxRecDepth 20000 in
theorem c_Room_start (ad : Nat → Nat) (G : jG) (p0 : Int32) (p1 : Int32) (p2 : Int32) (s : jU) (r : jU) (H : f_Room_start p0 p1 p2 s = some r) : jCon G m_Room_start y_Room_start 3 0 0 [.ref (ad 9), .int p0, .int p1, .int p2] (mkC ad G s) (jEq none (mkC ad G r)) := by
  refine jCon.of (by decide +kernel) rfl rfl rfl (Nat.le_of_ble_eq_true rfl) rfl ?_
  have H : (
  Option.bind (jidx p0 2) fun k10 =>
  jlet (ups s 50 0 (fun _ => Int32.ofNat k10)) fun s12 =>
  jlet (ups s12 53 0 (fun _ => Int32.ofNat (1 + (gnum (s12 50 0 0))))) fun s14 =>
  jlet (ups s14 20 0 (fun _ => p1)) fun s16 =>
  jlet (ups s16 21 0 (fun _ => p2)) fun s18 =>
  jlet (ups s18 22 0 (fun _ => 1)) fun s20 =>
  jlet (ups s20 23 0 (fun _ => 0)) fun s22 =>
  jlet (ups s22 24 0 (fun _ => 0)) fun s24 =>
  jlet (ups s24 25 0 (fun _ => 0)) fun s26 =>
  jlet (ups s26 26 0 (fun _ => 0)) fun s28 =>
  jlet (ups s28 27 0 (fun _ => gneu (gnum (s28 50 0 0)))) fun s30 =>
  Option.bind (f_Board_clear s30) fun s33 =>
  Option.bind (L_Room_start_77 jF 1 s33) fun (x43, s44) =>
  some s44) = some r := H
  generalize hP9 : jEq none (mkC ad G r) = P
  refine j_aload_n (pc := 0) 0 (jd k_Room_start 0 rfl) rfl ?_
  refine j_aload_n (pc := 1) 0 (jd k_Room_start 1 rfl) rfl ?_
  refine j_get (pc := 2) (fs := flRm ad s) (v := .ref (ad 10)) fl_Room_30_7 9 (jd k_Room_start 2 rfl) rfl rfl ?_
  refine j_iload_n (pc := 5) 1 (jd k_Room_start 3 rfl) rfl ?_
  obtain ⟨k10, h11, H⟩ := obnd H
  have hk10 : k10 < 2 := jidx.lt h11
  refine j_aald (pc := 6) (t0 := 4) (v := ad (11 + k10)) 10 (jd k_Room_start 4 rfl) rfl rfl rfl (jidx.vp h11) (jidx.fn h11 (fun k => ad (11 + k))) ?_
  obtain ⟨s12, e13, H⟩ := olet H
  refine j_put (pc := 7) (fs := flRm ad s) (fp_Room_34_7 _) 9 (jd k_Room_start 5 rfl) rfl rfl rfl (Nat.le_of_ble_eq_true rfl) ((wrRm_5 ad G s hk10).trans (congrArg (mkC ad G) e13)) ?_
  refine j_aload_n (pc := 10) 0 (jd k_Room_start 6 rfl) rfl ?_
  refine j_aload_n (pc := 11) 0 (jd k_Room_start 7 rfl) rfl ?_
  refine j_get (pc := 12) (fs := flRm ad s12) (v := .ref (ad (11 + (gnum (s12 50 0 0))))) fl_Room_34_7 9 (jd k_Room_start 8 rfl) rfl rfl ?_
  refine g_exp (pc := 15) fl_Room_38_9 fl_Room_38_3 (g := gnum (s12 50 0 0)) (gnum_lt _) (jd k_Room_start 9 rfl) ?_
  obtain ⟨s14, e15, H⟩ := olet H
  refine j_put (pc := 18) (fs := flRm ad s12) (fp_Room_42_7 _) 9 (jd k_Room_start 10 rfl) rfl rfl rfl (Nat.le_of_ble_eq_true rfl) ((wrRm_6 ad G s12 (gf_lt (gnum_lt _))).trans (congrArg (mkC ad G) e15)) ?_
  refine j_aload_n (pc := 21) 0 (jd k_Room_start 11 rfl) rfl ?_
  refine j_iload_n (pc := 22) 2 (jd k_Room_start 12 rfl) rfl ?_
  obtain ⟨s16, e17, H⟩ := olet H
  refine j_put (pc := 23) (fs := flRm ad s14) (fp_Room_55_7 _) 9 (jd k_Room_start 13 rfl) rfl rfl rfl (Nat.le_of_ble_eq_true rfl) ((wrRm_7 ad G s14 _).trans (congrArg (mkC ad G) e17)) ?_
  refine j_aload_n (pc := 26) 0 (jd k_Room_start 14 rfl) rfl ?_
  refine j_iload_n (pc := 27) 3 (jd k_Room_start 15 rfl) rfl ?_
  obtain ⟨s18, e19, H⟩ := olet H
  refine j_put (pc := 28) (fs := flRm ad s16) (fp_Room_59_7 _) 9 (jd k_Room_start 16 rfl) rfl rfl rfl (Nat.le_of_ble_eq_true rfl) ((wrRm_8 ad G s16 _).trans (congrArg (mkC ad G) e19)) ?_
  refine j_aload_n (pc := 31) 0 (jd k_Room_start 17 rfl) rfl ?_
  refine j_iconst (pc := 32) (v := 1) (jd k_Room_start 18 rfl) (by decide) ?_
  obtain ⟨s20, e21, H⟩ := olet H
  refine j_put (pc := 33) (fs := flRm ad s18) (fp_Room_72_7 _) 9 (jd k_Room_start 19 rfl) rfl rfl rfl (Nat.le_of_ble_eq_true rfl) ((wrRm_9 ad G s18 _).trans (congrArg (mkC ad G) e21)) ?_
  refine j_aload_n (pc := 36) 0 (jd k_Room_start 20 rfl) rfl ?_
  refine j_iconst (pc := 37) (v := 0) (jd k_Room_start 21 rfl) (by decide) ?_
  obtain ⟨s22, e23, H⟩ := olet H
  refine j_put (pc := 38) (fs := flRm ad s20) (fp_Room_75_7 _) 9 (jd k_Room_start 22 rfl) rfl rfl rfl (Nat.le_of_ble_eq_true rfl) ((wrRm_10 ad G s20 _).trans (congrArg (mkC ad G) e23)) ?_
  refine j_aload_n (pc := 41) 0 (jd k_Room_start 23 rfl) rfl ?_
  refine j_iconst (pc := 42) (v := 0) (jd k_Room_start 24 rfl) (by decide) ?_
  obtain ⟨s24, e25, H⟩ := olet H
  refine j_put (pc := 43) (fs := flRm ad s22) (fp_Room_78_7 _) 9 (jd k_Room_start 25 rfl) rfl rfl rfl (Nat.le_of_ble_eq_true rfl) ((wrRm_11 ad G s22 _).trans (congrArg (mkC ad G) e25)) ?_
  refine j_aload_n (pc := 46) 0 (jd k_Room_start 26 rfl) rfl ?_
  refine j_iconst (pc := 47) (v := 0) (jd k_Room_start 27 rfl) (by decide) ?_
  obtain ⟨s26, e27, H⟩ := olet H
  refine j_put (pc := 48) (fs := flRm ad s24) (fp_Room_81_7 _) 9 (jd k_Room_start 28 rfl) rfl rfl rfl (Nat.le_of_ble_eq_true rfl) ((wrRm_12 ad G s24 _).trans (congrArg (mkC ad G) e27)) ?_
  refine j_aload_n (pc := 51) 0 (jd k_Room_start 29 rfl) rfl ?_
  refine j_iconst (pc := 52) (v := 0) (jd k_Room_start 30 rfl) (by decide) ?_
  obtain ⟨s28, e29, H⟩ := olet H
  refine j_put (pc := 53) (fs := flRm ad s26) (fp_Room_84_7 _) 9 (jd k_Room_start 31 rfl) rfl rfl rfl (Nat.le_of_ble_eq_true rfl) ((wrRm_13 ad G s26 _).trans (congrArg (mkC ad G) e29)) ?_
  refine j_aload_n (pc := 56) 0 (jd k_Room_start 32 rfl) rfl ?_
  refine j_aload_n (pc := 57) 0 (jd k_Room_start 33 rfl) rfl ?_
  refine j_get (pc := 58) (fs := flRm ad s28) (v := .ref (ad (11 + (gnum (s28 50 0 0))))) fl_Room_34_7 9 (jd k_Room_start 34 rfl) rfl rfl ?_
  refine g_neu (pc := 61) fl_Room_87_9 fl_Room_87_3 (g := gnum (s28 50 0 0)) (gnum_lt _) (jd k_Room_start 35 rfl) ?_
  obtain ⟨s30, e31, H⟩ := olet H
  refine j_put (pc := 64) (fs := flRm ad s28) (fp_Room_90_7 _) 9 (jd k_Room_start 36 rfl) rfl rfl rfl (Nat.le_of_ble_eq_true rfl) ((wrRm_14 ad G s28 _).trans (congrArg (mkC ad G) e31)) ?_
  refine j_aload_n (pc := 67) 0 (jd k_Room_start 37 rfl) rfl ?_
  refine j_get (pc := 68) (fs := flRm ad s30) (v := .ref (ad 15)) fl_Room_20_7 9 (jd k_Room_start 38 rfl) rfl rfl ?_
  obtain ⟨s33, h32, H⟩ := obnd H
  refine jc_V (pc := 71) (st := []) (c_Board_clear ad G s30 _ h32) L0_Board_clear w611 w612 w613 15 rfl rfl (jd k_Room_start 39 rfl) rfl (Nat.le_of_ble_eq_true rfl) (by decide) (Nat.le_refl _) (Nat.le_refl _) rfl rfl ?_
  refine j_iconst (pc := 74) (v := 1) (jd k_Room_start 40 rfl) (by decide) ?_
  refine j_istore (pc := 75) (lv' := [(0, .ref (ad 9)), (1, .int p0), (2, .int p1), (3, .int p2), (4, .int 1)]) (jd k_Room_start 41 rfl) rfl (Nat.le_of_ble_eq_true rfl) rfl ?_
  obtain ⟨⟨x43, s44⟩, h45, H⟩ := obnd H
  try dsimp only at H
  refine j_pick (lv' := [(0, .ref (ad 9)), (4, .int 1)]) [0, 4] rfl ?_
  refine lp_Room_start_77  jF 1 s33 _ h45 ?_
  refine j_pick (lv' := []) [] rfl ?_
  cases H
  subst hP9
  exact j_vret (pc := 99) (jd k_Room_start 51 rfl) rfl ⟨rfl, rfl⟩

set_option maxRecDepth 20000 in
theorem c_SR_begin (ad : Nat → Nat) (G : jG) (p0 : Int32) (p1 : Int32) (p2 : Int32) (s : jU) (r : String ⊕ (jU)) (H : f_SR_begin p0 p1 p2 s = some r) : jCon G m_SR_begin y_SR_begin 4 1 6 [.ref (ad 0), .int p0, .int p1, .int p2] (mkC ad G s) (jRs (mkC ad G s) (fun _ => none) (fun a => mkC ad G a) r) := by
  refine jCon.of (by decide +kernel) rfl rfl rfl (Nat.le_of_ble_eq_true rfl) rfl ?_
  have H : (
  Option.bind (f_Room_hasGroup p0) fun x11 =>
  if x11 = 0 then
    some (.inl "java/lang/IllegalArgumentException")
  else
    Option.bind (f_Room_isCommittee p1 p2) fun x14 =>
    if ¬ x14 = 0 then
      Option.bind (f_Room_start p0 p1 p2 s) fun s17 =>
      some (.inr s17)
    else
      some (.inl "java/lang/IllegalArgumentException")) = some r := H
  generalize hP9 : jRs (mkC ad G s) (fun _ => none) (fun a => mkC ad G a) r = P
  refine j_aload_n (pc := 0) 0 (jd k_SR_begin 0 rfl) rfl ?_
  refine j_get (pc := 1) (fs := [.ref (ad 1), .ref (ad 5), .ref (ad 9)]) (v := .ref (ad 9)) fl_SR_43_0 0 (jd k_SR_begin 1 rfl) rfl rfl ?_
  refine j_iload_n (pc := 4) 1 (jd k_SR_begin 2 rfl) rfl ?_
  obtain ⟨x11, h10, H⟩ := obnd H
  refine jc_V (pc := 5) (st := []) (c_Room_hasGroup ad G p0 s _ h10) L0_Room_hasGroup w599 w600 w601 9 rfl rfl (jd k_SR_begin 3 rfl) rfl (Nat.le_of_ble_eq_true rfl) (by decide) (by decide) (by decide) rfl rfl ?_
  refine j_if_eq (pc := 8) (tgt := 19) (jd k_SR_begin 4 rfl) rfl (fun h12 => ?_) (fun h12 => ?_)
  · rw [if_pos h12] at H
    cases H
    subst hP9
    exact j_throw (pc := 19) fit_IllegalArgumentException ex_SR_51 wt444 wt445 wt79 wt606 (jd k_SR_begin 9 rfl) (jd k_SR_begin 10 rfl) (jd k_SR_begin 11 rfl) (jd k_SR_begin 12 rfl) (jd k_SR_begin 13 rfl) rfl (by decide) (Nat.le_of_ble_eq_true rfl) (by decide) (by decide) ⟨rfl, rfl⟩
  · rw [if_neg h12] at H
    refine j_iload_n (pc := 11) 2 (jd k_SR_begin 5 rfl) rfl ?_
    refine j_iload_n (pc := 12) 3 (jd k_SR_begin 6 rfl) rfl ?_
    obtain ⟨x14, h13, H⟩ := obnd H
    refine jc_S (pc := 13) (st := []) (c_Room_isCommittee G _ p1 p2 _ h13) L0_Room_isCommittee w603 w604 (jd k_SR_begin 7 rfl) rfl (Nat.le_of_ble_eq_true rfl) (by decide) (by decide) (by decide) rfl rfl ?_
    refine j_if_ne (pc := 16) (tgt := 29) (jd k_SR_begin 8 rfl) rfl (fun h15 => ?_) (fun h15 => ?_)
    · rw [if_pos h15] at H
      refine j_aload_n (pc := 29) 0 (jd k_SR_begin 14 rfl) rfl ?_
      refine j_get (pc := 30) (fs := [.ref (ad 1), .ref (ad 5), .ref (ad 9)]) (v := .ref (ad 9)) fl_SR_43_0 0 (jd k_SR_begin 15 rfl) rfl rfl ?_
      refine j_iload_n (pc := 33) 1 (jd k_SR_begin 16 rfl) rfl ?_
      refine j_iload_n (pc := 34) 2 (jd k_SR_begin 17 rfl) rfl ?_
      refine j_iload_n (pc := 35) 3 (jd k_SR_begin 18 rfl) rfl ?_
      obtain ⟨s17, h16, H⟩ := obnd H
      refine jc_V (pc := 36) (st := []) (c_Room_start ad G p0 p1 p2 s _ h16) L0_Room_start w607 w608 w609 9 rfl rfl (jd k_SR_begin 19 rfl) rfl (Nat.le_of_ble_eq_true rfl) (by decide) (by decide) (by decide) rfl rfl ?_
      cases H
      subst hP9
      refine j_widen (k' := 1) (n' := 6) (by decide) (by decide) ?_
      exact j_vret (pc := 39) (jd k_SR_begin 20 rfl) rfl ⟨rfl, rfl⟩
    · rw [if_neg (not_not_intro h15)] at H
      cases H
      subst hP9
      exact j_throw (pc := 19) fit_IllegalArgumentException ex_SR_51 wt444 wt445 wt79 wt606 (jd k_SR_begin 9 rfl) (jd k_SR_begin 10 rfl) (jd k_SR_begin 11 rfl) (jd k_SR_begin 12 rfl) (jd k_SR_begin 13 rfl) rfl (by decide) (Nat.le_of_ble_eq_true rfl) (by decide) (by decide) ⟨rfl, rfl⟩

set_option maxRecDepth 20000 in
theorem c_Room_takesCoefficients (ad : Nat → Nat) (G : jG) (s : jU) (r : Int32) (H : f_Room_takesCoefficients s = some r) : jCon G m_Room_takesCoefficients y_Room_takesCoefficients 0 0 0 [.ref (ad 9)] (mkC ad G s) (jEq (some (.int r)) (mkC ad G s)) := by
  refine jCon.of (by decide +kernel) rfl rfl rfl (Nat.le_of_ble_eq_true rfl) rfl ?_
  have H : (
  Option.bind (α := Int32) (
    if (s 22 0 0) = 0 then
      some 0
    else
      if (s 23 0 0) = 0 then
        some 1
      else
        if (s 22 0 0) = 1 then
          some 0
        else
          some 1) fun x13 =>
  if jbo x13 then
  some x13
  else none) = some r := H
  generalize hP9 : jEq (some (.int r)) (mkC ad G s) = P
  refine j_aload_n (pc := 0) 0 (jd k_Room_takesCoefficients 0 rfl) rfl ?_
  refine j_get (pc := 1) (fs := flRm ad s) (v := .int (s 22 0 0)) fl_Room_72_7 9 (jd k_Room_takesCoefficients 1 rfl) rfl rfl ?_
  obtain ⟨x13, h14, H⟩ := obnd H
  have K15 : J G m_Room_takesCoefficients 0 0 0 P 27 [] [.int x13] (mkC ad G s) 0 0 := by
    obtain ⟨h16, H⟩ := ochk H
    cases H
    subst hP9
    exact j_iret (pc := 27) (jd k_Room_takesCoefficients 13 rfl) rfl (jbo.nar h16) ⟨rfl, rfl⟩
  have H := h14
  refine j_if_eq (pc := 4) (tgt := 26) (jd k_Room_takesCoefficients 2 rfl) rfl (fun h10 => ?_) (fun h10 => ?_)
  · rw [if_pos h10] at H
    refine j_iconst (pc := 26) (v := 0) (jd k_Room_takesCoefficients 12 rfl) (by decide) ?_
    cases H
    exact j_pick [] rfl K15
  · rw [if_neg h10] at H
    refine j_aload_n (pc := 7) 0 (jd k_Room_takesCoefficients 3 rfl) rfl ?_
    refine j_get (pc := 8) (fs := flRm ad s) (v := .int (s 23 0 0)) fl_Room_75_7 9 (jd k_Room_takesCoefficients 4 rfl) rfl rfl ?_
    refine j_if_eq (pc := 11) (tgt := 22) (jd k_Room_takesCoefficients 5 rfl) rfl (fun h11 => ?_) (fun h11 => ?_)
    · rw [if_pos h11] at H
      refine j_iconst (pc := 22) (v := 1) (jd k_Room_takesCoefficients 10 rfl) (by decide) ?_
      refine j_goto (pc := 23) (tgt := 27) (jd k_Room_takesCoefficients 11 rfl) rfl ?_
      cases H
      exact j_pick [] rfl K15
    · rw [if_neg h11] at H
      refine j_aload_n (pc := 14) 0 (jd k_Room_takesCoefficients 6 rfl) rfl ?_
      refine j_get (pc := 15) (fs := flRm ad s) (v := .int (s 22 0 0)) fl_Room_72_7 9 (jd k_Room_takesCoefficients 7 rfl) rfl rfl ?_
      refine j_iconst (pc := 18) (v := 1) (jd k_Room_takesCoefficients 8 rfl) (by decide) ?_
      refine j_icmp_eq (pc := 19) (tgt := 26) (jd k_Room_takesCoefficients 9 rfl) rfl (fun h12 => ?_) (fun h12 => ?_)
      · rw [if_pos h12] at H
        refine j_iconst (pc := 26) (v := 0) (jd k_Room_takesCoefficients 12 rfl) (by decide) ?_
        cases H
        exact j_pick [] rfl K15
      · rw [if_neg h12] at H
        refine j_iconst (pc := 22) (v := 1) (jd k_Room_takesCoefficients 10 rfl) (by decide) ?_
        refine j_goto (pc := 23) (tgt := 27) (jd k_Room_takesCoefficients 11 rfl) rfl ?_
        cases H
        exact j_pick [] rfl K15

set_option maxRecDepth 20000 in
theorem c_Room_hasParty (ad : Nat → Nat) (G : jG) (p0 : Int32) (s : jU) (r : Int32) (H : f_Room_hasParty p0 s = some r) : jCon G m_Room_hasParty y_Room_hasParty 0 0 0 [.ref (ad 9), .int p0] (mkC ad G s) (jEq (some (.int r)) (mkC ad G s)) := by
  refine jCon.of (by decide +kernel) rfl rfl rfl (Nat.le_of_ble_eq_true rfl) rfl ?_
  have H : (
  Option.bind (α := Int32) (
    if p0 < 1 then
      some 0
    else
      if (s 20 0 0) < p0 then
        some 0
      else
        some 1) fun x12 =>
  if jbo x12 then
  some x12
  else none) = some r := H
  generalize hP9 : jEq (some (.int r)) (mkC ad G s) = P
  refine j_iload_n (pc := 0) 1 (jd k_Room_hasParty 0 rfl) rfl ?_
  refine j_iconst (pc := 1) (v := 1) (jd k_Room_hasParty 1 rfl) (by decide) ?_
  obtain ⟨x12, h13, H⟩ := obnd H
  have K14 : J G m_Room_hasParty 0 0 0 P 18 [] [.int x12] (mkC ad G s) 0 0 := by
    obtain ⟨h15, H⟩ := ochk H
    cases H
    subst hP9
    exact j_iret (pc := 18) (jd k_Room_hasParty 10 rfl) rfl (jbo.nar h15) ⟨rfl, rfl⟩
  have H := h13
  refine j_icmp_lt (pc := 2) (tgt := 17) (jd k_Room_hasParty 2 rfl) rfl (fun h10 => ?_) (fun h10 => ?_)
  · rw [if_pos h10] at H
    refine j_iconst (pc := 17) (v := 0) (jd k_Room_hasParty 9 rfl) (by decide) ?_
    cases H
    exact j_pick [] rfl K14
  · rw [if_neg h10] at H
    refine j_iload_n (pc := 5) 1 (jd k_Room_hasParty 3 rfl) rfl ?_
    refine j_aload_n (pc := 6) 0 (jd k_Room_hasParty 4 rfl) rfl ?_
    refine j_get (pc := 7) (fs := flRm ad s) (v := .int (s 20 0 0)) fl_Room_55_7 9 (jd k_Room_hasParty 5 rfl) rfl rfl ?_
    refine j_icmp_gt (pc := 10) (tgt := 17) (jd k_Room_hasParty 6 rfl) rfl (fun h11 => ?_) (fun h11 => ?_)
    · rw [if_pos h11] at H
      refine j_iconst (pc := 17) (v := 0) (jd k_Room_hasParty 9 rfl) (by decide) ?_
      cases H
      exact j_pick [] rfl K14
    · rw [if_neg h11] at H
      refine j_iconst (pc := 13) (v := 1) (jd k_Room_hasParty 7 rfl) (by decide) ?_
      refine j_goto (pc := 14) (tgt := 18) (jd k_Room_hasParty 8 rfl) rfl ?_
      cases H
      exact j_pick [] rfl K14

set_option maxRecDepth 20000 in
theorem c_SR_needParty (ad : Nat → Nat) (G : jG) (p0 : Int32) (s : jU) (r : String ⊕ (Unit)) (H : f_SR_needParty p0 s = some r) : jCon G m_SR_needParty y_SR_needParty 4 1 6 [.ref (ad 0), .int p0] (mkC ad G s) (jRs (mkC ad G s) (fun _ => none) (fun _ => (mkC ad G s)) r) := by
  refine jCon.of (by decide +kernel) rfl rfl rfl (Nat.le_of_ble_eq_true rfl) rfl ?_
  have H : (
  Option.bind (f_Room_hasParty p0 s) fun x11 =>
  if ¬ x11 = 0 then
    some (.inr ())
  else
    some (.inl "java/lang/IllegalArgumentException")) = some r := H
  generalize hP9 : jRs (mkC ad G s) (fun _ => none) (fun _ => (mkC ad G s)) r = P
  refine j_aload_n (pc := 0) 0 (jd k_SR_needParty 0 rfl) rfl ?_
  refine j_get (pc := 1) (fs := [.ref (ad 1), .ref (ad 5), .ref (ad 9)]) (v := .ref (ad 9)) fl_SR_43_0 0 (jd k_SR_needParty 1 rfl) rfl rfl ?_
  refine j_iload_n (pc := 4) 1 (jd k_SR_needParty 2 rfl) rfl ?_
  obtain ⟨x11, h10, H⟩ := obnd H
  refine jc_V (pc := 5) (st := []) (c_Room_hasParty ad G p0 s _ h10) L0_Room_hasParty w642 w643 w644 9 rfl rfl (jd k_SR_needParty 3 rfl) rfl (Nat.le_of_ble_eq_true rfl) (by decide) (by decide) (by decide) rfl rfl ?_
  refine j_if_ne (pc := 8) (tgt := 21) (jd k_SR_needParty 4 rfl) rfl (fun h12 => ?_) (fun h12 => ?_)
  · rw [if_pos h12] at H
    cases H
    subst hP9
    refine j_widen (k' := 1) (n' := 6) (by decide) (by decide) ?_
    exact j_vret (pc := 21) (jd k_SR_needParty 10 rfl) rfl ⟨rfl, rfl⟩
  · rw [if_neg (not_not_intro h12)] at H
    cases H
    subst hP9
    exact j_throw (pc := 11) fit_IllegalArgumentException ex_SR_51 wt444 wt445 wt79 wt646 (jd k_SR_needParty 5 rfl) (jd k_SR_needParty 6 rfl) (jd k_SR_needParty 7 rfl) (jd k_SR_needParty 8 rfl) (jd k_SR_needParty 9 rfl) rfl (by decide) (Nat.le_of_ble_eq_true rfl) (by decide) (by decide) ⟨rfl, rfl⟩

set_option maxRecDepth 20000 in
theorem c_Room_hasCoefficient (ad : Nat → Nat) (G : jG) (p0 : Int32) (s : jU) (r : Int32) (H : f_Room_hasCoefficient p0 s = some r) : jCon G m_Room_hasCoefficient y_Room_hasCoefficient 0 0 0 [.ref (ad 9), .int p0] (mkC ad G s) (jEq (some (.int r)) (mkC ad G s)) := by
  refine jCon.of (by decide +kernel) rfl rfl rfl (Nat.le_of_ble_eq_true rfl) rfl ?_
  have H : (
  Option.bind (α := Int32) (
    if p0 < 0 then
      some 0
    else
      if (s 21 0 0) ≤ p0 then
        some 0
      else
        some 1) fun x12 =>
  if jbo x12 then
  some x12
  else none) = some r := H
  generalize hP9 : jEq (some (.int r)) (mkC ad G s) = P
  refine j_iload_n (pc := 0) 1 (jd k_Room_hasCoefficient 0 rfl) rfl ?_
  obtain ⟨x12, h13, H⟩ := obnd H
  have K14 : J G m_Room_hasCoefficient 0 0 0 P 17 [] [.int x12] (mkC ad G s) 0 0 := by
    obtain ⟨h15, H⟩ := ochk H
    cases H
    subst hP9
    exact j_iret (pc := 17) (jd k_Room_hasCoefficient 9 rfl) rfl (jbo.nar h15) ⟨rfl, rfl⟩
  have H := h13
  refine j_if_lt (pc := 1) (tgt := 16) (jd k_Room_hasCoefficient 1 rfl) rfl (fun h10 => ?_) (fun h10 => ?_)
  · rw [if_pos h10] at H
    refine j_iconst (pc := 16) (v := 0) (jd k_Room_hasCoefficient 8 rfl) (by decide) ?_
    cases H
    exact j_pick [] rfl K14
  · rw [if_neg h10] at H
    refine j_iload_n (pc := 4) 1 (jd k_Room_hasCoefficient 2 rfl) rfl ?_
    refine j_aload_n (pc := 5) 0 (jd k_Room_hasCoefficient 3 rfl) rfl ?_
    refine j_get (pc := 6) (fs := flRm ad s) (v := .int (s 21 0 0)) fl_Room_59_7 9 (jd k_Room_hasCoefficient 4 rfl) rfl rfl ?_
    refine j_icmp_ge (pc := 9) (tgt := 16) (jd k_Room_hasCoefficient 5 rfl) rfl (fun h11 => ?_) (fun h11 => ?_)
    · rw [if_pos h11] at H
      refine j_iconst (pc := 16) (v := 0) (jd k_Room_hasCoefficient 8 rfl) (by decide) ?_
      cases H
      exact j_pick [] rfl K14
    · rw [if_neg h11] at H
      refine j_iconst (pc := 12) (v := 1) (jd k_Room_hasCoefficient 6 rfl) (by decide) ?_
      refine j_goto (pc := 13) (tgt := 17) (jd k_Room_hasCoefficient 7 rfl) rfl ?_
      cases H
      exact j_pick [] rfl K14

set_option maxRecDepth 20000 in
theorem c_SR_needCoefficient (ad : Nat → Nat) (G : jG) (p0 : Int32) (s : jU) (r : String ⊕ (Unit)) (H : f_SR_needCoefficient p0 s = some r) : jCon G m_SR_needCoefficient y_SR_needCoefficient 4 1 6 [.ref (ad 0), .int p0] (mkC ad G s) (jRs (mkC ad G s) (fun _ => none) (fun _ => (mkC ad G s)) r) := by
  refine jCon.of (by decide +kernel) rfl rfl rfl (Nat.le_of_ble_eq_true rfl) rfl ?_
  have H : (
  Option.bind (f_Room_hasCoefficient p0 s) fun x11 =>
  if ¬ x11 = 0 then
    some (.inr ())
  else
    some (.inl "java/lang/IllegalArgumentException")) = some r := H
  generalize hP9 : jRs (mkC ad G s) (fun _ => none) (fun _ => (mkC ad G s)) r = P
  refine j_aload_n (pc := 0) 0 (jd k_SR_needCoefficient 0 rfl) rfl ?_
  refine j_get (pc := 1) (fs := [.ref (ad 1), .ref (ad 5), .ref (ad 9)]) (v := .ref (ad 9)) fl_SR_43_0 0 (jd k_SR_needCoefficient 1 rfl) rfl rfl ?_
  refine j_iload_n (pc := 4) 1 (jd k_SR_needCoefficient 2 rfl) rfl ?_
  obtain ⟨x11, h10, H⟩ := obnd H
  refine jc_V (pc := 5) (st := []) (c_Room_hasCoefficient ad G p0 s _ h10) L0_Room_hasCoefficient w651 w652 w653 9 rfl rfl (jd k_SR_needCoefficient 3 rfl) rfl (Nat.le_of_ble_eq_true rfl) (by decide) (by decide) (by decide) rfl rfl ?_
  refine j_if_ne (pc := 8) (tgt := 21) (jd k_SR_needCoefficient 4 rfl) rfl (fun h12 => ?_) (fun h12 => ?_)
  · rw [if_pos h12] at H
    cases H
    subst hP9
    refine j_widen (k' := 1) (n' := 6) (by decide) (by decide) ?_
    exact j_vret (pc := 21) (jd k_SR_needCoefficient 10 rfl) rfl ⟨rfl, rfl⟩
  · rw [if_neg (not_not_intro h12)] at H
    cases H
    subst hP9
    exact j_throw (pc := 11) fit_IllegalArgumentException ex_SR_51 wt444 wt445 wt79 wt655 (jd k_SR_needCoefficient 5 rfl) (jd k_SR_needCoefficient 6 rfl) (jd k_SR_needCoefficient 7 rfl) (jd k_SR_needCoefficient 8 rfl) (jd k_SR_needCoefficient 9 rfl) rfl (by decide) (Nat.le_of_ble_eq_true rfl) (by decide) (by decide) ⟨rfl, rfl⟩

set_option maxRecDepth 20000 in
theorem c_SR_needWhich (ad : Nat → Nat) (G : jG) (p0 : Int32) (s : jU) (r : String ⊕ (Unit)) (H : f_SR_needWhich p0 = some r) : jCon G m_SR_needWhich y_SR_needWhich 4 1 6 [.int p0] (mkC ad G s) (jRs (mkC ad G s) (fun _ => none) (fun _ => (mkC ad G s)) r) := by
  refine jCon.of (by decide +kernel) rfl rfl rfl (Nat.le_of_ble_eq_true rfl) rfl ?_
  have H : (
  if p0 = 0 then
    some (.inr ())
  else
    if p0 = 1 then
      some (.inr ())
    else
      some (.inl "java/lang/IllegalArgumentException")) = some r := H
  generalize hP9 : jRs (mkC ad G s) (fun _ => none) (fun _ => (mkC ad G s)) r = P
  refine j_iload_n (pc := 0) 0 (jd k_SR_needWhich 0 rfl) rfl ?_
  refine j_if_eq (pc := 1) (tgt := 19) (jd k_SR_needWhich 1 rfl) rfl (fun h10 => ?_) (fun h10 => ?_)
  · rw [if_pos h10] at H
    cases H
    subst hP9
    refine j_widen (k' := 1) (n' := 6) (by decide) (by decide) ?_
    exact j_vret (pc := 19) (jd k_SR_needWhich 10 rfl) rfl ⟨rfl, rfl⟩
  · rw [if_neg h10] at H
    refine j_iload_n (pc := 4) 0 (jd k_SR_needWhich 2 rfl) rfl ?_
    refine j_iconst (pc := 5) (v := 1) (jd k_SR_needWhich 3 rfl) (by decide) ?_
    refine j_icmp_eq (pc := 6) (tgt := 19) (jd k_SR_needWhich 4 rfl) rfl (fun h11 => ?_) (fun h11 => ?_)
    · rw [if_pos h11] at H
      cases H
      subst hP9
      refine j_widen (k' := 1) (n' := 6) (by decide) (by decide) ?_
      exact j_vret (pc := 19) (jd k_SR_needWhich 10 rfl) rfl ⟨rfl, rfl⟩
    · rw [if_neg h11] at H
      cases H
      subst hP9
      exact j_throw (pc := 9) fit_IllegalArgumentException ex_SR_51 wt444 wt445 wt79 wt659 (jd k_SR_needWhich 5 rfl) (jd k_SR_needWhich 6 rfl) (jd k_SR_needWhich 7 rfl) (jd k_SR_needWhich 8 rfl) (jd k_SR_needWhich 9 rfl) rfl (by decide) (Nat.le_of_ble_eq_true rfl) (by decide) (by decide) ⟨rfl, rfl⟩

set_option maxRecDepth 20000 in
theorem c_Math_floorMod (G : jG) (ws : va_W) (p0 : Int32) (p1 : Int32) (r : Int32) (H : f_Math_floorMod p0 p1 = some r) : jCon G m_Math_floorMod y_Math_floorMod 0 0 0 [.int p0, .int p1] ws (jEq (some (.int r)) ws) := by
  refine jCon.of (by decide +kernel) rfl rfl rfl (Nat.le_of_ble_eq_true rfl) rfl ?_
  have H : (
  if ¬ p1 = 0 then
  jlet (jrem p0 p1) fun x11 =>
  if 0 ≤ (p0 ^^^ p1) then
    some x11
  else
    if x11 = 0 then
      some x11
    else
      some (x11 + p1)
  else none) = some r := H
  generalize hP9 : jEq (some (.int r)) ws = P
  refine j_iload_n (pc := 0) 0 (jd k_Math_floorMod 0 rfl) rfl ?_
  refine j_iload_n (pc := 1) 1 (jd k_Math_floorMod 1 rfl) rfl ?_
  obtain ⟨h10, H⟩ := ochk H
  refine j_irem (pc := 2) (jd k_Math_floorMod 2 rfl) h10 ?_
  obtain ⟨x11, e14, H⟩ := olet H
  refine j_topi e14 ?_
  refine j_istore_n (pc := 3) (lv' := [(0, .int p0), (1, .int p1), (2, .int x11)]) (jd k_Math_floorMod 3 rfl) rfl (Nat.le_of_ble_eq_true rfl) rfl ?_
  refine j_iload_n (pc := 4) 0 (jd k_Math_floorMod 4 rfl) rfl ?_
  refine j_iload_n (pc := 5) 1 (jd k_Math_floorMod 5 rfl) rfl ?_
  refine j_ixor (pc := 6) (jd k_Math_floorMod 6 rfl) ?_
  refine j_if_ge (pc := 7) (tgt := 18) (jd k_Math_floorMod 7 rfl) rfl (fun h12 => ?_) (fun h12 => ?_)
  · rw [if_pos h12] at H
    refine j_iload_n (pc := 18) 2 (jd k_Math_floorMod 14 rfl) rfl ?_
    cases H
    subst hP9
    exact j_iret (pc := 19) (jd k_Math_floorMod 15 rfl) rfl rfl ⟨rfl, rfl⟩
  · rw [if_neg h12] at H
    refine j_iload_n (pc := 10) 2 (jd k_Math_floorMod 8 rfl) rfl ?_
    refine j_if_eq (pc := 11) (tgt := 18) (jd k_Math_floorMod 9 rfl) rfl (fun h13 => ?_) (fun h13 => ?_)
    · rw [if_pos h13] at H
      refine j_iload_n (pc := 18) 2 (jd k_Math_floorMod 14 rfl) rfl ?_
      cases H
      subst hP9
      exact j_iret (pc := 19) (jd k_Math_floorMod 15 rfl) rfl rfl ⟨rfl, rfl⟩
    · rw [if_neg h13] at H
      refine j_iload_n (pc := 14) 2 (jd k_Math_floorMod 10 rfl) rfl ?_
      refine j_iload_n (pc := 15) 1 (jd k_Math_floorMod 11 rfl) rfl ?_
      refine j_iadd (pc := 16) (jd k_Math_floorMod 12 rfl) ?_
      cases H
      subst hP9
      exact j_iret (pc := 17) (jd k_Math_floorMod 13 rfl) rfl rfl ⟨rfl, rfl⟩

set_option maxRecDepth 20000 in
theorem c_Room_setCoefficient (ad : Nat → Nat) (G : jG) (p0 : Int32) (p1 : Int32) (p2 : Int32) (p3 : Int32) (s : jU) (r : jU) (H : f_Room_setCoefficient p0 p1 p2 p3 s = some r) : jCon G m_Room_setCoefficient y_Room_setCoefficient 1 0 0 [.ref (ad 9), .int p0, .int p1, .int p2, .int p3] (mkC ad G s) (jEq none (mkC ad G r)) := by
  refine jCon.of (by decide +kernel) rfl rfl rfl (Nat.le_of_ble_eq_true rfl) rfl ?_
  have H : (
  Option.bind (jidx (p0 - 1) 7) fun k10 =>
  Option.bind (jidx p2 2) fun k12 =>
  Option.bind (f_Math_floorMod p3 (fsz (fnum (s 53 0 0)))) fun x15 =>
  if jin p1 7 then
  jlet (ups s (0 + k12) k10 (upd (s (0 + k12) k10) p1.toNatClampNeg x15)) fun s16 =>
  some s16
  else none) = some r := H
  generalize hP9 : jEq none (mkC ad G r) = P
  refine j_aload_n (pc := 0) 0 (jd k_Room_setCoefficient 0 rfl) rfl ?_
  refine j_iload_n (pc := 1) 1 (jd k_Room_setCoefficient 1 rfl) rfl ?_
  obtain ⟨k10, h11, H⟩ := obnd H
  have hk10 : k10 < 7 := jidx.lt h11
  refine jc_V (pc := 2) (st := []) (c_Room_party ad G p0 s k10 h11) L0_Room_party w401 w403 w1 9 rfl rfl (jd k_Room_setCoefficient 2 rfl) rfl (Nat.le_of_ble_eq_true rfl) (by decide) (Nat.le_refl _) (Nat.le_refl _) rfl rfl ?_
  refine j_get (pc := 5) (fs := flPy ad s k10) (v := .ref (ad (27 + 15 * k10))) fl_Room_101_4 (26 + 15 * k10) (jd k_Room_setCoefficient 3 rfl) (lkPy ad G s hk10) rfl ?_
  refine j_iload_n (pc := 8) 3 (jd k_Room_setCoefficient 4 rfl) rfl ?_
  obtain ⟨k12, h13, H⟩ := obnd H
  have hk12 : k12 < 2 := jidx.lt h13
  refine j_aald (pc := 9) (t0 := 6) (v := ad (28 + 15 * k10 + k12)) (27 + 15 * k10) (jd k_Room_setCoefficient 5 rfl) (lkAA_1 ad G s hk10) rfl rfl (jidx.vp h13) (jidx.row h13 ad (jrow15 _ _)) ?_
  refine j_iload_n (pc := 10) 2 (jd k_Room_setCoefficient 6 rfl) rfl ?_
  refine j_iload (pc := 11) 4 (jd k_Room_setCoefficient 7 rfl) rfl ?_
  refine j_aload_n (pc := 13) 0 (jd k_Room_setCoefficient 8 rfl) rfl ?_
  refine j_get (pc := 14) (fs := flRm ad s) (v := .ref (ad (2 + (fnum (s 53 0 0))))) fl_Room_42_7 9 (jd k_Room_setCoefficient 9 rfl) rfl rfl ?_
  refine g_size (pc := 17) fl_Room_105_2 fl_Room_105_6 (f := fnum (s 53 0 0)) (fnum_lt _) (jd k_Room_setCoefficient 10 rfl) ?_
  obtain ⟨x15, h14, H⟩ := obnd H
  refine jc_S (pc := 20) (st := [.int p1, .ref (ad (28 + 15 * k10 + k12))]) (c_Math_floorMod G _ p3 (fsz (fnum (s 53 0 0))) _ h14) L0_Math_floorMod w664 w665 (jd k_Room_setCoefficient 11 rfl) rfl (Nat.le_of_ble_eq_true rfl) (by decide) (Nat.le_refl _) (Nat.le_refl _) rfl rfl ?_
  obtain ⟨h18, H⟩ := ochk H
  obtain ⟨s16, e17, H⟩ := olet H
  refine j_iast (pc := 23) (f := s (0 + k12) k10) (28 + 15 * k10 + k12) (jd k_Room_setCoefficient 12 rfl) (lkR_1 ad G s hk10 (w := k12) hk12) (jin.vp h18) ((wrR_1 ad G s hk10 (w := k12) hk12 _).trans (congrArg (mkC ad G) e17)) ?_
  cases H
  subst hP9
  exact j_vret (pc := 24) (jd k_Room_setCoefficient 13 rfl) rfl ⟨rfl, rfl⟩

set_option maxRecDepth 20000 in
theorem c_SR_give (ad : Nat → Nat) (G : jG) (p0 : Int32) (p1 : Int32) (p2 : Int32) (p3 : Int32) (s : jU) (r : String ⊕ (jU)) (H : f_SR_give p0 p1 p2 p3 s = some r) : jCon G m_SR_give y_SR_give 5 4 24 [.ref (ad 0), .int p0, .int p1, .int p2, .int p3] (mkC ad G s) (jRs (mkC ad G s) (fun _ => none) (fun a => mkC ad G a) r) := by
  refine jCon.of (by decide +kernel) rfl rfl rfl (Nat.le_of_ble_eq_true rfl) rfl ?_
  have H : (
  Option.bind (f_Room_takesCoefficients s) fun x11 =>
  if ¬ x11 = 0 then
    jtry (f_SR_needParty p0 s) fun _ =>
    jtry (f_SR_needCoefficient p1 s) fun _ =>
    jtry (f_SR_needWhich p2) fun _ =>
    Option.bind (f_Room_setCoefficient p0 p1 p2 p3 s) fun s17 =>
    some (.inr s17)
  else
    some (.inl "java/lang/IllegalStateException")) = some r := H
  generalize hP9 : jRs (mkC ad G s) (fun _ => none) (fun a => mkC ad G a) r = P
  refine j_aload_n (pc := 0) 0 (jd k_SR_give 0 rfl) rfl ?_
  refine j_get (pc := 1) (fs := [.ref (ad 1), .ref (ad 5), .ref (ad 9)]) (v := .ref (ad 9)) fl_SR_43_0 0 (jd k_SR_give 1 rfl) rfl rfl ?_
  obtain ⟨x11, h10, H⟩ := obnd H
  refine jc_V (pc := 4) (st := []) (c_Room_takesCoefficients ad G s _ h10) L0_Room_takesCoefficients w633 w634 w635 9 rfl rfl (jd k_SR_give 2 rfl) rfl (Nat.le_of_ble_eq_true rfl) (by decide) (by decide) (by decide) rfl rfl ?_
  refine j_if_ne (pc := 7) (tgt := 20) (jd k_SR_give 3 rfl) rfl (fun h12 => ?_) (fun h12 => ?_)
  · rw [if_pos h12] at H
    refine j_aload_n (pc := 20) 0 (jd k_SR_give 9 rfl) rfl ?_
    refine j_iload_n (pc := 21) 1 (jd k_SR_give 10 rfl) rfl ?_
    rcases otry H with ⟨E9, h13, H⟩ | ⟨a9, h13, H⟩
    · subst H
      subst hP9
      exact j_thrV (pc := 22) (st := []) (c_SR_needParty ad G p0 s (.inl E9) h13) L0_SR_needParty (fun v w q => by cases q.1) w638 w640 w3 0 rfl rfl (jd k_SR_give 11 rfl) rfl (Nat.le_of_ble_eq_true rfl) (by decide) (by decide) (by decide) rfl rfl (fun E w q => q)
    · refine jt_V (pc := 22) (st := []) (c_SR_needParty ad G p0 s (.inr a9) h13) L0_SR_needParty w638 w640 w3 0 rfl rfl (jd k_SR_give 11 rfl) rfl (Nat.le_of_ble_eq_true rfl) (by decide) (by decide) (by decide) rfl rfl rfl ?_
      refine j_aload_n (pc := 25) 0 (jd k_SR_give 12 rfl) rfl ?_
      refine j_iload_n (pc := 26) 2 (jd k_SR_give 13 rfl) rfl ?_
      rcases otry H with ⟨E9, h14, H⟩ | ⟨a9, h14, H⟩
      · subst H
        subst hP9
        exact j_thrV (pc := 27) (st := []) (c_SR_needCoefficient ad G p1 s (.inl E9) h14) L0_SR_needCoefficient (fun v w q => by cases q.1) w647 w649 w4 0 rfl rfl (jd k_SR_give 14 rfl) rfl (Nat.le_of_ble_eq_true rfl) (by decide) (by decide) (by decide) rfl rfl (fun E w q => q)
      · refine jt_V (pc := 27) (st := []) (c_SR_needCoefficient ad G p1 s (.inr a9) h14) L0_SR_needCoefficient w647 w649 w4 0 rfl rfl (jd k_SR_give 14 rfl) rfl (Nat.le_of_ble_eq_true rfl) (by decide) (by decide) (by decide) rfl rfl rfl ?_
        refine j_iload_n (pc := 30) 3 (jd k_SR_give 15 rfl) rfl ?_
        rcases otry H with ⟨E9, h15, H⟩ | ⟨a9, h15, H⟩
        · subst H
          subst hP9
          exact j_thrS (pc := 31) (st := []) (c_SR_needWhich ad G p2 s (.inl E9) h15) L0_SR_needWhich (fun v w q => by cases q.1) w656 w657 (jd k_SR_give 16 rfl) rfl (Nat.le_of_ble_eq_true rfl) (by decide) (by decide) (by decide) rfl rfl (fun E w q => q)
        · refine jt_S (pc := 31) (st := []) (c_SR_needWhich ad G p2 s (.inr a9) h15) L0_SR_needWhich w656 w657 (jd k_SR_give 16 rfl) rfl (Nat.le_of_ble_eq_true rfl) (by decide) (by decide) (by decide) rfl rfl rfl ?_
          refine j_aload_n (pc := 34) 0 (jd k_SR_give 17 rfl) rfl ?_
          refine j_get (pc := 35) (fs := [.ref (ad 1), .ref (ad 5), .ref (ad 9)]) (v := .ref (ad 9)) fl_SR_43_0 0 (jd k_SR_give 18 rfl) rfl rfl ?_
          refine j_iload_n (pc := 38) 1 (jd k_SR_give 19 rfl) rfl ?_
          refine j_iload_n (pc := 39) 2 (jd k_SR_give 20 rfl) rfl ?_
          refine j_iload_n (pc := 40) 3 (jd k_SR_give 21 rfl) rfl ?_
          refine j_iload (pc := 41) 4 (jd k_SR_give 22 rfl) rfl ?_
          obtain ⟨s17, h16, H⟩ := obnd H
          refine jc_V (pc := 43) (st := []) (c_Room_setCoefficient ad G p0 p1 p2 p3 s _ h16) L0_Room_setCoefficient w660 w661 w662 9 rfl rfl (jd k_SR_give 23 rfl) rfl (Nat.le_of_ble_eq_true rfl) (by decide) (by decide) (by decide) rfl rfl ?_
          cases H
          subst hP9
          refine j_widen (k' := 4) (n' := 24) (by decide) (by decide) ?_
          exact j_vret (pc := 46) (jd k_SR_give 24 rfl) rfl ⟨rfl, rfl⟩
  · rw [if_neg (not_not_intro h12)] at H
    cases H
    subst hP9
    exact j_throw (pc := 10) fit_IllegalStateException ex_SR_74 wt542 wt543 wt80 wt637 (jd k_SR_give 4 rfl) (jd k_SR_give 5 rfl) (jd k_SR_give 6 rfl) (jd k_SR_give 7 rfl) (jd k_SR_give 8 rfl) rfl (by decide) (Nat.le_of_ble_eq_true rfl) (by decide) (by decide) ⟨rfl, rfl⟩

set_option maxRecDepth 20000 in
theorem c_Room_isBeforeRounds (ad : Nat → Nat) (G : jG) (s : jU) (r : Int32) (H : f_Room_isBeforeRounds s = some r) : jCon G m_Room_isBeforeRounds y_Room_isBeforeRounds 0 0 0 [.ref (ad 9)] (mkC ad G s) (jEq (some (.int r)) (mkC ad G s)) := by
  refine jCon.of (by decide +kernel) rfl rfl rfl (Nat.le_of_ble_eq_true rfl) rfl ?_
  have H : (
  Option.bind (α := Int32) (
    if (s 22 0 0) = 0 then
      some 0
    else
      if ¬ (s 23 0 0) = 0 then
        some 0
      else
        some 1) fun x12 =>
  if jbo x12 then
  some x12
  else none) = some r := H
  generalize hP9 : jEq (some (.int r)) (mkC ad G s) = P
  refine j_aload_n (pc := 0) 0 (jd k_Room_isBeforeRounds 0 rfl) rfl ?_
  refine j_get (pc := 1) (fs := flRm ad s) (v := .int (s 22 0 0)) fl_Room_72_7 9 (jd k_Room_isBeforeRounds 1 rfl) rfl rfl ?_
  obtain ⟨x12, h13, H⟩ := obnd H
  have K14 : J G m_Room_isBeforeRounds 0 0 0 P 19 [] [.int x12] (mkC ad G s) 0 0 := by
    obtain ⟨h15, H⟩ := ochk H
    cases H
    subst hP9
    exact j_iret (pc := 19) (jd k_Room_isBeforeRounds 9 rfl) rfl (jbo.nar h15) ⟨rfl, rfl⟩
  have H := h13
  refine j_if_eq (pc := 4) (tgt := 18) (jd k_Room_isBeforeRounds 2 rfl) rfl (fun h10 => ?_) (fun h10 => ?_)
  · rw [if_pos h10] at H
    refine j_iconst (pc := 18) (v := 0) (jd k_Room_isBeforeRounds 8 rfl) (by decide) ?_
    cases H
    exact j_pick [] rfl K14
  · rw [if_neg h10] at H
    refine j_aload_n (pc := 7) 0 (jd k_Room_isBeforeRounds 3 rfl) rfl ?_
    refine j_get (pc := 8) (fs := flRm ad s) (v := .int (s 23 0 0)) fl_Room_75_7 9 (jd k_Room_isBeforeRounds 4 rfl) rfl rfl ?_
    refine j_if_ne (pc := 11) (tgt := 18) (jd k_Room_isBeforeRounds 5 rfl) rfl (fun h11 => ?_) (fun h11 => ?_)
    · rw [if_pos h11] at H
      refine j_iconst (pc := 18) (v := 0) (jd k_Room_isBeforeRounds 8 rfl) (by decide) ?_
      cases H
      exact j_pick [] rfl K14
    · rw [if_neg (not_not_intro h11)] at H
      refine j_iconst (pc := 14) (v := 1) (jd k_Room_isBeforeRounds 6 rfl) (by decide) ?_
      refine j_goto (pc := 15) (tgt := 19) (jd k_Room_isBeforeRounds 7 rfl) rfl ?_
      cases H
      exact j_pick [] rfl K14

set_option maxRecDepth 20000 in
theorem c_SR_needBeforeRounds (ad : Nat → Nat) (G : jG) (s : jU) (r : String ⊕ (Unit)) (H : f_SR_needBeforeRounds s = some r) : jCon G m_SR_needBeforeRounds y_SR_needBeforeRounds 4 1 6 [.ref (ad 0)] (mkC ad G s) (jRs (mkC ad G s) (fun _ => none) (fun _ => (mkC ad G s)) r) := by
  refine jCon.of (by decide +kernel) rfl rfl rfl (Nat.le_of_ble_eq_true rfl) rfl ?_
  have H : (
  Option.bind (f_Room_isBeforeRounds s) fun x11 =>
  if ¬ x11 = 0 then
    some (.inr ())
  else
    some (.inl "java/lang/IllegalStateException")) = some r := H
  generalize hP9 : jRs (mkC ad G s) (fun _ => none) (fun _ => (mkC ad G s)) r = P
  refine j_aload_n (pc := 0) 0 (jd k_SR_needBeforeRounds 0 rfl) rfl ?_
  refine j_get (pc := 1) (fs := [.ref (ad 1), .ref (ad 5), .ref (ad 9)]) (v := .ref (ad 9)) fl_SR_43_0 0 (jd k_SR_needBeforeRounds 1 rfl) rfl rfl ?_
  obtain ⟨x11, h10, H⟩ := obnd H
  refine jc_V (pc := 4) (st := []) (c_Room_isBeforeRounds ad G s _ h10) L0_Room_isBeforeRounds w678 w679 w680 9 rfl rfl (jd k_SR_needBeforeRounds 2 rfl) rfl (Nat.le_of_ble_eq_true rfl) (by decide) (by decide) (by decide) rfl rfl ?_
  refine j_if_ne (pc := 7) (tgt := 20) (jd k_SR_needBeforeRounds 3 rfl) rfl (fun h12 => ?_) (fun h12 => ?_)
  · rw [if_pos h12] at H
    cases H
    subst hP9
    refine j_widen (k' := 1) (n' := 6) (by decide) (by decide) ?_
    exact j_vret (pc := 20) (jd k_SR_needBeforeRounds 9 rfl) rfl ⟨rfl, rfl⟩
  · rw [if_neg (not_not_intro h12)] at H
    cases H
    subst hP9
    exact j_throw (pc := 10) fit_IllegalStateException ex_SR_74 wt542 wt543 wt80 wt682 (jd k_SR_needBeforeRounds 4 rfl) (jd k_SR_needBeforeRounds 5 rfl) (jd k_SR_needBeforeRounds 6 rfl) (jd k_SR_needBeforeRounds 7 rfl) (jd k_SR_needBeforeRounds 8 rfl) rfl (by decide) (Nat.le_of_ble_eq_true rfl) (by decide) (by decide) ⟨rfl, rfl⟩

set_option maxRecDepth 20000 in
theorem c_Party_concernsAnother (G : jG) (ws : va_W) (p0 : Int32) (r : Int32) (H : f_Party_concernsAnother p0 = some r) : jCon G m_Party_concernsAnother y_Party_concernsAnother 0 0 0 [.int p0] ws (jEq (some (.int r)) ws) := by
  refine jCon.of (by decide +kernel) rfl rfl rfl (Nat.le_of_ble_eq_true rfl) rfl ?_
  have H : (
  Option.bind (α := Int32) (
    if p0 = 1 then
      some 1
    else
      if ¬ p0 = 2 then
        some 0
      else
        some 1) fun x12 =>
  if jbo x12 then
  some x12
  else none) = some r := H
  generalize hP9 : jEq (some (.int r)) ws = P
  refine j_iload_n (pc := 0) 0 (jd k_Party_concernsAnother 0 rfl) rfl ?_
  refine j_iconst (pc := 1) (v := 1) (jd k_Party_concernsAnother 1 rfl) (by decide) ?_
  obtain ⟨x12, h13, H⟩ := obnd H
  have K14 : J G m_Party_concernsAnother 0 0 0 P 15 [] [.int x12] ws 0 0 := by
    obtain ⟨h15, H⟩ := ochk H
    cases H
    subst hP9
    exact j_iret (pc := 15) (jd k_Party_concernsAnother 9 rfl) rfl (jbo.nar h15) ⟨rfl, rfl⟩
  have H := h13
  refine j_icmp_eq (pc := 2) (tgt := 10) (jd k_Party_concernsAnother 2 rfl) rfl (fun h10 => ?_) (fun h10 => ?_)
  · rw [if_pos h10] at H
    refine j_iconst (pc := 10) (v := 1) (jd k_Party_concernsAnother 6 rfl) (by decide) ?_
    refine j_goto (pc := 11) (tgt := 15) (jd k_Party_concernsAnother 7 rfl) rfl ?_
    cases H
    exact j_pick [] rfl K14
  · rw [if_neg h10] at H
    refine j_iload_n (pc := 5) 0 (jd k_Party_concernsAnother 3 rfl) rfl ?_
    refine j_iconst (pc := 6) (v := 2) (jd k_Party_concernsAnother 4 rfl) (by decide) ?_
    refine j_icmp_ne (pc := 7) (tgt := 14) (jd k_Party_concernsAnother 5 rfl) rfl (fun h11 => ?_) (fun h11 => ?_)
    · rw [if_pos h11] at H
      refine j_iconst (pc := 14) (v := 0) (jd k_Party_concernsAnother 8 rfl) (by decide) ?_
      cases H
      exact j_pick [] rfl K14
    · rw [if_neg (not_not_intro h11)] at H
      refine j_iconst (pc := 10) (v := 1) (jd k_Party_concernsAnother 6 rfl) (by decide) ?_
      refine j_goto (pc := 11) (tgt := 15) (jd k_Party_concernsAnother 7 rfl) rfl ?_
      cases H
      exact j_pick [] rfl K14

set_option maxRecDepth 20000 in
theorem c_Room_setFault (ad : Nat → Nat) (G : jG) (p0 : Int32) (p1 : Int32) (p2 : Int32) (s : jU) (r : jU) (H : f_Room_setFault p0 p1 p2 s = some r) : jCon G m_Room_setFault y_Room_setFault 1 0 0 [.ref (ad 9), .int p0, .int p1, .int p2] (mkC ad G s) (jEq none (mkC ad G r)) := by
  refine jCon.of (by decide +kernel) rfl rfl rfl (Nat.le_of_ble_eq_true rfl) rfl ?_
  have H : (
  Option.bind (jidx (p0 - 1) 7) fun k10 =>
  if jin p1 7 then
  jlet (ups s 2 k10 (upd (s 2 k10) p1.toNatClampNeg p2)) fun s12 =>
  some s12
  else none) = some r := H
  generalize hP9 : jEq none (mkC ad G r) = P
  refine j_aload_n (pc := 0) 0 (jd k_Room_setFault 0 rfl) rfl ?_
  refine j_iload_n (pc := 1) 1 (jd k_Room_setFault 1 rfl) rfl ?_
  obtain ⟨k10, h11, H⟩ := obnd H
  have hk10 : k10 < 7 := jidx.lt h11
  refine jc_V (pc := 2) (st := []) (c_Room_party ad G p0 s k10 h11) L0_Room_party w401 w403 w1 9 rfl rfl (jd k_Room_setFault 2 rfl) rfl (Nat.le_of_ble_eq_true rfl) (by decide) (Nat.le_refl _) (Nat.le_refl _) rfl rfl ?_
  refine j_get (pc := 5) (fs := flPy ad s k10) (v := .ref (ad (30 + 15 * k10))) fl_Room_116_4 (26 + 15 * k10) (jd k_Room_setFault 3 rfl) (lkPy ad G s hk10) rfl ?_
  refine j_iload_n (pc := 8) 2 (jd k_Room_setFault 4 rfl) rfl ?_
  refine j_iload_n (pc := 9) 3 (jd k_Room_setFault 5 rfl) rfl ?_
  obtain ⟨h14, H⟩ := ochk H
  obtain ⟨s12, e13, H⟩ := olet H
  refine j_iast (pc := 10) (f := s 2 k10) (30 + 15 * k10) (jd k_Room_setFault 6 rfl) (lkA_4 ad G s hk10) (jin.vp h14) ((wrA_4 ad G s hk10 _).trans (congrArg (mkC ad G) e13)) ?_
  cases H
  subst hP9
  exact j_vret (pc := 11) (jd k_Room_setFault 7 rfl) rfl ⟨rfl, rfl⟩

set_option maxRecDepth 20000 in
theorem c_SR_fault (ad : Nat → Nat) (G : jG) (p0 : Int32) (p1 : Int32) (p2 : Int32) (s : jU) (r : String ⊕ (jU)) (H : f_SR_fault p0 p1 p2 s = some r) : jCon G m_SR_fault y_SR_fault 5 4 24 [.ref (ad 0), .int p0, .int p1, .int p2] (mkC ad G s) (jRs (mkC ad G s) (fun _ => none) (fun a => mkC ad G a) r) := by
  refine jCon.of (by decide +kernel) rfl rfl rfl (Nat.le_of_ble_eq_true rfl) rfl ?_
  have H : (
  jtry (f_SR_needBeforeRounds s) fun _ =>
  jtry (f_SR_needParty p0 s) fun _ =>
  if p1 < 0 then
    some (.inl "java/lang/IllegalArgumentException")
  else
    if p1 < 7 then
      Option.bind (f_Party_concernsAnother p1) fun x15 =>
      if ¬ x15 = 0 then
        jtry (f_SR_needParty p2 s) fun _ =>
        if ¬ p0 = p2 then
          Option.bind (f_Room_setFault p0 p1 p2 s) fun s20 =>
          some (.inr s20)
        else
          some (.inl "java/lang/IllegalArgumentException")
      else
        Option.bind (f_Room_setFault p0 p1 p0 s) fun s22 =>
        some (.inr s22)
    else
      some (.inl "java/lang/IllegalArgumentException")) = some r := H
  generalize hP9 : jRs (mkC ad G s) (fun _ => none) (fun a => mkC ad G a) r = P
  refine j_aload_n (pc := 0) 0 (jd k_SR_fault 0 rfl) rfl ?_
  rcases otry H with ⟨E9, h10, H⟩ | ⟨a9, h10, H⟩
  · subst H
    subst hP9
    exact j_thrV (pc := 1) (st := []) (c_SR_needBeforeRounds ad G s (.inl E9) h10) L0_SR_needBeforeRounds (fun v w q => by cases q.1) w674 w676 w5 0 rfl rfl (jd k_SR_fault 1 rfl) rfl (Nat.le_of_ble_eq_true rfl) (by decide) (by decide) (by decide) rfl rfl (fun E w q => q)
  · refine jt_V (pc := 1) (st := []) (c_SR_needBeforeRounds ad G s (.inr a9) h10) L0_SR_needBeforeRounds w674 w676 w5 0 rfl rfl (jd k_SR_fault 1 rfl) rfl (Nat.le_of_ble_eq_true rfl) (by decide) (by decide) (by decide) rfl rfl rfl ?_
    refine j_aload_n (pc := 4) 0 (jd k_SR_fault 2 rfl) rfl ?_
    refine j_iload_n (pc := 5) 1 (jd k_SR_fault 3 rfl) rfl ?_
    rcases otry H with ⟨E9, h11, H⟩ | ⟨a9, h11, H⟩
    · subst H
      subst hP9
      exact j_thrV (pc := 6) (st := []) (c_SR_needParty ad G p0 s (.inl E9) h11) L0_SR_needParty (fun v w q => by cases q.1) w638 w640 w3 0 rfl rfl (jd k_SR_fault 4 rfl) rfl (Nat.le_of_ble_eq_true rfl) (by decide) (by decide) (by decide) rfl rfl (fun E w q => q)
    · refine jt_V (pc := 6) (st := []) (c_SR_needParty ad G p0 s (.inr a9) h11) L0_SR_needParty w638 w640 w3 0 rfl rfl (jd k_SR_fault 4 rfl) rfl (Nat.le_of_ble_eq_true rfl) (by decide) (by decide) (by decide) rfl rfl rfl ?_
      refine j_iload_n (pc := 9) 2 (jd k_SR_fault 5 rfl) rfl ?_
      refine j_if_lt (pc := 10) (tgt := 19) (jd k_SR_fault 6 rfl) rfl (fun h12 => ?_) (fun h12 => ?_)
      · rw [if_pos h12] at H
        cases H
        subst hP9
        exact j_throw (pc := 19) fit_IllegalArgumentException ex_SR_51 wt444 wt445 wt79 wt683 (jd k_SR_fault 10 rfl) (jd k_SR_fault 11 rfl) (jd k_SR_fault 12 rfl) (jd k_SR_fault 13 rfl) (jd k_SR_fault 14 rfl) rfl (by decide) (Nat.le_of_ble_eq_true rfl) (by decide) (by decide) ⟨rfl, rfl⟩
      · rw [if_neg h12] at H
        refine j_iload_n (pc := 13) 2 (jd k_SR_fault 7 rfl) rfl ?_
        refine j_bipush (pc := 14) (v := 7) (jd k_SR_fault 8 rfl) (by decide) ?_
        refine j_icmp_lt (pc := 16) (tgt := 29) (jd k_SR_fault 9 rfl) rfl (fun h13 => ?_) (fun h13 => ?_)
        · rw [if_pos h13] at H
          refine j_iload_n (pc := 29) 2 (jd k_SR_fault 15 rfl) rfl ?_
          obtain ⟨x15, h14, H⟩ := obnd H
          refine jc_S (pc := 30) (st := []) (c_Party_concernsAnother G _ p1 _ h14) L0_Party_concernsAnother w684 w685 (jd k_SR_fault 16 rfl) rfl (Nat.le_of_ble_eq_true rfl) (by decide) (by decide) (by decide) rfl rfl ?_
          refine j_if_ne (pc := 33) (tgt := 47) (jd k_SR_fault 17 rfl) rfl (fun h16 => ?_) (fun h16 => ?_)
          · rw [if_pos h16] at H
            refine j_aload_n (pc := 47) 0 (jd k_SR_fault 25 rfl) rfl ?_
            refine j_iload_n (pc := 48) 3 (jd k_SR_fault 26 rfl) rfl ?_
            rcases otry H with ⟨E9, h17, H⟩ | ⟨a9, h17, H⟩
            · subst H
              subst hP9
              exact j_thrV (pc := 49) (st := []) (c_SR_needParty ad G p2 s (.inl E9) h17) L0_SR_needParty (fun v w q => by cases q.1) w638 w640 w3 0 rfl rfl (jd k_SR_fault 27 rfl) rfl (Nat.le_of_ble_eq_true rfl) (by decide) (by decide) (by decide) rfl rfl (fun E w q => q)
            · refine jt_V (pc := 49) (st := []) (c_SR_needParty ad G p2 s (.inr a9) h17) L0_SR_needParty w638 w640 w3 0 rfl rfl (jd k_SR_fault 27 rfl) rfl (Nat.le_of_ble_eq_true rfl) (by decide) (by decide) (by decide) rfl rfl rfl ?_
              refine j_iload_n (pc := 52) 1 (jd k_SR_fault 28 rfl) rfl ?_
              refine j_iload_n (pc := 53) 3 (jd k_SR_fault 29 rfl) rfl ?_
              refine j_icmp_ne (pc := 54) (tgt := 67) (jd k_SR_fault 30 rfl) rfl (fun h18 => ?_) (fun h18 => ?_)
              · rw [if_pos h18] at H
                refine j_aload_n (pc := 67) 0 (jd k_SR_fault 36 rfl) rfl ?_
                refine j_get (pc := 68) (fs := [.ref (ad 1), .ref (ad 5), .ref (ad 9)]) (v := .ref (ad 9)) fl_SR_43_0 0 (jd k_SR_fault 37 rfl) rfl rfl ?_
                refine j_iload_n (pc := 71) 1 (jd k_SR_fault 38 rfl) rfl ?_
                refine j_iload_n (pc := 72) 2 (jd k_SR_fault 39 rfl) rfl ?_
                refine j_iload_n (pc := 73) 3 (jd k_SR_fault 40 rfl) rfl ?_
                obtain ⟨s20, h19, H⟩ := obnd H
                refine jc_V (pc := 74) (st := []) (c_Room_setFault ad G p0 p1 p2 s _ h19) L0_Room_setFault w687 w688 w689 9 rfl rfl (jd k_SR_fault 41 rfl) rfl (Nat.le_of_ble_eq_true rfl) (by decide) (by decide) (by decide) rfl rfl ?_
                cases H
                subst hP9
                refine j_widen (k' := 4) (n' := 24) (by decide) (by decide) ?_
                exact j_vret (pc := 77) (jd k_SR_fault 42 rfl) rfl ⟨rfl, rfl⟩
              · rw [if_neg (not_not_intro h18)] at H
                cases H
                subst hP9
                exact j_throw (pc := 57) fit_IllegalArgumentException ex_SR_51 wt444 wt445 wt79 wt691 (jd k_SR_fault 31 rfl) (jd k_SR_fault 32 rfl) (jd k_SR_fault 33 rfl) (jd k_SR_fault 34 rfl) (jd k_SR_fault 35 rfl) rfl (by decide) (Nat.le_of_ble_eq_true rfl) (by decide) (by decide) ⟨rfl, rfl⟩
          · rw [if_neg (not_not_intro h16)] at H
            refine j_aload_n (pc := 36) 0 (jd k_SR_fault 18 rfl) rfl ?_
            refine j_get (pc := 37) (fs := [.ref (ad 1), .ref (ad 5), .ref (ad 9)]) (v := .ref (ad 9)) fl_SR_43_0 0 (jd k_SR_fault 19 rfl) rfl rfl ?_
            refine j_iload_n (pc := 40) 1 (jd k_SR_fault 20 rfl) rfl ?_
            refine j_iload_n (pc := 41) 2 (jd k_SR_fault 21 rfl) rfl ?_
            refine j_iload_n (pc := 42) 1 (jd k_SR_fault 22 rfl) rfl ?_
            obtain ⟨s22, h21, H⟩ := obnd H
            refine jc_V (pc := 43) (st := []) (c_Room_setFault ad G p0 p1 p0 s _ h21) L0_Room_setFault w687 w688 w689 9 rfl rfl (jd k_SR_fault 23 rfl) rfl (Nat.le_of_ble_eq_true rfl) (by decide) (by decide) (by decide) rfl rfl ?_
            cases H
            subst hP9
            refine j_widen (k' := 4) (n' := 24) (by decide) (by decide) ?_
            exact j_vret (pc := 46) (jd k_SR_fault 24 rfl) rfl ⟨rfl, rfl⟩
        · rw [if_neg h13] at H
          cases H
          subst hP9
          exact j_throw (pc := 19) fit_IllegalArgumentException ex_SR_51 wt444 wt445 wt79 wt683 (jd k_SR_fault 10 rfl) (jd k_SR_fault 11 rfl) (jd k_SR_fault 12 rfl) (jd k_SR_fault 13 rfl) (jd k_SR_fault 14 rfl) rfl (by decide) (Nat.le_of_ble_eq_true rfl) (by decide) (by decide) ⟨rfl, rfl⟩

set_option maxRecDepth 20000 in
theorem c_Room_setCrash (ad : Nat → Nat) (G : jG) (p0 : Int32) (p1 : Int32) (s : jU) (r : jU) (H : f_Room_setCrash p0 p1 s = some r) : jCon G m_Room_setCrash y_Room_setCrash 1 0 0 [.ref (ad 9), .int p0, .int p1] (mkC ad G s) (jEq none (mkC ad G r)) := by
  refine jCon.of (by decide +kernel) rfl rfl rfl (Nat.le_of_ble_eq_true rfl) rfl ?_
  have H : (
  Option.bind (jidx (p0 - 1) 7) fun k10 =>
  jlet (ups s 10 k10 (fun _ => p1)) fun s12 =>
  some s12) = some r := H
  generalize hP9 : jEq none (mkC ad G r) = P
  refine j_aload_n (pc := 0) 0 (jd k_Room_setCrash 0 rfl) rfl ?_
  refine j_iload_n (pc := 1) 1 (jd k_Room_setCrash 1 rfl) rfl ?_
  obtain ⟨k10, h11, H⟩ := obnd H
  have hk10 : k10 < 7 := jidx.lt h11
  refine jc_V (pc := 2) (st := []) (c_Room_party ad G p0 s k10 h11) L0_Room_party w401 w403 w1 9 rfl rfl (jd k_Room_setCrash 2 rfl) rfl (Nat.le_of_ble_eq_true rfl) (by decide) (Nat.le_refl _) (Nat.le_refl _) rfl rfl ?_
  refine j_iload_n (pc := 5) 2 (jd k_Room_setCrash 3 rfl) rfl ?_
  obtain ⟨s12, e13, H⟩ := olet H
  refine j_put (pc := 6) (fs := flPy ad s k10) (fp_Room_119_4 _) (26 + 15 * k10) (jd k_Room_setCrash 4 rfl) (lkPy ad G s hk10) rfl rfl (Nat.le_of_ble_eq_true rfl) ((wrPy_6 ad G s hk10 _).trans (congrArg (mkC ad G) e13)) ?_
  cases H
  subst hP9
  exact j_vret (pc := 9) (jd k_Room_setCrash 5 rfl) rfl ⟨rfl, rfl⟩

set_option maxRecDepth 20000 in
theorem c_SR_crash (ad : Nat → Nat) (G : jG) (p0 : Int32) (p1 : Int32) (s : jU) (r : String ⊕ (jU)) (H : f_SR_crash p0 p1 s = some r) : jCon G m_SR_crash y_SR_crash 5 3 18 [.ref (ad 0), .int p0, .int p1] (mkC ad G s) (jRs (mkC ad G s) (fun _ => none) (fun a => mkC ad G a) r) := by
  refine jCon.of (by decide +kernel) rfl rfl rfl (Nat.le_of_ble_eq_true rfl) rfl ?_
  have H : (
  jtry (f_SR_needBeforeRounds s) fun _ =>
  jtry (f_SR_needParty p0 s) fun _ =>
  if p1 < 1 then
    some (.inl "java/lang/IllegalArgumentException")
  else
    if p1 ≤ 8 then
      Option.bind (f_Room_setCrash p0 p1 s) fun s15 =>
      some (.inr s15)
    else
      some (.inl "java/lang/IllegalArgumentException")) = some r := H
  generalize hP9 : jRs (mkC ad G s) (fun _ => none) (fun a => mkC ad G a) r = P
  refine j_aload_n (pc := 0) 0 (jd k_SR_crash 0 rfl) rfl ?_
  rcases otry H with ⟨E9, h10, H⟩ | ⟨a9, h10, H⟩
  · subst H
    subst hP9
    exact j_thrV (pc := 1) (st := []) (c_SR_needBeforeRounds ad G s (.inl E9) h10) L0_SR_needBeforeRounds (fun v w q => by cases q.1) w674 w676 w5 0 rfl rfl (jd k_SR_crash 1 rfl) rfl (Nat.le_of_ble_eq_true rfl) (by decide) (by decide) (by decide) rfl rfl (fun E w q => q)
  · refine jt_V (pc := 1) (st := []) (c_SR_needBeforeRounds ad G s (.inr a9) h10) L0_SR_needBeforeRounds w674 w676 w5 0 rfl rfl (jd k_SR_crash 1 rfl) rfl (Nat.le_of_ble_eq_true rfl) (by decide) (by decide) (by decide) rfl rfl rfl ?_
    refine j_aload_n (pc := 4) 0 (jd k_SR_crash 2 rfl) rfl ?_
    refine j_iload_n (pc := 5) 1 (jd k_SR_crash 3 rfl) rfl ?_
    rcases otry H with ⟨E9, h11, H⟩ | ⟨a9, h11, H⟩
    · subst H
      subst hP9
      exact j_thrV (pc := 6) (st := []) (c_SR_needParty ad G p0 s (.inl E9) h11) L0_SR_needParty (fun v w q => by cases q.1) w638 w640 w3 0 rfl rfl (jd k_SR_crash 4 rfl) rfl (Nat.le_of_ble_eq_true rfl) (by decide) (by decide) (by decide) rfl rfl (fun E w q => q)
    · refine jt_V (pc := 6) (st := []) (c_SR_needParty ad G p0 s (.inr a9) h11) L0_SR_needParty w638 w640 w3 0 rfl rfl (jd k_SR_crash 4 rfl) rfl (Nat.le_of_ble_eq_true rfl) (by decide) (by decide) (by decide) rfl rfl rfl ?_
      refine j_iload_n (pc := 9) 2 (jd k_SR_crash 5 rfl) rfl ?_
      refine j_iconst (pc := 10) (v := 1) (jd k_SR_crash 6 rfl) (by decide) ?_
      refine j_icmp_lt (pc := 11) (tgt := 20) (jd k_SR_crash 7 rfl) rfl (fun h12 => ?_) (fun h12 => ?_)
      · rw [if_pos h12] at H
        cases H
        subst hP9
        exact j_throw (pc := 20) fit_IllegalArgumentException ex_SR_51 wt444 wt445 wt79 wt699 (jd k_SR_crash 11 rfl) (jd k_SR_crash 12 rfl) (jd k_SR_crash 13 rfl) (jd k_SR_crash 14 rfl) (jd k_SR_crash 15 rfl) rfl (by decide) (Nat.le_of_ble_eq_true rfl) (by decide) (by decide) ⟨rfl, rfl⟩
      · rw [if_neg h12] at H
        refine j_iload_n (pc := 14) 2 (jd k_SR_crash 8 rfl) rfl ?_
        refine j_bipush (pc := 15) (v := 8) (jd k_SR_crash 9 rfl) (by decide) ?_
        refine j_icmp_le (pc := 17) (tgt := 30) (jd k_SR_crash 10 rfl) rfl (fun h13 => ?_) (fun h13 => ?_)
        · rw [if_pos h13] at H
          refine j_aload_n (pc := 30) 0 (jd k_SR_crash 16 rfl) rfl ?_
          refine j_get (pc := 31) (fs := [.ref (ad 1), .ref (ad 5), .ref (ad 9)]) (v := .ref (ad 9)) fl_SR_43_0 0 (jd k_SR_crash 17 rfl) rfl rfl ?_
          refine j_iload_n (pc := 34) 1 (jd k_SR_crash 18 rfl) rfl ?_
          refine j_iload_n (pc := 35) 2 (jd k_SR_crash 19 rfl) rfl ?_
          obtain ⟨s15, h14, H⟩ := obnd H
          refine jc_V (pc := 36) (st := []) (c_Room_setCrash ad G p0 p1 s _ h14) L0_Room_setCrash w700 w701 w702 9 rfl rfl (jd k_SR_crash 20 rfl) rfl (Nat.le_of_ble_eq_true rfl) (by decide) (by decide) (by decide) rfl rfl ?_
          cases H
          subst hP9
          refine j_widen (k' := 3) (n' := 18) (by decide) (by decide) ?_
          exact j_vret (pc := 39) (jd k_SR_crash 21 rfl) rfl ⟨rfl, rfl⟩
        · rw [if_neg h13] at H
          cases H
          subst hP9
          exact j_throw (pc := 20) fit_IllegalArgumentException ex_SR_51 wt444 wt445 wt79 wt699 (jd k_SR_crash 11 rfl) (jd k_SR_crash 12 rfl) (jd k_SR_crash 13 rfl) (jd k_SR_crash 14 rfl) (jd k_SR_crash 15 rfl) rfl (by decide) (Nat.le_of_ble_eq_true rfl) (by decide) (by decide) ⟨rfl, rfl⟩

set_option maxRecDepth 20000 in
theorem c_Party_has (ad : Nat → Nat) (G : jG) (k0 : Nat) (hk0 : k0 < 7) (p0 : Int32) (s : jU) (r : Int32) (H : f_Party_has k0 p0 s = some r) : jCon G m_Party_has y_Party_has 0 0 0 [.ref (ad (26 + 15 * k0)), .int p0] (mkC ad G s) (jEq (some (.int r)) (mkC ad G s)) := by
  refine jCon.of (by decide +kernel) rfl rfl rfl (Nat.le_of_ble_eq_true rfl) rfl ?_
  have H : (
  if jin p0 7 then
  Option.bind (α := Int32) (
    if (s 2 k0 p0.toNatClampNeg) = 0 then
      some 0
    else
      some 1) fun x12 =>
  if jbo x12 then
  some x12
  else none
  else none) = some r := H
  generalize hP9 : jEq (some (.int r)) (mkC ad G s) = P
  refine j_aload_n (pc := 0) 0 (jd k_Party_has 0 rfl) rfl ?_
  refine j_get (pc := 1) (fs := flPy ad s k0) (v := .ref (ad (30 + 15 * k0))) fl_Party_16_4 (26 + 15 * k0) (jd k_Party_has 1 rfl) (lkPy ad G s hk0) rfl ?_
  refine j_iload_n (pc := 4) 1 (jd k_Party_has 2 rfl) rfl ?_
  obtain ⟨h10, H⟩ := ochk H
  refine j_iald (pc := 5) (f := s 2 k0) (30 + 15 * k0) (jd k_Party_has 3 rfl) (lkA_4 ad G s hk0) (jin.vp h10) ?_
  obtain ⟨x12, h13, H⟩ := obnd H
  have K14 : J G m_Party_has 0 0 0 P 14 [] [.int x12] (mkC ad G s) 0 0 := by
    obtain ⟨h15, H⟩ := ochk H
    cases H
    subst hP9
    exact j_iret (pc := 14) (jd k_Party_has 8 rfl) rfl (jbo.nar h15) ⟨rfl, rfl⟩
  have H := h13
  refine j_if_eq (pc := 6) (tgt := 13) (jd k_Party_has 4 rfl) rfl (fun h11 => ?_) (fun h11 => ?_)
  · rw [if_pos h11] at H
    refine j_iconst (pc := 13) (v := 0) (jd k_Party_has 7 rfl) (by decide) ?_
    cases H
    exact j_pick [] rfl K14
  · rw [if_neg h11] at H
    refine j_iconst (pc := 9) (v := 1) (jd k_Party_has 5 rfl) (by decide) ?_
    refine j_goto (pc := 10) (tgt := 14) (jd k_Party_has 6 rfl) rfl ?_
    cases H
    exact j_pick [] rfl K14

set_option maxRecDepth 20000 in
theorem c_Board_writeByte (ad : Nat → Nat) (G : jG) (p0 : Int32) (s : jU) (r : jU) (H : f_Board_writeByte p0 s = some r) : jCon G m_Board_writeByte y_Board_writeByte 0 0 0 [.ref (ad 15), .int p0] (mkC ad G s) (jEq none (mkC ad G r)) := by
  refine jCon.of (by decide +kernel) rfl rfl rfl (Nat.le_of_ble_eq_true rfl) rfl ?_
  have H : (
  Option.bind (α := jU) (
    if 1050 ≤ (s 41 0 0) then
      some s
    else
      if jin (s 41 0 0) 1050 then
      jlet (ups s 40 0 (upd (s 40 0) (s 41 0 0).toNatClampNeg p0.toInt8.toInt32.toInt8.toInt32)) fun s11 =>
      jlet (ups s11 41 0 (fun _ => (s11 41 0 0) + 1)) fun s14 =>
      some s14
      else none) fun s16 =>
  some s16) = some r := H
  generalize hP9 : jEq none (mkC ad G r) = P
  refine j_aload_n (pc := 0) 0 (jd k_Board_writeByte 0 rfl) rfl ?_
  refine j_get (pc := 1) (fs := flBd ad s) (v := .int (s 41 0 0)) fl_Board_20_1 15 (jd k_Board_writeByte 1 rfl) rfl rfl ?_
  refine j_sipush (pc := 4) (v := 1050) (jd k_Board_writeByte 2 rfl) (by decide) ?_
  obtain ⟨s16, h17, H⟩ := obnd H
  have K18 : J G m_Board_writeByte 0 0 0 P 31 [] [] (mkC ad G s16) 0 0 := by
    cases H
    subst hP9
    exact j_vret (pc := 31) (jd k_Board_writeByte 17 rfl) rfl ⟨rfl, rfl⟩
  have H := h17
  refine j_icmp_ge (pc := 7) (tgt := 31) (jd k_Board_writeByte 3 rfl) rfl (fun h10 => ?_) (fun h10 => ?_)
  · rw [if_pos h10] at H
    cases H
    exact j_pick [] rfl K18
  · rw [if_neg h10] at H
    refine j_aload_n (pc := 10) 0 (jd k_Board_writeByte 4 rfl) rfl ?_
    refine j_get (pc := 11) (fs := flBd ad s) (v := .ref (ad 16)) fl_Board_9_1 15 (jd k_Board_writeByte 5 rfl) rfl rfl ?_
    refine j_aload_n (pc := 14) 0 (jd k_Board_writeByte 6 rfl) rfl ?_
    refine j_get (pc := 15) (fs := flBd ad s) (v := .int (s 41 0 0)) fl_Board_20_1 15 (jd k_Board_writeByte 7 rfl) rfl rfl ?_
    refine j_iload_n (pc := 18) 1 (jd k_Board_writeByte 8 rfl) rfl ?_
    refine j_i2b (pc := 19) (jd k_Board_writeByte 9 rfl) ?_
    obtain ⟨h13, H⟩ := ochk H
    obtain ⟨s11, e12, H⟩ := olet H
    refine j_bast (pc := 20) (f := s 40 0) 16 (jd k_Board_writeByte 10 rfl) rfl (jin.vp h13) ((wrF_16 ad G s _).trans (congrArg (mkC ad G) e12)) ?_
    refine j_aload_n (pc := 21) 0 (jd k_Board_writeByte 11 rfl) rfl ?_
    refine j_dup (pc := 22) (jd k_Board_writeByte 12 rfl) rfl ?_
    refine j_get (pc := 23) (fs := flBd ad s11) (v := .int (s11 41 0 0)) fl_Board_20_1 15 (jd k_Board_writeByte 13 rfl) rfl rfl ?_
    refine j_iconst (pc := 26) (v := 1) (jd k_Board_writeByte 14 rfl) (by decide) ?_
    refine j_iadd (pc := 27) (jd k_Board_writeByte 15 rfl) ?_
    obtain ⟨s14, e15, H⟩ := olet H
    refine j_put (pc := 28) (fs := flBd ad s11) (fp_Board_20_1 _) 15 (jd k_Board_writeByte 16 rfl) rfl rfl rfl (Nat.le_of_ble_eq_true rfl) ((wrBd_2 ad G s11 _).trans (congrArg (mkC ad G) e15)) ?_
    cases H
    exact j_pick [] rfl K18

set_option maxRecDepth 20000 in
theorem c_Board_write (ad : Nat → Nat) (G : jG) (p0 : Int32) (p1 : Int32) (s : jU) (r : jU) (H : f_Board_write p0 p1 s = some r) : jCon G m_Board_write y_Board_write 1 0 0 [.ref (ad 15), .int p0, .int p1] (mkC ad G s) (jEq none (mkC ad G r)) := by
  refine jCon.of (by decide +kernel) rfl rfl rfl (Nat.le_of_ble_eq_true rfl) rfl ?_
  have H : (
  Option.bind (f_Board_writeByte p0 s) fun s11 =>
  Option.bind (f_Board_writeByte p1 s11) fun s13 =>
  some s13) = some r := H
  generalize hP9 : jEq none (mkC ad G r) = P
  refine j_aload_n (pc := 0) 0 (jd k_Board_write 0 rfl) rfl ?_
  refine j_iload_n (pc := 1) 1 (jd k_Board_write 1 rfl) rfl ?_
  obtain ⟨s11, h10, H⟩ := obnd H
  refine jc_V (pc := 2) (st := []) (c_Board_writeByte ad G p0 s _ h10) L0_Board_writeByte w732 w733 w734 15 rfl rfl (jd k_Board_write 2 rfl) rfl (Nat.le_of_ble_eq_true rfl) (by decide) (Nat.le_refl _) (Nat.le_refl _) rfl rfl ?_
  refine j_aload_n (pc := 5) 0 (jd k_Board_write 3 rfl) rfl ?_
  refine j_iload_n (pc := 6) 2 (jd k_Board_write 4 rfl) rfl ?_
  obtain ⟨s13, h12, H⟩ := obnd H
  refine jc_V (pc := 7) (st := []) (c_Board_writeByte ad G p1 s11 _ h12) L0_Board_writeByte w732 w733 w734 15 rfl rfl (jd k_Board_write 5 rfl) rfl (Nat.le_of_ble_eq_true rfl) (by decide) (Nat.le_refl _) (Nat.le_refl _) rfl rfl ?_
  cases H
  subst hP9
  exact j_vret (pc := 10) (jd k_Board_write 6 rfl) rfl ⟨rfl, rfl⟩

set_option maxRecDepth 20000 in
theorem c_Square_product (ad : Nat → Nat) (G : jG) (p0 : Int32) (p1 : Int32) (s : jU) (r : Int32) (H : f_Square_product p0 p1 = some r) : jCon G m_Square_product y_Square_product 0 0 0 [.ref (ad 11), .int p0, .int p1] (mkC ad G s) (jEq (some (.int r)) (mkC ad G s)) := by
  refine jCon.of (by decide +kernel) rfl rfl rfl (Nat.le_of_ble_eq_true rfl) rfl ?_
  have H : (
  some (jrem (p0 * p1) 2039)) = some r := H
  generalize hP9 : jEq (some (.int r)) (mkC ad G s) = P
  refine j_iload_n (pc := 0) 1 (jd k_Square_product 0 rfl) rfl ?_
  refine j_iload_n (pc := 1) 2 (jd k_Square_product 1 rfl) rfl ?_
  refine j_imul (pc := 2) (jd k_Square_product 2 rfl) ?_
  refine j_sipush (pc := 3) (v := 2039) (jd k_Square_product 3 rfl) (by decide) ?_
  refine j_irem (pc := 6) (jd k_Square_product 4 rfl) (by decide) ?_
  cases H
  subst hP9
  exact j_iret (pc := 7) (jd k_Square_product 5 rfl) rfl rfl ⟨rfl, rfl⟩

set_option maxRecDepth 20000 in
theorem c_Curve_product (ad : Nat → Nat) (G : jG) (p0 : Int32) (p1 : Int32) (s : jU) (r : Int32) (H : f_Curve_product p0 p1 = some r) : jCon G m_Curve_product y_Curve_product 0 0 0 [.ref (ad 12), .int p0, .int p1] (mkC ad G s) (jEq (some (.int r)) (mkC ad G s)) := by
  refine jCon.of (by decide +kernel) rfl rfl rfl (Nat.le_of_ble_eq_true rfl) rfl ?_
  have H : (
  if ¬ p0 = 4000 then
    if ¬ p1 = 4000 then
      jlet (p0 >>> (6 &&& 31)) fun x12 =>
      jlet (p0 &&& 63) fun x13 =>
      jlet (p1 >>> (6 &&& 31)) fun x14 =>
      jlet (p1 &&& 63) fun x15 =>
      if ¬ x12 = x14 then
        Option.bind (α := Int32) (
          if ¬ x12 = x14 then
            some ((x15 - x13) + 43)
          else
            some ((3 * x12) * x12)) fun x18 =>
        Option.bind (α := Int32) (
          if ¬ x12 = x14 then
            some ((x14 - x12) + 43)
          else
            some (2 * x13)) fun x22 =>
        jlet (jrem x22 43) fun x25 =>
        if jin x25 43 then
        jlet (jrem (x18 * (invT x25.toNatClampNeg)) 43) fun x27 =>
        jlet (jrem ((((x27 * x27) + 86) - x12) - x14) 43) fun x28 =>
        jlet (jrem (((x27 * ((x12 - x28) + 43)) + 43) - x13) 43) fun x29 =>
        some ((x28 <<< (6 &&& 31)) ||| x29)
        else none
      else
        if ¬ (x13 + x15) = 43 then
          Option.bind (α := Int32) (
            if ¬ x12 = x14 then
              some ((x15 - x13) + 43)
            else
              some ((3 * x12) * x12)) fun x36 =>
          Option.bind (α := Int32) (
            if ¬ x12 = x14 then
              some ((x14 - x12) + 43)
            else
              some (2 * x13)) fun x40 =>
          jlet (jrem x40 43) fun x43 =>
          if jin x43 43 then
          jlet (jrem (x36 * (invT x43.toNatClampNeg)) 43) fun x45 =>
          jlet (jrem ((((x45 * x45) + 86) - x12) - x14) 43) fun x46 =>
          jlet (jrem (((x45 * ((x12 - x46) + 43)) + 43) - x13) 43) fun x47 =>
          some ((x46 <<< (6 &&& 31)) ||| x47)
          else none
        else
          some 4000
    else
      some p0
  else
    some p1) = some r := H
  generalize hP9 : jEq (some (.int r)) (mkC ad G s) = P
  refine j_iload_n (pc := 0) 1 (jd k_Curve_product 0 rfl) rfl ?_
  refine j_aload_n (pc := 1) 0 (jd k_Curve_product 1 rfl) rfl ?_
  refine j_get (pc := 2) (fs := [.ref (ad 4), .int 4000, .int 140, .int 1362, .ref (ad 13)]) (v := .int 4000) fl_Curve_13_3 12 (jd k_Curve_product 2 rfl) rfl rfl ?_
  refine j_icmp_ne (pc := 5) (tgt := 10) (jd k_Curve_product 3 rfl) rfl (fun h10 => ?_) (fun h10 => ?_)
  · rw [if_pos h10] at H
    refine j_iload_n (pc := 10) 2 (jd k_Curve_product 6 rfl) rfl ?_
    refine j_aload_n (pc := 11) 0 (jd k_Curve_product 7 rfl) rfl ?_
    refine j_get (pc := 12) (fs := [.ref (ad 4), .int 4000, .int 140, .int 1362, .ref (ad 13)]) (v := .int 4000) fl_Curve_13_3 12 (jd k_Curve_product 8 rfl) rfl rfl ?_
    refine j_icmp_ne (pc := 15) (tgt := 20) (jd k_Curve_product 9 rfl) rfl (fun h11 => ?_) (fun h11 => ?_)
    · rw [if_pos h11] at H
      refine j_iload_n (pc := 20) 1 (jd k_Curve_product 12 rfl) rfl ?_
      refine j_bipush (pc := 21) (v := 6) (jd k_Curve_product 13 rfl) (by decide) ?_
      refine j_ishr (pc := 23) (jd k_Curve_product 14 rfl) ?_
      obtain ⟨x12, e55, H⟩ := olet H
      refine j_topi e55 ?_
      refine j_istore_n (pc := 24) (lv' := [(0, .ref (ad 12)), (1, .int p0), (2, .int p1), (3, .int x12)]) (jd k_Curve_product 15 rfl) rfl (Nat.le_of_ble_eq_true rfl) rfl ?_
      refine j_iload_n (pc := 25) 1 (jd k_Curve_product 16 rfl) rfl ?_
      refine j_bipush (pc := 26) (v := 63) (jd k_Curve_product 17 rfl) (by decide) ?_
      refine j_iand (pc := 28) (jd k_Curve_product 18 rfl) ?_
      obtain ⟨x13, e54, H⟩ := olet H
      refine j_topi e54 ?_
      refine j_istore (pc := 29) (lv' := [(0, .ref (ad 12)), (1, .int p0), (2, .int p1), (3, .int x12), (4, .int x13)]) (jd k_Curve_product 19 rfl) rfl (Nat.le_of_ble_eq_true rfl) rfl ?_
      refine j_iload_n (pc := 31) 2 (jd k_Curve_product 20 rfl) rfl ?_
      refine j_bipush (pc := 32) (v := 6) (jd k_Curve_product 21 rfl) (by decide) ?_
      refine j_ishr (pc := 34) (jd k_Curve_product 22 rfl) ?_
      obtain ⟨x14, e53, H⟩ := olet H
      refine j_topi e53 ?_
      refine j_istore (pc := 35) (lv' := [(0, .ref (ad 12)), (1, .int p0), (2, .int p1), (3, .int x12), (4, .int x13), (5, .int x14)]) (jd k_Curve_product 23 rfl) rfl (Nat.le_of_ble_eq_true rfl) rfl ?_
      refine j_iload_n (pc := 37) 2 (jd k_Curve_product 24 rfl) rfl ?_
      refine j_bipush (pc := 38) (v := 63) (jd k_Curve_product 25 rfl) (by decide) ?_
      refine j_iand (pc := 40) (jd k_Curve_product 26 rfl) ?_
      obtain ⟨x15, e52, H⟩ := olet H
      refine j_topi e52 ?_
      refine j_istore (pc := 41) (lv' := [(0, .ref (ad 12)), (1, .int p0), (2, .int p1), (3, .int x12), (4, .int x13), (5, .int x14), (6, .int x15)]) (jd k_Curve_product 27 rfl) rfl (Nat.le_of_ble_eq_true rfl) rfl ?_
      refine j_iload_n (pc := 43) 3 (jd k_Curve_product 28 rfl) rfl ?_
      refine j_iload (pc := 44) 5 (jd k_Curve_product 29 rfl) rfl ?_
      refine j_icmp_ne (pc := 46) (tgt := 64) (jd k_Curve_product 30 rfl) rfl (fun h16 => ?_) (fun h16 => ?_)
      · rw [if_pos h16] at H
        refine j_iload_n (pc := 64) 3 (jd k_Curve_product 39 rfl) rfl ?_
        refine j_iload (pc := 65) 5 (jd k_Curve_product 40 rfl) rfl ?_
        obtain ⟨x18, h19, H⟩ := obnd H
        have K20 : J G m_Curve_product 0 0 0 P 86 [(0, .ref (ad 12)), (3, .int x12), (4, .int x13), (5, .int x14)] [.int x18] (mkC ad G s) 0 0 := by
          refine j_istore (pc := 86) (lv' := [(0, .ref (ad 12)), (3, .int x12), (4, .int x13), (5, .int x14), (7, .int x18)]) (jd k_Curve_product 53 rfl) rfl (Nat.le_of_ble_eq_true rfl) rfl ?_
          refine j_iload_n (pc := 88) 1 (jd k_Curve_product 54 rfl) rfl ?_
          refine j_iload (pc := 89) 3 (jd k_Curve_product 55 rfl) rfl ?_
          obtain ⟨x22, h23, H⟩ := obnd H
          have K24 : J G m_Curve_product 0 0 0 P 108 [(0, .ref (ad 12)), (3, .int x12), (4, .int x13), (5, .int x14), (7, .int x18)] [.int x22] (mkC ad G s) 0 0 := by
            refine j_bipush (pc := 108) (v := 43) (jd k_Curve_product 66 rfl) (by decide) ?_
            refine j_irem (pc := 110) (jd k_Curve_product 67 rfl) (by decide) ?_
            obtain ⟨x25, e33, H⟩ := olet H
            refine j_topi e33 ?_
            refine j_istore (pc := 111) (lv' := [(0, .ref (ad 12)), (3, .int x12), (4, .int x13), (5, .int x14), (7, .int x18), (8, .int x25)]) (jd k_Curve_product 68 rfl) rfl (Nat.le_of_ble_eq_true rfl) rfl ?_
            refine j_iload (pc := 113) 4 (jd k_Curve_product 69 rfl) rfl ?_
            refine j_aload_n (pc := 115) 0 (jd k_Curve_product 70 rfl) rfl ?_
            refine j_get (pc := 116) (fs := [.ref (ad 4), .int 4000, .int 140, .int 1362, .ref (ad 13)]) (v := .ref (ad 13)) fl_Curve_9_3 12 (jd k_Curve_product 71 rfl) rfl rfl ?_
            refine j_iload (pc := 119) 5 (jd k_Curve_product 72 rfl) rfl ?_
            obtain ⟨h26, H⟩ := ochk H
            refine j_iald (pc := 121) (f := invT) 13 (jd k_Curve_product 73 rfl) rfl (jin.vp h26) ?_
            refine j_imul (pc := 122) (jd k_Curve_product 74 rfl) ?_
            refine j_bipush (pc := 123) (v := 43) (jd k_Curve_product 75 rfl) (by decide) ?_
            refine j_irem (pc := 125) (jd k_Curve_product 76 rfl) (by decide) ?_
            obtain ⟨x27, e32, H⟩ := olet H
            refine j_topi e32 ?_
            refine j_istore (pc := 126) (lv' := [(0, .ref (ad 12)), (3, .int x12), (4, .int x13), (5, .int x14), (7, .int x18), (8, .int x25), (9, .int x27)]) (jd k_Curve_product 77 rfl) rfl (Nat.le_of_ble_eq_true rfl) rfl ?_
            refine j_iload (pc := 128) 6 (jd k_Curve_product 78 rfl) rfl ?_
            refine j_iload (pc := 130) 6 (jd k_Curve_product 79 rfl) rfl ?_
            refine j_imul (pc := 132) (jd k_Curve_product 80 rfl) ?_
            refine j_bipush (pc := 133) (v := 86) (jd k_Curve_product 81 rfl) (by decide) ?_
            refine j_iadd (pc := 135) (jd k_Curve_product 82 rfl) ?_
            refine j_iload_n (pc := 136) 1 (jd k_Curve_product 83 rfl) rfl ?_
            refine j_isub (pc := 137) (jd k_Curve_product 84 rfl) ?_
            refine j_iload (pc := 138) 3 (jd k_Curve_product 85 rfl) rfl ?_
            refine j_isub (pc := 140) (jd k_Curve_product 86 rfl) ?_
            refine j_bipush (pc := 141) (v := 43) (jd k_Curve_product 87 rfl) (by decide) ?_
            refine j_irem (pc := 143) (jd k_Curve_product 88 rfl) (by decide) ?_
            obtain ⟨x28, e31, H⟩ := olet H
            refine j_topi e31 ?_
            refine j_istore (pc := 144) (lv' := [(0, .ref (ad 12)), (3, .int x12), (4, .int x13), (5, .int x14), (7, .int x18), (8, .int x25), (9, .int x27), (10, .int x28)]) (jd k_Curve_product 89 rfl) rfl (Nat.le_of_ble_eq_true rfl) rfl ?_
            refine j_iload (pc := 146) 6 (jd k_Curve_product 90 rfl) rfl ?_
            refine j_iload_n (pc := 148) 1 (jd k_Curve_product 91 rfl) rfl ?_
            refine j_iload (pc := 149) 7 (jd k_Curve_product 92 rfl) rfl ?_
            refine j_isub (pc := 151) (jd k_Curve_product 93 rfl) ?_
            refine j_bipush (pc := 152) (v := 43) (jd k_Curve_product 94 rfl) (by decide) ?_
            refine j_iadd (pc := 154) (jd k_Curve_product 95 rfl) ?_
            refine j_imul (pc := 155) (jd k_Curve_product 96 rfl) ?_
            refine j_bipush (pc := 156) (v := 43) (jd k_Curve_product 97 rfl) (by decide) ?_
            refine j_iadd (pc := 158) (jd k_Curve_product 98 rfl) ?_
            refine j_iload (pc := 159) 2 (jd k_Curve_product 99 rfl) rfl ?_
            refine j_isub (pc := 161) (jd k_Curve_product 100 rfl) ?_
            refine j_bipush (pc := 162) (v := 43) (jd k_Curve_product 101 rfl) (by decide) ?_
            refine j_irem (pc := 164) (jd k_Curve_product 102 rfl) (by decide) ?_
            obtain ⟨x29, e30, H⟩ := olet H
            refine j_topi e30 ?_
            refine j_istore (pc := 165) (lv' := [(0, .ref (ad 12)), (3, .int x12), (4, .int x13), (5, .int x14), (7, .int x18), (8, .int x25), (9, .int x27), (10, .int x28), (11, .int x29)]) (jd k_Curve_product 103 rfl) rfl (Nat.le_of_ble_eq_true rfl) rfl ?_
            refine j_iload (pc := 167) 7 (jd k_Curve_product 104 rfl) rfl ?_
            refine j_bipush (pc := 169) (v := 6) (jd k_Curve_product 105 rfl) (by decide) ?_
            refine j_ishl (pc := 171) (jd k_Curve_product 106 rfl) ?_
            refine j_iload (pc := 172) 8 (jd k_Curve_product 107 rfl) rfl ?_
            refine j_ior (pc := 174) (jd k_Curve_product 108 rfl) ?_
            cases H
            subst hP9
            exact j_iret (pc := 175) (jd k_Curve_product 109 rfl) rfl rfl ⟨rfl, rfl⟩
          have H := h23
          refine j_icmp_ne (pc := 91) (tgt := 101) (jd k_Curve_product 56 rfl) rfl (fun h21 => ?_) (fun h21 => ?_)
          · rw [if_pos h21] at H
            refine j_iload (pc := 101) 3 (jd k_Curve_product 61 rfl) rfl ?_
            refine j_iload_n (pc := 103) 1 (jd k_Curve_product 62 rfl) rfl ?_
            refine j_isub (pc := 104) (jd k_Curve_product 63 rfl) ?_
            refine j_bipush (pc := 105) (v := 43) (jd k_Curve_product 64 rfl) (by decide) ?_
            refine j_iadd (pc := 107) (jd k_Curve_product 65 rfl) ?_
            cases H
            exact K24
          · rw [if_neg (not_not_intro h21)] at H
            refine j_iconst (pc := 94) (v := 2) (jd k_Curve_product 57 rfl) (by decide) ?_
            refine j_iload (pc := 95) 2 (jd k_Curve_product 58 rfl) rfl ?_
            refine j_imul (pc := 97) (jd k_Curve_product 59 rfl) ?_
            refine j_goto (pc := 98) (tgt := 108) (jd k_Curve_product 60 rfl) rfl ?_
            cases H
            exact K24
        have H := h19
        refine j_icmp_ne (pc := 67) (tgt := 78) (jd k_Curve_product 41 rfl) rfl (fun h17 => ?_) (fun h17 => ?_)
        · rw [if_pos h17] at H
          refine j_iload (pc := 78) 6 (jd k_Curve_product 48 rfl) rfl ?_
          refine j_iload (pc := 80) 4 (jd k_Curve_product 49 rfl) rfl ?_
          refine j_isub (pc := 82) (jd k_Curve_product 50 rfl) ?_
          refine j_bipush (pc := 83) (v := 43) (jd k_Curve_product 51 rfl) (by decide) ?_
          refine j_iadd (pc := 85) (jd k_Curve_product 52 rfl) ?_
          cases H
          exact j_pick [0, 3, 4, 5] rfl K20
        · rw [if_neg (not_not_intro h17)] at H
          refine j_iconst (pc := 70) (v := 3) (jd k_Curve_product 42 rfl) (by decide) ?_
          refine j_iload_n (pc := 71) 3 (jd k_Curve_product 43 rfl) rfl ?_
          refine j_imul (pc := 72) (jd k_Curve_product 44 rfl) ?_
          refine j_iload_n (pc := 73) 3 (jd k_Curve_product 45 rfl) rfl ?_
          refine j_imul (pc := 74) (jd k_Curve_product 46 rfl) ?_
          refine j_goto (pc := 75) (tgt := 86) (jd k_Curve_product 47 rfl) rfl ?_
          cases H
          exact j_pick [0, 3, 4, 5] rfl K20
      · rw [if_neg (not_not_intro h16)] at H
        refine j_iload (pc := 49) 4 (jd k_Curve_product 31 rfl) rfl ?_
        refine j_iload (pc := 51) 6 (jd k_Curve_product 32 rfl) rfl ?_
        refine j_iadd (pc := 53) (jd k_Curve_product 33 rfl) ?_
        refine j_bipush (pc := 54) (v := 43) (jd k_Curve_product 34 rfl) (by decide) ?_
        refine j_icmp_ne (pc := 56) (tgt := 64) (jd k_Curve_product 35 rfl) rfl (fun h34 => ?_) (fun h34 => ?_)
        · rw [if_pos h34] at H
          refine j_iload_n (pc := 64) 3 (jd k_Curve_product 39 rfl) rfl ?_
          refine j_iload (pc := 65) 5 (jd k_Curve_product 40 rfl) rfl ?_
          obtain ⟨x36, h37, H⟩ := obnd H
          have K38 : J G m_Curve_product 0 0 0 P 86 [(0, .ref (ad 12)), (3, .int x12), (4, .int x13), (5, .int x14)] [.int x36] (mkC ad G s) 0 0 := by
            refine j_istore (pc := 86) (lv' := [(0, .ref (ad 12)), (3, .int x12), (4, .int x13), (5, .int x14), (7, .int x36)]) (jd k_Curve_product 53 rfl) rfl (Nat.le_of_ble_eq_true rfl) rfl ?_
            refine j_iload_n (pc := 88) 1 (jd k_Curve_product 54 rfl) rfl ?_
            refine j_iload (pc := 89) 3 (jd k_Curve_product 55 rfl) rfl ?_
            obtain ⟨x40, h41, H⟩ := obnd H
            have K42 : J G m_Curve_product 0 0 0 P 108 [(0, .ref (ad 12)), (3, .int x12), (4, .int x13), (5, .int x14), (7, .int x36)] [.int x40] (mkC ad G s) 0 0 := by
              refine j_bipush (pc := 108) (v := 43) (jd k_Curve_product 66 rfl) (by decide) ?_
              refine j_irem (pc := 110) (jd k_Curve_product 67 rfl) (by decide) ?_
              obtain ⟨x43, e51, H⟩ := olet H
              refine j_topi e51 ?_
              refine j_istore (pc := 111) (lv' := [(0, .ref (ad 12)), (3, .int x12), (4, .int x13), (5, .int x14), (7, .int x36), (8, .int x43)]) (jd k_Curve_product 68 rfl) rfl (Nat.le_of_ble_eq_true rfl) rfl ?_
              refine j_iload (pc := 113) 4 (jd k_Curve_product 69 rfl) rfl ?_
              refine j_aload_n (pc := 115) 0 (jd k_Curve_product 70 rfl) rfl ?_
              refine j_get (pc := 116) (fs := [.ref (ad 4), .int 4000, .int 140, .int 1362, .ref (ad 13)]) (v := .ref (ad 13)) fl_Curve_9_3 12 (jd k_Curve_product 71 rfl) rfl rfl ?_
              refine j_iload (pc := 119) 5 (jd k_Curve_product 72 rfl) rfl ?_
              obtain ⟨h44, H⟩ := ochk H
              refine j_iald (pc := 121) (f := invT) 13 (jd k_Curve_product 73 rfl) rfl (jin.vp h44) ?_
              refine j_imul (pc := 122) (jd k_Curve_product 74 rfl) ?_
              refine j_bipush (pc := 123) (v := 43) (jd k_Curve_product 75 rfl) (by decide) ?_
              refine j_irem (pc := 125) (jd k_Curve_product 76 rfl) (by decide) ?_
              obtain ⟨x45, e50, H⟩ := olet H
              refine j_topi e50 ?_
              refine j_istore (pc := 126) (lv' := [(0, .ref (ad 12)), (3, .int x12), (4, .int x13), (5, .int x14), (7, .int x36), (8, .int x43), (9, .int x45)]) (jd k_Curve_product 77 rfl) rfl (Nat.le_of_ble_eq_true rfl) rfl ?_
              refine j_iload (pc := 128) 6 (jd k_Curve_product 78 rfl) rfl ?_
              refine j_iload (pc := 130) 6 (jd k_Curve_product 79 rfl) rfl ?_
              refine j_imul (pc := 132) (jd k_Curve_product 80 rfl) ?_
              refine j_bipush (pc := 133) (v := 86) (jd k_Curve_product 81 rfl) (by decide) ?_
              refine j_iadd (pc := 135) (jd k_Curve_product 82 rfl) ?_
              refine j_iload_n (pc := 136) 1 (jd k_Curve_product 83 rfl) rfl ?_
              refine j_isub (pc := 137) (jd k_Curve_product 84 rfl) ?_
              refine j_iload (pc := 138) 3 (jd k_Curve_product 85 rfl) rfl ?_
              refine j_isub (pc := 140) (jd k_Curve_product 86 rfl) ?_
              refine j_bipush (pc := 141) (v := 43) (jd k_Curve_product 87 rfl) (by decide) ?_
              refine j_irem (pc := 143) (jd k_Curve_product 88 rfl) (by decide) ?_
              obtain ⟨x46, e49, H⟩ := olet H
              refine j_topi e49 ?_
              refine j_istore (pc := 144) (lv' := [(0, .ref (ad 12)), (3, .int x12), (4, .int x13), (5, .int x14), (7, .int x36), (8, .int x43), (9, .int x45), (10, .int x46)]) (jd k_Curve_product 89 rfl) rfl (Nat.le_of_ble_eq_true rfl) rfl ?_
              refine j_iload (pc := 146) 6 (jd k_Curve_product 90 rfl) rfl ?_
              refine j_iload_n (pc := 148) 1 (jd k_Curve_product 91 rfl) rfl ?_
              refine j_iload (pc := 149) 7 (jd k_Curve_product 92 rfl) rfl ?_
              refine j_isub (pc := 151) (jd k_Curve_product 93 rfl) ?_
              refine j_bipush (pc := 152) (v := 43) (jd k_Curve_product 94 rfl) (by decide) ?_
              refine j_iadd (pc := 154) (jd k_Curve_product 95 rfl) ?_
              refine j_imul (pc := 155) (jd k_Curve_product 96 rfl) ?_
              refine j_bipush (pc := 156) (v := 43) (jd k_Curve_product 97 rfl) (by decide) ?_
              refine j_iadd (pc := 158) (jd k_Curve_product 98 rfl) ?_
              refine j_iload (pc := 159) 2 (jd k_Curve_product 99 rfl) rfl ?_
              refine j_isub (pc := 161) (jd k_Curve_product 100 rfl) ?_
              refine j_bipush (pc := 162) (v := 43) (jd k_Curve_product 101 rfl) (by decide) ?_
              refine j_irem (pc := 164) (jd k_Curve_product 102 rfl) (by decide) ?_
              obtain ⟨x47, e48, H⟩ := olet H
              refine j_topi e48 ?_
              refine j_istore (pc := 165) (lv' := [(0, .ref (ad 12)), (3, .int x12), (4, .int x13), (5, .int x14), (7, .int x36), (8, .int x43), (9, .int x45), (10, .int x46), (11, .int x47)]) (jd k_Curve_product 103 rfl) rfl (Nat.le_of_ble_eq_true rfl) rfl ?_
              refine j_iload (pc := 167) 7 (jd k_Curve_product 104 rfl) rfl ?_
              refine j_bipush (pc := 169) (v := 6) (jd k_Curve_product 105 rfl) (by decide) ?_
              refine j_ishl (pc := 171) (jd k_Curve_product 106 rfl) ?_
              refine j_iload (pc := 172) 8 (jd k_Curve_product 107 rfl) rfl ?_
              refine j_ior (pc := 174) (jd k_Curve_product 108 rfl) ?_
              cases H
              subst hP9
              exact j_iret (pc := 175) (jd k_Curve_product 109 rfl) rfl rfl ⟨rfl, rfl⟩
            have H := h41
            refine j_icmp_ne (pc := 91) (tgt := 101) (jd k_Curve_product 56 rfl) rfl (fun h39 => ?_) (fun h39 => ?_)
            · rw [if_pos h39] at H
              refine j_iload (pc := 101) 3 (jd k_Curve_product 61 rfl) rfl ?_
              refine j_iload_n (pc := 103) 1 (jd k_Curve_product 62 rfl) rfl ?_
              refine j_isub (pc := 104) (jd k_Curve_product 63 rfl) ?_
              refine j_bipush (pc := 105) (v := 43) (jd k_Curve_product 64 rfl) (by decide) ?_
              refine j_iadd (pc := 107) (jd k_Curve_product 65 rfl) ?_
              cases H
              exact K42
            · rw [if_neg (not_not_intro h39)] at H
              refine j_iconst (pc := 94) (v := 2) (jd k_Curve_product 57 rfl) (by decide) ?_
              refine j_iload (pc := 95) 2 (jd k_Curve_product 58 rfl) rfl ?_
              refine j_imul (pc := 97) (jd k_Curve_product 59 rfl) ?_
              refine j_goto (pc := 98) (tgt := 108) (jd k_Curve_product 60 rfl) rfl ?_
              cases H
              exact K42
          have H := h37
          refine j_icmp_ne (pc := 67) (tgt := 78) (jd k_Curve_product 41 rfl) rfl (fun h35 => ?_) (fun h35 => ?_)
          · rw [if_pos h35] at H
            refine j_iload (pc := 78) 6 (jd k_Curve_product 48 rfl) rfl ?_
            refine j_iload (pc := 80) 4 (jd k_Curve_product 49 rfl) rfl ?_
            refine j_isub (pc := 82) (jd k_Curve_product 50 rfl) ?_
            refine j_bipush (pc := 83) (v := 43) (jd k_Curve_product 51 rfl) (by decide) ?_
            refine j_iadd (pc := 85) (jd k_Curve_product 52 rfl) ?_
            cases H
            exact j_pick [0, 3, 4, 5] rfl K38
          · rw [if_neg (not_not_intro h35)] at H
            refine j_iconst (pc := 70) (v := 3) (jd k_Curve_product 42 rfl) (by decide) ?_
            refine j_iload_n (pc := 71) 3 (jd k_Curve_product 43 rfl) rfl ?_
            refine j_imul (pc := 72) (jd k_Curve_product 44 rfl) ?_
            refine j_iload_n (pc := 73) 3 (jd k_Curve_product 45 rfl) rfl ?_
            refine j_imul (pc := 74) (jd k_Curve_product 46 rfl) ?_
            refine j_goto (pc := 75) (tgt := 86) (jd k_Curve_product 47 rfl) rfl ?_
            cases H
            exact j_pick [0, 3, 4, 5] rfl K38
        · rw [if_neg (not_not_intro h34)] at H
          refine j_aload_n (pc := 59) 0 (jd k_Curve_product 36 rfl) rfl ?_
          refine j_get (pc := 60) (fs := [.ref (ad 4), .int 4000, .int 140, .int 1362, .ref (ad 13)]) (v := .int 4000) fl_Curve_13_3 12 (jd k_Curve_product 37 rfl) rfl rfl ?_
          cases H
          subst hP9
          exact j_iret (pc := 63) (jd k_Curve_product 38 rfl) rfl rfl ⟨rfl, rfl⟩
    · rw [if_neg (not_not_intro h11)] at H
      refine j_iload_n (pc := 18) 1 (jd k_Curve_product 10 rfl) rfl ?_
      cases H
      subst hP9
      exact j_iret (pc := 19) (jd k_Curve_product 11 rfl) rfl rfl ⟨rfl, rfl⟩
  · rw [if_neg (not_not_intro h10)] at H
    refine j_iload_n (pc := 8) 2 (jd k_Curve_product 4 rfl) rfl ?_
    cases H
    subst hP9
    exact j_iret (pc := 9) (jd k_Curve_product 5 rfl) rfl rfl ⟨rfl, rfl⟩

set_option maxRecDepth 20000 in
theorem vG_product {ad : Nat → Nat} {G : jG} {M : jM} {d mc ms : Nat} {P : jR → va_W → Prop} {pc : Nat} {lv : List (Nat × Value)} {st : List Value} {k n ix : Nat} (f : Nat) (hf : f < 2) (p0 : Int32) (p1 : Int32) (s : jU) (r : Int32) (H : G_product f p0 p1 = some r) (hk : Cond.methodLink M.1 ix ⟨"SharingRoom$Group", "product", "(II)I"⟩ ∈ jWS) (hd : decode M.2.1 pc = .ok (.invokevirtual ix, 3)) (hst : (st.map fun v => v.category).sum ≤ 8) (hdd : 0 + 1 ≤ d) (hm : k ≤ mc) (hn2 : n ≤ ms) (kk : J G M d mc ms P (pc + 3) lv (.int r :: st) (mkC ad G s) k n) : J G M d mc ms P pc lv (.int p1 :: .int p0 :: .ref (ad (11 + f)) :: st) (mkC ad G s) k n := by
  match f, hf with
  | 0, _ => exact jc_U (c_Square_product ad G p0 p1 s r H) L0_Square_product hk ⟨rfl, rfl, by decide, by decide⟩ w750 w754 w755 (Or.inl wt749) 11 rfl rfl hd rfl hst (Nat.le_trans (by decide) hdd) hm hn2 rfl rfl kk
  | 1, _ => exact jc_U (c_Curve_product ad G p0 p1 s r H) L0_Curve_product hk ⟨rfl, rfl, by decide, by decide⟩ w750 w751 w752 (Or.inl wt749) 12 rfl rfl hd rfl hst (Nat.le_trans (by decide) hdd) hm hn2 rfl rfl kk

set_option maxRecDepth 20000 in
theorem lp_Group_power_11 {ad : Nat → Nat} {G : jG} {P : jR → va_W → Prop} (k0 : Nat) (hk0 : k0 < 2) (s : jU) : ∀ (n : Nat) (x11 : Int32) (x12 : Int32) (x13 : Int32) (r : Int32 × Int32 × Int32), L_Group_power_11 k0 n x11 x12 x13 = some r → J G m_Group_power 1 0 0 P 51 [(0, .ref (ad (11 + k0))), (3, .int r.1), (4, .int r.2.1), (5, .int r.2.2)] [] (mkC ad G s) 0 0 → J G m_Group_power 1 0 0 P 11 [(0, .ref (ad (11 + k0))), (3, .int x11), (4, .int x12), (5, .int x13)] [] (mkC ad G s) 0 0 := by
  intro n
  induction n with
  | zero =>
    intro x11 x12 x13 r H
    cases (show none = some r from H)
  | succ n ih =>
    intro x11 x12 x13 r H kx
    have H : (
    if x13 ≤ 0 then
      some (x11, x12, x13)
    else
      Option.bind (α := Int32) (
        if ¬ (x13 &&& 1) = 1 then
          some x11
        else
          Option.bind (G_product k0 x11 x12) fun x17 =>
          some x17) fun x18 =>
      Option.bind (G_product k0 x12 x12) fun x22 =>
      jlet (x13 >>> (1 &&& 31)) fun x23 =>
      L_Group_power_11 k0 n x18 x22 x23) = some r := H
    refine j_iload (pc := 11) 3 (jd k_Group_power 7 rfl) rfl ?_
    refine j_if_le (pc := 13) (tgt := 51) (jd k_Group_power 8 rfl) rfl (fun h14 => ?_) (fun h14 => ?_)
    · rw [if_pos h14] at H
      cases H
      exact kx
    · rw [if_neg h14] at H
      refine j_iload (pc := 16) 3 (jd k_Group_power 9 rfl) rfl ?_
      refine j_iconst (pc := 18) (v := 1) (jd k_Group_power 10 rfl) (by decide) ?_
      refine j_iand (pc := 19) (jd k_Group_power 11 rfl) ?_
      refine j_iconst (pc := 20) (v := 1) (jd k_Group_power 12 rfl) (by decide) ?_
      obtain ⟨x18, h19, H⟩ := obnd H
      have K20 : J G m_Group_power 1 0 0 P 32 [(0, .ref (ad (11 + k0))), (3, .int x18), (4, .int x12), (5, .int x13)] [] (mkC ad G s) 0 0 := by
        refine j_aload_n (pc := 32) 0 (jd k_Group_power 19 rfl) rfl ?_
        refine j_iload (pc := 33) 2 (jd k_Group_power 20 rfl) rfl ?_
        refine j_iload (pc := 35) 2 (jd k_Group_power 21 rfl) rfl ?_
        obtain ⟨x22, h21, H⟩ := obnd H
        refine vG_product (pc := 37) (st := []) k0 hk0 x12 x12 s _ h21 w748 (jd k_Group_power 22 rfl) (Nat.le_of_ble_eq_true rfl) (by decide) (Nat.le_refl _) (Nat.le_refl _) ?_
        refine j_istore (pc := 40) (lv' := [(0, .ref (ad (11 + k0))), (3, .int x18), (4, .int x22), (5, .int x13)]) (jd k_Group_power 23 rfl) rfl (Nat.le_of_ble_eq_true rfl) rfl ?_
        refine j_iload (pc := 42) 3 (jd k_Group_power 24 rfl) rfl ?_
        refine j_iconst (pc := 44) (v := 1) (jd k_Group_power 25 rfl) (by decide) ?_
        refine j_ishr (pc := 45) (jd k_Group_power 26 rfl) ?_
        obtain ⟨x23, e24, H⟩ := olet H
        refine j_topi e24 ?_
        refine j_istore (pc := 46) (lv' := [(0, .ref (ad (11 + k0))), (3, .int x18), (4, .int x22), (5, .int x23)]) (jd k_Group_power 27 rfl) rfl (Nat.le_of_ble_eq_true rfl) rfl ?_
        refine j_goto (pc := 48) (tgt := 11) (jd k_Group_power 28 rfl) rfl ?_
        exact ih x18 x22 x23 _ H kx
      have H := h19
      refine j_icmp_ne (pc := 21) (tgt := 32) (jd k_Group_power 13 rfl) rfl (fun h15 => ?_) (fun h15 => ?_)
      · rw [if_pos h15] at H
        cases H
        exact K20
      · rw [if_neg (not_not_intro h15)] at H
        refine j_aload_n (pc := 24) 0 (jd k_Group_power 14 rfl) rfl ?_
        refine j_iload_n (pc := 25) 1 (jd k_Group_power 15 rfl) rfl ?_
        refine j_iload (pc := 26) 2 (jd k_Group_power 16 rfl) rfl ?_
        obtain ⟨x17, h16, H⟩ := obnd H
        refine vG_product (pc := 28) (st := []) k0 hk0 x11 x12 s _ h16 w748 (jd k_Group_power 17 rfl) (Nat.le_of_ble_eq_true rfl) (by decide) (Nat.le_refl _) (Nat.le_refl _) ?_
        refine j_istore_n (pc := 31) (lv' := [(0, .ref (ad (11 + k0))), (3, .int x17), (4, .int x12), (5, .int x13)]) (jd k_Group_power 18 rfl) rfl (Nat.le_of_ble_eq_true rfl) rfl ?_
        cases H
        exact K20

set_option maxRecDepth 20000 in
theorem c_Group_power (ad : Nat → Nat) (G : jG) (k0 : Nat) (hk0 : k0 < 2) (p0 : Int32) (p1 : Int32) (s : jU) (r : Int32) (H : f_Group_power k0 p0 p1 = some r) : jCon G m_Group_power y_Group_power 1 0 0 [.ref (ad (11 + k0)), .int p0, .int p1] (mkC ad G s) (jEq (some (.int r)) (mkC ad G s)) := by
  refine jCon.of (by decide +kernel) rfl rfl rfl (Nat.le_of_ble_eq_true rfl) rfl ?_
  have H : (
  jlet (gneu k0) fun x10 =>
  Option.bind (L_Group_power_11 k0 jF x10 p0 p1) fun (x25, x26, x27) =>
  some x25) = some r := H
  generalize hP9 : jEq (some (.int r)) (mkC ad G s) = P
  refine j_aload_n (pc := 0) 0 (jd k_Group_power 0 rfl) rfl ?_
  refine g_neu (pc := 1) fl_Group_13_9 fl_Group_13_3 (g := k0) hk0 (jd k_Group_power 1 rfl) ?_
  obtain ⟨x10, e29, H⟩ := olet H
  refine j_topi e29 ?_
  refine j_istore_n (pc := 4) (lv' := [(0, .ref (ad (11 + k0))), (1, .int p0), (2, .int p1), (3, .int x10)]) (jd k_Group_power 2 rfl) rfl (Nat.le_of_ble_eq_true rfl) rfl ?_
  refine j_iload_n (pc := 5) 1 (jd k_Group_power 3 rfl) rfl ?_
  refine j_istore (pc := 6) (lv' := [(0, .ref (ad (11 + k0))), (1, .int p0), (2, .int p1), (3, .int x10), (4, .int p0)]) (jd k_Group_power 4 rfl) rfl (Nat.le_of_ble_eq_true rfl) rfl ?_
  refine j_iload_n (pc := 8) 2 (jd k_Group_power 5 rfl) rfl ?_
  refine j_istore (pc := 9) (lv' := [(0, .ref (ad (11 + k0))), (1, .int p0), (2, .int p1), (3, .int x10), (4, .int p0), (5, .int p1)]) (jd k_Group_power 6 rfl) rfl (Nat.le_of_ble_eq_true rfl) rfl ?_
  obtain ⟨⟨x25, x26, x27⟩, h28, H⟩ := obnd H
  try dsimp only at H
  refine j_pick (lv' := [(0, .ref (ad (11 + k0))), (3, .int x10), (4, .int p0), (5, .int p1)]) [0, 3, 4, 5] rfl ?_
  refine lp_Group_power_11 k0 hk0 s jF x10 p0 p1 _ h28 ?_
  refine j_pick (lv' := [(3, .int x25)]) [1] rfl ?_
  refine j_iload_n (pc := 51) 0 (jd k_Group_power 29 rfl) rfl ?_
  cases H
  subst hP9
  exact j_iret (pc := 52) (jd k_Group_power 30 rfl) rfl rfl ⟨rfl, rfl⟩

set_option maxRecDepth 20000 in
theorem vG_power {ad : Nat → Nat} {G : jG} {M : jM} {d mc ms : Nat} {P : jR → va_W → Prop} {pc : Nat} {lv : List (Nat × Value)} {st : List Value} {k n ix : Nat} (f : Nat) (hf : f < 2) (p0 : Int32) (p1 : Int32) (s : jU) (r : Int32) (H : f_Group_power f p0 p1 = some r) (hk : Cond.methodLink M.1 ix ⟨"SharingRoom$Group", "power", "(II)I"⟩ ∈ jWS) (hd : decode M.2.1 pc = .ok (.invokevirtual ix, 3)) (hst : (st.map fun v => v.category).sum ≤ 8) (hdd : 1 + 1 ≤ d) (hm : k ≤ mc) (hn2 : n ≤ ms) (kk : J G M d mc ms P (pc + 3) lv (.int r :: st) (mkC ad G s) k n) : J G M d mc ms P pc lv (.int p1 :: .int p0 :: .ref (ad (11 + f)) :: st) (mkC ad G s) k n := by
  match f, hf with
  | 0, _ => exact jc_U (c_Group_power ad G 0 (by decide) p0 p1 s r H) L0_Group_power hk ⟨rfl, rfl, by decide, by decide⟩ w744 w746 w743 (Or.inr rfl) 11 rfl rfl hd rfl hst (Nat.le_trans (by decide) hdd) hm hn2 rfl rfl kk
  | 1, _ => exact jc_U (c_Group_power ad G 1 (by decide) p0 p1 s r H) L0_Group_power hk ⟨rfl, rfl, by decide, by decide⟩ w744 w745 w743 (Or.inr rfl) 12 rfl rfl hd rfl hst (Nat.le_trans (by decide) hdd) hm hn2 rfl rfl kk

set_option maxRecDepth 20000 in
theorem c_Group_commit (ad : Nat → Nat) (G : jG) (k0 : Nat) (hk0 : k0 < 2) (p0 : Int32) (p1 : Int32) (s : jU) (r : Int32) (H : f_Group_commit k0 p0 p1 = some r) : jCon G m_Group_commit y_Group_commit 2 0 0 [.ref (ad (11 + k0)), .int p0, .int p1] (mkC ad G s) (jEq (some (.int r)) (mkC ad G s)) := by
  refine jCon.of (by decide +kernel) rfl rfl rfl (Nat.le_of_ble_eq_true rfl) rfl ?_
  have H : (
  Option.bind (f_Group_power k0 (ggen k0) p0) fun x11 =>
  Option.bind (f_Group_power k0 (ghei k0) p1) fun x13 =>
  Option.bind (G_product k0 x11 x13) fun x15 =>
  some x15) = some r := H
  generalize hP9 : jEq (some (.int r)) (mkC ad G s) = P
  refine j_aload_n (pc := 0) 0 (jd k_Group_commit 0 rfl) rfl ?_
  refine j_aload_n (pc := 1) 0 (jd k_Group_commit 1 rfl) rfl ?_
  refine j_aload_n (pc := 2) 0 (jd k_Group_commit 2 rfl) rfl ?_
  refine g_gen (pc := 3) fl_Group_17_9 fl_Group_17_3 (g := k0) hk0 (jd k_Group_commit 3 rfl) ?_
  refine j_iload_n (pc := 6) 1 (jd k_Group_commit 4 rfl) rfl ?_
  obtain ⟨x11, h10, H⟩ := obnd H
  refine vG_power (pc := 7) (st := [.ref (ad (11 + k0))]) k0 hk0 (ggen k0) p0 s _ h10 w742 (jd k_Group_commit 5 rfl) (Nat.le_of_ble_eq_true rfl) (by decide) (Nat.le_refl _) (Nat.le_refl _) ?_
  refine j_aload_n (pc := 10) 0 (jd k_Group_commit 6 rfl) rfl ?_
  refine j_aload_n (pc := 11) 0 (jd k_Group_commit 7 rfl) rfl ?_
  refine g_hei (pc := 12) fl_Group_20_9 fl_Group_20_3 (g := k0) hk0 (jd k_Group_commit 8 rfl) ?_
  refine j_iload_n (pc := 15) 2 (jd k_Group_commit 9 rfl) rfl ?_
  obtain ⟨x13, h12, H⟩ := obnd H
  refine vG_power (pc := 16) (st := [.int x11, .ref (ad (11 + k0))]) k0 hk0 (ghei k0) p1 s _ h12 w742 (jd k_Group_commit 10 rfl) (Nat.le_of_ble_eq_true rfl) (by decide) (Nat.le_refl _) (Nat.le_refl _) ?_
  obtain ⟨x15, h14, H⟩ := obnd H
  refine vG_product (pc := 19) (st := []) k0 hk0 x11 x13 s _ h14 w748 (jd k_Group_commit 11 rfl) (Nat.le_of_ble_eq_true rfl) (by decide) (Nat.le_refl _) (Nat.le_refl _) ?_
  cases H
  subst hP9
  exact j_iret (pc := 22) (jd k_Group_commit 12 rfl) rfl rfl ⟨rfl, rfl⟩

set_option maxRecDepth 20000 in
theorem vG_commit {ad : Nat → Nat} {G : jG} {M : jM} {d mc ms : Nat} {P : jR → va_W → Prop} {pc : Nat} {lv : List (Nat × Value)} {st : List Value} {k n ix : Nat} (f : Nat) (hf : f < 2) (p0 : Int32) (p1 : Int32) (s : jU) (r : Int32) (H : f_Group_commit f p0 p1 = some r) (hk : Cond.methodLink M.1 ix ⟨"SharingRoom$Group", "commit", "(II)I"⟩ ∈ jWS) (hd : decode M.2.1 pc = .ok (.invokevirtual ix, 3)) (hst : (st.map fun v => v.category).sum ≤ 8) (hdd : 2 + 1 ≤ d) (hm : k ≤ mc) (hn2 : n ≤ ms) (kk : J G M d mc ms P (pc + 3) lv (.int r :: st) (mkC ad G s) k n) : J G M d mc ms P pc lv (.int p1 :: .int p0 :: .ref (ad (11 + f)) :: st) (mkC ad G s) k n := by
  match f, hf with
  | 0, _ => exact jc_U (c_Group_commit ad G 0 (by decide) p0 p1 s r H) L0_Group_commit hk ⟨rfl, rfl, by decide, by decide⟩ w738 w740 w737 (Or.inr rfl) 11 rfl rfl hd rfl hst (Nat.le_trans (by decide) hdd) hm hn2 rfl rfl kk
  | 1, _ => exact jc_U (c_Group_commit ad G 1 (by decide) p0 p1 s r H) L0_Group_commit hk ⟨rfl, rfl, by decide, by decide⟩ w738 w739 w737 (Or.inr rfl) 12 rfl rfl hd rfl hst (Nat.le_trans (by decide) hdd) hm hn2 rfl rfl kk

set_option maxRecDepth 20000 in
theorem c_Board_writePair (ad : Nat → Nat) (G : jG) (p0 : Int32) (s : jU) (r : jU) (H : f_Board_writePair p0 s = some r) : jCon G m_Board_writePair y_Board_writePair 1 0 0 [.ref (ad 15), .int p0] (mkC ad G s) (jEq none (mkC ad G r)) := by
  refine jCon.of (by decide +kernel) rfl rfl rfl (Nat.le_of_ble_eq_true rfl) rfl ?_
  have H : (
  Option.bind (f_Board_writeByte (p0 >>> (8 &&& 31)) s) fun s11 =>
  Option.bind (f_Board_writeByte p0 s11) fun s13 =>
  some s13) = some r := H
  generalize hP9 : jEq none (mkC ad G r) = P
  refine j_aload_n (pc := 0) 0 (jd k_Board_writePair 0 rfl) rfl ?_
  refine j_iload_n (pc := 1) 1 (jd k_Board_writePair 1 rfl) rfl ?_
  refine j_bipush (pc := 2) (v := 8) (jd k_Board_writePair 2 rfl) (by decide) ?_
  refine j_ishr (pc := 4) (jd k_Board_writePair 3 rfl) ?_
  obtain ⟨s11, h10, H⟩ := obnd H
  refine jc_V (pc := 5) (st := []) (c_Board_writeByte ad G (p0 >>> (8 &&& 31)) s _ h10) L0_Board_writeByte w732 w733 w734 15 rfl rfl (jd k_Board_writePair 4 rfl) rfl (Nat.le_of_ble_eq_true rfl) (by decide) (Nat.le_refl _) (Nat.le_refl _) rfl rfl ?_
  refine j_aload_n (pc := 8) 0 (jd k_Board_writePair 5 rfl) rfl ?_
  refine j_iload_n (pc := 9) 1 (jd k_Board_writePair 6 rfl) rfl ?_
  obtain ⟨s13, h12, H⟩ := obnd H
  refine jc_V (pc := 10) (st := []) (c_Board_writeByte ad G p0 s11 _ h12) L0_Board_writeByte w732 w733 w734 15 rfl rfl (jd k_Board_writePair 7 rfl) rfl (Nat.le_of_ble_eq_true rfl) (by decide) (Nat.le_refl _) (Nat.le_refl _) rfl rfl ?_
  cases H
  subst hP9
  exact j_vret (pc := 13) (jd k_Board_writePair 8 rfl) rfl ⟨rfl, rfl⟩

set_option maxRecDepth 20000 in
theorem lp_Field_polynomialAt_8 {ad : Nat → Nat} {G : jG} {P : jR → va_W → Prop} (k0 : Nat) (hk0 : k0 < 3) (p0 : Int32) (N1 : Nat) (g1 : Nat → Int32) (p3 : Int32) (s : jU) (q1 : Nat) (a1 : Nat) (hq1 : (mkC ad G s)[q1]? = some (a1, .inl (G.1 0, N1, .inl g1))) : ∀ (n : Nat) (x11 : Int32) (x12 : Int32) (r : Int32 × Int32), L_Field_polynomialAt_8 k0 N1 g1 p3 n x11 x12 = some r → J G m_Field_polynomialAt 1 0 0 P 37 [(0, .ref (ad (2 + k0))), (1, .int p0), (2, .ref a1), (4, .int p3), (5, .int r.1), (6, .int r.2)] [] (mkC ad G s) 0 0 → J G m_Field_polynomialAt 1 0 0 P 8 [(0, .ref (ad (2 + k0))), (1, .int p0), (2, .ref a1), (4, .int p3), (5, .int x11), (6, .int x12)] [] (mkC ad G s) 0 0 := by
  intro n
  induction n with
  | zero =>
    intro x11 x12 r H
    cases (show none = some r from H)
  | succ n ih =>
    intro x11 x12 r H kx
    have H : (
    if x12 ≤ 0 then
      some (x11, x12)
    else
      if jin x12 N1 then
      Option.bind (F_plus k0 x11 (g1 x12.toNatClampNeg)) fun x16 =>
      Option.bind (F_times k0 x16 p3) fun x18 =>
      jlet (x12 + (-1)) fun x19 =>
      L_Field_polynomialAt_8 k0 N1 g1 p3 n x18 x19
      else none) = some r := H
    refine j_iload (pc := 8) 5 (jd k_Field_polynomialAt 6 rfl) rfl ?_
    refine j_if_le (pc := 10) (tgt := 37) (jd k_Field_polynomialAt 7 rfl) rfl (fun h13 => ?_) (fun h13 => ?_)
    · rw [if_pos h13] at H
      cases H
      exact kx
    · rw [if_neg h13] at H
      refine j_aload_n (pc := 13) 0 (jd k_Field_polynomialAt 8 rfl) rfl ?_
      refine j_aload_n (pc := 14) 0 (jd k_Field_polynomialAt 9 rfl) rfl ?_
      refine j_iload (pc := 15) 4 (jd k_Field_polynomialAt 10 rfl) rfl ?_
      refine j_aload_n (pc := 17) 2 (jd k_Field_polynomialAt 11 rfl) rfl ?_
      refine j_iload (pc := 18) 5 (jd k_Field_polynomialAt 12 rfl) rfl ?_
      obtain ⟨h14, H⟩ := ochk H
      refine j_iald (pc := 20) (f := g1) q1 (jd k_Field_polynomialAt 13 rfl) hq1 (jin.vp h14) ?_
      obtain ⟨x16, h15, H⟩ := obnd H
      refine vF_plus (pc := 21) (st := [.ref (ad (2 + k0))]) k0 hk0 x11 (g1 x12.toNatClampNeg) s _ h15 w771 (jd k_Field_polynomialAt 14 rfl) (Nat.le_of_ble_eq_true rfl) (by decide) (Nat.le_refl _) (Nat.le_refl _) ?_
      refine j_iload (pc := 24) 3 (jd k_Field_polynomialAt 15 rfl) rfl ?_
      obtain ⟨x18, h17, H⟩ := obnd H
      refine vF_times (pc := 26) (st := []) k0 hk0 x16 p3 s _ h17 w359 (jd k_Field_polynomialAt 16 rfl) (Nat.le_of_ble_eq_true rfl) (by decide) (Nat.le_refl _) (Nat.le_refl _) ?_
      refine j_istore (pc := 29) (lv' := [(0, .ref (ad (2 + k0))), (1, .int p0), (2, .ref a1), (4, .int p3), (5, .int x18), (6, .int x12)]) (jd k_Field_polynomialAt 17 rfl) rfl (Nat.le_of_ble_eq_true rfl) rfl ?_
      obtain ⟨x19, e20, H⟩ := olet H
      refine j_iinc (pc := 31) (lv' := [(0, .ref (ad (2 + k0))), (1, .int p0), (2, .ref a1), (4, .int p3), (5, .int x18), (6, .int x19)]) 5 (jd k_Field_polynomialAt 18 rfl) rfl e20 rfl (Nat.le_of_ble_eq_true rfl) rfl ?_
      refine j_goto (pc := 34) (tgt := 8) (jd k_Field_polynomialAt 19 rfl) rfl ?_
      exact ih x18 x19 _ H kx

set_option maxRecDepth 20000 in
theorem c_Field_polynomialAt (ad : Nat → Nat) (G : jG) (s : jU) (k0 : Nat) (hk0 : k0 < 3) (p0 : Int32) (N1 : Nat) (g1 : Nat → Int32) (q1 a1 : Nat) (hq1 : (mkC ad G s)[q1]? = some (a1, .inl (G.1 0, N1, .inl g1))) (p2 : Int32) (p3 : Int32) (r : Int32) (H : f_Field_polynomialAt k0 p0 N1 g1 p2 p3 = some r) : jCon G m_Field_polynomialAt y_Field_polynomialAt 1 0 0 [.ref (ad (2 + k0)), .int p0, .ref a1, .int p2, .int p3] (mkC ad G s) (jEq (some (.int r)) (mkC ad G s)) := by
  refine jCon.of (by decide +kernel) rfl rfl rfl (Nat.le_of_ble_eq_true rfl) rfl ?_
  have H : (
  jlet (p2 - 1) fun x10 =>
  Option.bind (L_Field_polynomialAt_8 k0 N1 g1 p3 jF 0 x10) fun (x21, x22) =>
  Option.bind (F_plus k0 x21 p0) fun x25 =>
  some x25) = some r := H
  generalize hP9 : jEq (some (.int r)) (mkC ad G s) = P
  refine j_iconst (pc := 0) (v := 0) (jd k_Field_polynomialAt 0 rfl) (by decide) ?_
  refine j_istore (pc := 1) (lv' := [(0, .ref (ad (2 + k0))), (1, .int p0), (2, .ref a1), (3, .int p2), (4, .int p3), (5, .int 0)]) (jd k_Field_polynomialAt 1 rfl) rfl (Nat.le_of_ble_eq_true rfl) rfl ?_
  refine j_iload_n (pc := 3) 3 (jd k_Field_polynomialAt 2 rfl) rfl ?_
  refine j_iconst (pc := 4) (v := 1) (jd k_Field_polynomialAt 3 rfl) (by decide) ?_
  refine j_isub (pc := 5) (jd k_Field_polynomialAt 4 rfl) ?_
  obtain ⟨x10, e26, H⟩ := olet H
  refine j_topi e26 ?_
  refine j_istore (pc := 6) (lv' := [(0, .ref (ad (2 + k0))), (1, .int p0), (2, .ref a1), (3, .int p2), (4, .int p3), (5, .int 0), (6, .int x10)]) (jd k_Field_polynomialAt 5 rfl) rfl (Nat.le_of_ble_eq_true rfl) rfl ?_
  obtain ⟨⟨x21, x22⟩, h23, H⟩ := obnd H
  try dsimp only at H
  refine j_pick (lv' := [(0, .ref (ad (2 + k0))), (1, .int p0), (2, .ref a1), (4, .int p3), (5, .int 0), (6, .int x10)]) [0, 1, 2, 4, 5, 6] rfl ?_
  refine lp_Field_polynomialAt_8 k0 hk0 p0 N1 g1 p3 s q1 a1 hq1 jF 0 x10 _ h23 ?_
  refine j_pick (lv' := [(0, .ref (ad (2 + k0))), (1, .int p0), (5, .int x21)]) [0, 1, 4] rfl ?_
  refine j_aload_n (pc := 37) 0 (jd k_Field_polynomialAt 20 rfl) rfl ?_
  refine j_iload (pc := 38) 2 (jd k_Field_polynomialAt 21 rfl) rfl ?_
  refine j_iload_n (pc := 40) 1 (jd k_Field_polynomialAt 22 rfl) rfl ?_
  obtain ⟨x25, h24, H⟩ := obnd H
  refine vF_plus (pc := 41) (st := []) k0 hk0 x21 p0 s _ h24 w771 (jd k_Field_polynomialAt 23 rfl) (Nat.le_of_ble_eq_true rfl) (by decide) (Nat.le_refl _) (Nat.le_refl _) ?_
  cases H
  subst hP9
  exact j_iret (pc := 44) (jd k_Field_polynomialAt 24 rfl) rfl rfl ⟨rfl, rfl⟩

set_option maxRecDepth 20000 in
theorem vF_polynomialAt {ad : Nat → Nat} {G : jG} {M : jM} {d mc ms : Nat} {P : jR → va_W → Prop} {pc : Nat} {lv : List (Nat × Value)} {st : List Value} {k n ix : Nat} {s : jU} (f : Nat) (hf : f < 3) (p0 : Int32) (N1 : Nat) (g1 : Nat → Int32) (q1 a1 : Nat) (hq1 : (mkC ad G s)[q1]? = some (a1, .inl (G.1 0, N1, .inl g1))) (p2 : Int32) (p3 : Int32) (s9 : jU) (r : Int32) (H : f_Field_polynomialAt f p0 N1 g1 p2 p3 = some r) (hk : Cond.methodLink M.1 ix ⟨"SharingRoom$Field", "polynomialAt", "(I[III)I"⟩ ∈ jWS) (hd : decode M.2.1 pc = .ok (.invokevirtual ix, 3)) (hst : (st.map fun v => v.category).sum ≤ 8) (hdd : 1 + 1 ≤ d) (hm : k ≤ mc) (hn2 : n ≤ ms) (kk : J G M d mc ms P (pc + 3) lv (.int r :: st) (mkC ad G s) k n) : J G M d mc ms P pc lv (.int p3 :: .int p2 :: .ref a1 :: .int p0 :: .ref (ad (2 + f)) :: st) (mkC ad G s) k n := by
  obtain rfl | rfl | rfl : f = 0 ∨ f = 1 ∨ f = 2 := by omega
  · exact jc_U (c_Field_polynomialAt ad G s 0 (by decide) p0 N1 g1 q1 a1 hq1 p2 p3 r H) L0_Field_polynomialAt hk ⟨rfl, rfl, by decide, by decide⟩ w767 w768 w766 (Or.inr rfl) 2 rfl rfl hd rfl hst (Nat.le_trans (by decide) hdd) hm hn2 rfl rfl kk
  · exact jc_U (c_Field_polynomialAt ad G s 1 (by decide) p0 N1 g1 q1 a1 hq1 p2 p3 r H) L0_Field_polynomialAt hk ⟨rfl, rfl, by decide, by decide⟩ w767 w769 w766 (Or.inr rfl) 3 rfl rfl hd rfl hst (Nat.le_trans (by decide) hdd) hm hn2 rfl rfl kk
  · exact jc_U (c_Field_polynomialAt ad G s 2 (by decide) p0 N1 g1 q1 a1 hq1 p2 p3 r H) L0_Field_polynomialAt hk ⟨rfl, rfl, by decide, by decide⟩ w767 w769 w766 (Or.inr rfl) 4 rfl rfl hd rfl hst (Nat.le_trans (by decide) hdd) hm hn2 rfl rfl kk

set_option maxRecDepth 20000 in
theorem c_Room_dealtNumber (ad : Nat → Nat) (G : jG) (p0 : Int32) (p1 : Int32) (p2 : Int32) (s : jU) (r : Int32) (H : f_Room_dealtNumber p0 p1 p2 s = some r) : jCon G m_Room_dealtNumber y_Room_dealtNumber 2 0 0 [.ref (ad 9), .int p0, .int p1, .int p2] (mkC ad G s) (jEq (some (.int r)) (mkC ad G s)) := by
  refine jCon.of (by decide +kernel) rfl rfl rfl (Nat.le_of_ble_eq_true rfl) rfl ?_
  have H : (
  Option.bind (jidx (p0 - 1) 7) fun k10 =>
  Option.bind (jidx p2 2) fun k12 =>
  if jin 0 7 then
  Option.bind (f_Field_polynomialAt (fnum (s 53 0 0)) (s (0 + k12) k10 (0 : Int32).toNatClampNeg) 7 (s (0 + k12) k10) (s 21 0 0) p1) fun x16 =>
  some x16
  else none) = some r := H
  generalize hP9 : jEq (some (.int r)) (mkC ad G s) = P
  refine j_aload_n (pc := 0) 0 (jd k_Room_dealtNumber 0 rfl) rfl ?_
  refine j_iload_n (pc := 1) 1 (jd k_Room_dealtNumber 1 rfl) rfl ?_
  obtain ⟨k10, h11, H⟩ := obnd H
  have hk10 : k10 < 7 := jidx.lt h11
  refine jc_V (pc := 2) (st := []) (c_Room_party ad G p0 s k10 h11) L0_Room_party w401 w403 w1 9 rfl rfl (jd k_Room_dealtNumber 2 rfl) rfl (Nat.le_of_ble_eq_true rfl) (by decide) (Nat.le_refl _) (Nat.le_refl _) rfl rfl ?_
  refine j_get (pc := 5) (fs := flPy ad s k10) (v := .ref (ad (27 + 15 * k10))) fl_Room_101_4 (26 + 15 * k10) (jd k_Room_dealtNumber 3 rfl) (lkPy ad G s hk10) rfl ?_
  refine j_iload_n (pc := 8) 3 (jd k_Room_dealtNumber 4 rfl) rfl ?_
  obtain ⟨k12, h13, H⟩ := obnd H
  have hk12 : k12 < 2 := jidx.lt h13
  refine j_aald (pc := 9) (t0 := 6) (v := ad (28 + 15 * k10 + k12)) (27 + 15 * k10) (jd k_Room_dealtNumber 5 rfl) (lkAA_1 ad G s hk10) rfl rfl (jidx.vp h13) (jidx.row h13 ad (jrow15 _ _)) ?_
  refine j_astore (pc := 10) (lv' := [(0, .ref (ad 9)), (1, .int p0), (2, .int p1), (3, .int p2), (4, .ref (ad (28 + 15 * k10 + k12)))]) (jd k_Room_dealtNumber 6 rfl) rfl (Nat.le_of_ble_eq_true rfl) rfl ?_
  refine j_aload_n (pc := 12) 0 (jd k_Room_dealtNumber 7 rfl) rfl ?_
  refine j_get (pc := 13) (fs := flRm ad s) (v := .ref (ad (2 + (fnum (s 53 0 0))))) fl_Room_42_7 9 (jd k_Room_dealtNumber 8 rfl) rfl rfl ?_
  refine j_aload (pc := 16) 4 (jd k_Room_dealtNumber 9 rfl) rfl ?_
  refine j_iconst (pc := 18) (v := 0) (jd k_Room_dealtNumber 10 rfl) (by decide) ?_
  obtain ⟨h14, H⟩ := ochk H
  refine j_iald (pc := 19) (f := s (0 + k12) k10) (28 + 15 * k10 + k12) (jd k_Room_dealtNumber 11 rfl) (lkR_1 ad G s hk10 (w := k12) hk12) (jin.vp h14) ?_
  refine j_aload (pc := 20) 4 (jd k_Room_dealtNumber 12 rfl) rfl ?_
  refine j_aload_n (pc := 22) 0 (jd k_Room_dealtNumber 13 rfl) rfl ?_
  refine j_get (pc := 23) (fs := flRm ad s) (v := .int (s 21 0 0)) fl_Room_59_7 9 (jd k_Room_dealtNumber 14 rfl) rfl rfl ?_
  refine j_iload_n (pc := 26) 2 (jd k_Room_dealtNumber 15 rfl) rfl ?_
  obtain ⟨x16, h15, H⟩ := obnd H
  refine vF_polynomialAt (pc := 27) (st := []) (fnum (s 53 0 0)) (fnum_lt _) (s (0 + k12) k10 (0 : Int32).toNatClampNeg) 7 (s (0 + k12) k10) (28 + 15 * k10 + k12) (ad (28 + 15 * k10 + k12)) (lkR_1 ad G s hk10 (w := k12) hk12) (s 21 0 0) p1 s _ h15 w765 (jd k_Room_dealtNumber 16 rfl) (Nat.le_of_ble_eq_true rfl) (by decide) (Nat.le_refl _) (Nat.le_refl _) ?_
  cases H
  subst hP9
  exact j_iret (pc := 30) (jd k_Room_dealtNumber 17 rfl) rfl rfl ⟨rfl, rfl⟩

set_option maxRecDepth 20000 in
theorem lp_Room_deal_82 {ad : Nat → Nat} {G : jG} {P : jR → va_W → Prop} (p0 : Int32) (k10 : Nat) (hk10 : k10 < 7) : ∀ (n : Nat) (x33 : Int32) (s34 : jU) (r : Int32 × jU), L_Room_deal_82 p0 k10 n x33 s34 = some r → J G m_Room_deal 3 0 0 P 173 [(0, .ref (ad 9)), (1, .int p0), (2, .ref (ad (26 + 15 * k10))), (3, .int r.1)] [] (mkC ad G r.2) 0 0 → J G m_Room_deal 3 0 0 P 82 [(0, .ref (ad 9)), (1, .int p0), (2, .ref (ad (26 + 15 * k10))), (3, .int x33)] [] (mkC ad G s34) 0 0 := by
  intro n
  induction n with
  | zero =>
    intro x33 s34 r H
    cases (show none = some r from H)
  | succ n ih =>
    intro x33 s34 r H kx
    have H : (
    if (s34 20 0 0) < x33 then
      some (x33, s34)
    else
      Option.bind (f_Room_dealtNumber p0 x33 0 s34) fun x37 =>
      if jin 1 7 then
      Option.bind (α := Int32) (
        if ¬ (s34 2 k10 (1 : Int32).toNatClampNeg) = x33 then
          some 0
        else
          some 1) fun x40 =>
      Option.bind (jidx (x33 - 1) 7) fun k43 =>
      Option.bind (α := Int32) (
        if x40 = 0 then
          some x37
        else
          Option.bind (F_plus (fnum (s34 53 0 0)) x37 1) fun x47 =>
          some x47) fun x48 =>
      if jin p0 8 then
      jlet (ups s34 5 k43 (upd (s34 5 k43) p0.toNatClampNeg x48)) fun s51 =>
      Option.bind (jidx (x33 - 1) 7) fun k54 =>
      Option.bind (f_Room_dealtNumber p0 x33 1 s51) fun x57 =>
      if jin p0 8 then
      jlet (ups s51 6 k54 (upd (s51 6 k54) p0.toNatClampNeg x57)) fun s58 =>
      jlet (x33 + 1) fun x61 =>
      L_Room_deal_82 p0 k10 n x61 s58
      else none
      else none
      else none) = some r := H
    refine j_iload_n (pc := 82) 3 (jd k_Room_deal 49 rfl) rfl ?_
    refine j_aload_n (pc := 83) 0 (jd k_Room_deal 50 rfl) rfl ?_
    refine j_get (pc := 84) (fs := flRm ad s34) (v := .int (s34 20 0 0)) fl_Room_55_7 9 (jd k_Room_deal 51 rfl) rfl rfl ?_
    refine j_icmp_gt (pc := 87) (tgt := 173) (jd k_Room_deal 52 rfl) rfl (fun h35 => ?_) (fun h35 => ?_)
    · rw [if_pos h35] at H
      cases H
      exact kx
    · rw [if_neg h35] at H
      refine j_aload_n (pc := 90) 0 (jd k_Room_deal 53 rfl) rfl ?_
      refine j_iload_n (pc := 91) 1 (jd k_Room_deal 54 rfl) rfl ?_
      refine j_iload_n (pc := 92) 3 (jd k_Room_deal 55 rfl) rfl ?_
      refine j_iconst (pc := 93) (v := 0) (jd k_Room_deal 56 rfl) (by decide) ?_
      obtain ⟨x37, h36, H⟩ := obnd H
      refine jc_V (pc := 94) (st := []) (c_Room_dealtNumber ad G p0 x33 0 s34 _ h36) L0_Room_dealtNumber w761 w763 w8 9 rfl rfl (jd k_Room_deal 57 rfl) rfl (Nat.le_of_ble_eq_true rfl) (by decide) (Nat.le_refl _) (Nat.le_refl _) rfl rfl ?_
      refine j_istore (pc := 97) (lv' := [(0, .ref (ad 9)), (1, .int p0), (2, .ref (ad (26 + 15 * k10))), (3, .int x33), (4, .int x37)]) (jd k_Room_deal 58 rfl) rfl (Nat.le_of_ble_eq_true rfl) rfl ?_
      refine j_aload_n (pc := 99) 2 (jd k_Room_deal 59 rfl) rfl ?_
      refine j_get (pc := 100) (fs := flPy ad s34 k10) (v := .ref (ad (30 + 15 * k10))) fl_Room_116_4 (26 + 15 * k10) (jd k_Room_deal 60 rfl) (lkPy ad G s34 hk10) rfl ?_
      refine j_iconst (pc := 103) (v := 1) (jd k_Room_deal 61 rfl) (by decide) ?_
      obtain ⟨h38, H⟩ := ochk H
      refine j_iald (pc := 104) (f := s34 2 k10) (30 + 15 * k10) (jd k_Room_deal 62 rfl) (lkA_4 ad G s34 hk10) (jin.vp h38) ?_
      refine j_iload_n (pc := 105) 3 (jd k_Room_deal 63 rfl) rfl ?_
      obtain ⟨x40, h41, H⟩ := obnd H
      have K42 : J G m_Room_deal 3 0 0 P 114 [(0, .ref (ad 9)), (1, .int p0), (2, .ref (ad (26 + 15 * k10))), (3, .int x33), (4, .int x37)] [.int x40] (mkC ad G s34) 0 0 := by
        refine j_istore (pc := 114) (lv' := [(0, .ref (ad 9)), (1, .int p0), (2, .ref (ad (26 + 15 * k10))), (3, .int x33), (4, .int x37), (5, .int x40)]) (jd k_Room_deal 68 rfl) rfl (Nat.le_of_ble_eq_true rfl) rfl ?_
        refine j_aload_n (pc := 116) 0 (jd k_Room_deal 69 rfl) rfl ?_
        refine j_iload_n (pc := 117) 3 (jd k_Room_deal 70 rfl) rfl ?_
        obtain ⟨k43, h44, H⟩ := obnd H
        have hk43 : k43 < 7 := jidx.lt h44
        refine jc_V (pc := 118) (st := []) (c_Room_party ad G x33 s34 k43 h44) L0_Room_party w401 w403 w1 9 rfl rfl (jd k_Room_deal 71 rfl) rfl (Nat.le_of_ble_eq_true rfl) (by decide) (Nat.le_refl _) (Nat.le_refl _) rfl rfl ?_
        refine j_get (pc := 121) (fs := flPy ad s34 k43) (v := .ref (ad (34 + 15 * k43))) fl_Room_136_4 (26 + 15 * k43) (jd k_Room_deal 72 rfl) (lkPy ad G s34 hk43) rfl ?_
        refine j_iconst (pc := 124) (v := 0) (jd k_Room_deal 73 rfl) (by decide) ?_
        refine j_aald (pc := 125) (t0 := 6) (v := ad (35 + 15 * k43 + 0)) (34 + 15 * k43) (jd k_Room_deal 74 rfl) (lkAA_8 ad G s34 hk43) rfl rfl (jidx.vp jidx0) (jidx.row jidx0 ad (jrow15 _ _)) ?_
        refine j_iload_n (pc := 126) 1 (jd k_Room_deal 75 rfl) rfl ?_
        refine j_iload (pc := 127) 5 (jd k_Room_deal 76 rfl) rfl ?_
        obtain ⟨x48, h49, H⟩ := obnd H
        have K50 : J G m_Room_deal 3 0 0 P 147 [(0, .ref (ad 9)), (1, .int p0), (2, .ref (ad (26 + 15 * k10))), (3, .int x33)] [.int x48, .int p0, .ref (ad (35 + 15 * k43 + 0))] (mkC ad G s34) 0 0 := by
          obtain ⟨h53, H⟩ := ochk H
          obtain ⟨s51, e52, H⟩ := olet H
          refine j_iast (pc := 147) (f := s34 5 k43) (35 + 15 * k43 + 0) (jd k_Room_deal 85 rfl) (lkR_8 ad G s34 hk43 (w := 0) jlt0) (jin.vp h53) ((wrR_8 ad G s34 hk43 (w := 0) jlt0 _).trans (congrArg (mkC ad G) e52)) ?_
          refine j_aload_n (pc := 148) 0 (jd k_Room_deal 86 rfl) rfl ?_
          refine j_iload_n (pc := 149) 3 (jd k_Room_deal 87 rfl) rfl ?_
          obtain ⟨k54, h55, H⟩ := obnd H
          have hk54 : k54 < 7 := jidx.lt h55
          refine jc_V (pc := 150) (st := []) (c_Room_party ad G x33 s51 k54 h55) L0_Room_party w401 w403 w1 9 rfl rfl (jd k_Room_deal 88 rfl) rfl (Nat.le_of_ble_eq_true rfl) (by decide) (Nat.le_refl _) (Nat.le_refl _) rfl rfl ?_
          refine j_get (pc := 153) (fs := flPy ad s51 k54) (v := .ref (ad (34 + 15 * k54))) fl_Room_136_4 (26 + 15 * k54) (jd k_Room_deal 89 rfl) (lkPy ad G s51 hk54) rfl ?_
          refine j_iconst (pc := 156) (v := 1) (jd k_Room_deal 90 rfl) (by decide) ?_
          refine j_aald (pc := 157) (t0 := 6) (v := ad (35 + 15 * k54 + 1)) (34 + 15 * k54) (jd k_Room_deal 91 rfl) (lkAA_8 ad G s51 hk54) rfl rfl (jidx.vp jidx1) (jidx.row jidx1 ad (jrow15 _ _)) ?_
          refine j_iload_n (pc := 158) 1 (jd k_Room_deal 92 rfl) rfl ?_
          refine j_aload_n (pc := 159) 0 (jd k_Room_deal 93 rfl) rfl ?_
          refine j_iload_n (pc := 160) 1 (jd k_Room_deal 94 rfl) rfl ?_
          refine j_iload_n (pc := 161) 3 (jd k_Room_deal 95 rfl) rfl ?_
          refine j_iconst (pc := 162) (v := 1) (jd k_Room_deal 96 rfl) (by decide) ?_
          obtain ⟨x57, h56, H⟩ := obnd H
          refine jc_V (pc := 163) (st := [.int p0, .ref (ad (35 + 15 * k54 + 1))]) (c_Room_dealtNumber ad G p0 x33 1 s51 _ h56) L0_Room_dealtNumber w761 w763 w8 9 rfl rfl (jd k_Room_deal 97 rfl) rfl (Nat.le_of_ble_eq_true rfl) (by decide) (Nat.le_refl _) (Nat.le_refl _) rfl rfl ?_
          obtain ⟨h60, H⟩ := ochk H
          obtain ⟨s58, e59, H⟩ := olet H
          refine j_iast (pc := 166) (f := s51 6 k54) (35 + 15 * k54 + 1) (jd k_Room_deal 98 rfl) (lkR_8 ad G s51 hk54 (w := 1) jlt1) (jin.vp h60) ((wrR_8 ad G s51 hk54 (w := 1) jlt1 _).trans (congrArg (mkC ad G) e59)) ?_
          obtain ⟨x61, e62, H⟩ := olet H
          refine j_iinc (pc := 167) (lv' := [(0, .ref (ad 9)), (1, .int p0), (2, .ref (ad (26 + 15 * k10))), (3, .int x61)]) 3 (jd k_Room_deal 99 rfl) rfl e62 rfl (Nat.le_of_ble_eq_true rfl) rfl ?_
          refine j_goto (pc := 170) (tgt := 82) (jd k_Room_deal 100 rfl) rfl ?_
          exact ih x61 s58 _ H kx
        have H := h49
        refine j_if_eq (pc := 129) (tgt := 145) (jd k_Room_deal 77 rfl) rfl (fun h45 => ?_) (fun h45 => ?_)
        · rw [if_pos h45] at H
          refine j_iload (pc := 145) 4 (jd k_Room_deal 84 rfl) rfl ?_
          cases H
          exact j_pick [0, 1, 2, 3] rfl K50
        · rw [if_neg h45] at H
          refine j_aload_n (pc := 132) 0 (jd k_Room_deal 78 rfl) rfl ?_
          refine j_get (pc := 133) (fs := flRm ad s34) (v := .ref (ad (2 + (fnum (s34 53 0 0))))) fl_Room_42_7 9 (jd k_Room_deal 79 rfl) rfl rfl ?_
          refine j_iload (pc := 136) 4 (jd k_Room_deal 80 rfl) rfl ?_
          refine j_iconst (pc := 138) (v := 1) (jd k_Room_deal 81 rfl) (by decide) ?_
          obtain ⟨x47, h46, H⟩ := obnd H
          refine vF_plus (pc := 139) (st := [.int p0, .ref (ad (35 + 15 * k43 + 0))]) (fnum (s34 53 0 0)) (fnum_lt _) x37 1 s34 _ h46 w772 (jd k_Room_deal 82 rfl) (Nat.le_of_ble_eq_true rfl) (by decide) (Nat.le_refl _) (Nat.le_refl _) ?_
          refine j_goto (pc := 142) (tgt := 147) (jd k_Room_deal 83 rfl) rfl ?_
          cases H
          exact j_pick [0, 1, 2, 3] rfl K50
      have H := h41
      refine j_icmp_ne (pc := 106) (tgt := 113) (jd k_Room_deal 64 rfl) rfl (fun h39 => ?_) (fun h39 => ?_)
      · rw [if_pos h39] at H
        refine j_iconst (pc := 113) (v := 0) (jd k_Room_deal 67 rfl) (by decide) ?_
        cases H
        exact K42
      · rw [if_neg (not_not_intro h39)] at H
        refine j_iconst (pc := 109) (v := 1) (jd k_Room_deal 65 rfl) (by decide) ?_
        refine j_goto (pc := 110) (tgt := 114) (jd k_Room_deal 66 rfl) rfl ?_
        cases H
        exact K42

set_option maxRecDepth 20000 in
theorem lp_Room_deal_22 {ad : Nat → Nat} {G : jG} {P : jR → va_W → Prop} (p0 : Int32) (k10 : Nat) (hk10 : k10 < 7) : ∀ (n : Nat) (x16 : Int32) (s17 : jU) (r : Int32 × jU), L_Room_deal_22 k10 n x16 s17 = some r → J G m_Room_deal 3 0 0 P 80 [(0, .ref (ad 9)), (1, .int p0), (2, .ref (ad (26 + 15 * k10))), (3, .int r.1)] [] (mkC ad G r.2) 0 0 → J G m_Room_deal 3 0 0 P 22 [(0, .ref (ad 9)), (1, .int p0), (2, .ref (ad (26 + 15 * k10))), (3, .int x16)] [] (mkC ad G s17) 0 0 := by
  intro n
  induction n with
  | zero =>
    intro x16 s17 r H
    cases (show none = some r from H)
  | succ n ih =>
    intro x16 s17 r H kx
    have H : (
    if (s17 21 0 0) ≤ x16 then
      some (x16, s17)
    else
      if jin x16 7 then
      if jin x16 7 then
      Option.bind (f_Group_commit (gnum (s17 50 0 0)) (s17 0 k10 x16.toNatClampNeg) (s17 1 k10 x16.toNatClampNeg)) fun x22 =>
      if jin x16 7 then
      jlet (ups s17 3 k10 (upd (s17 3 k10) x16.toNatClampNeg x22)) fun s23 =>
      Option.bind (f_Board_writePair x22 s23) fun s27 =>
      jlet (x16 + 1) fun x28 =>
      L_Room_deal_22 k10 n x28 s27
      else none
      else none
      else none) = some r := H
    refine j_iload_n (pc := 22) 3 (jd k_Room_deal 14 rfl) rfl ?_
    refine j_aload_n (pc := 23) 0 (jd k_Room_deal 15 rfl) rfl ?_
    refine j_get (pc := 24) (fs := flRm ad s17) (v := .int (s17 21 0 0)) fl_Room_59_7 9 (jd k_Room_deal 16 rfl) rfl rfl ?_
    refine j_icmp_ge (pc := 27) (tgt := 80) (jd k_Room_deal 17 rfl) rfl (fun h18 => ?_) (fun h18 => ?_)
    · rw [if_pos h18] at H
      cases H
      exact kx
    · rw [if_neg h18] at H
      refine j_aload_n (pc := 30) 0 (jd k_Room_deal 18 rfl) rfl ?_
      refine j_get (pc := 31) (fs := flRm ad s17) (v := .ref (ad (11 + (gnum (s17 50 0 0))))) fl_Room_34_7 9 (jd k_Room_deal 19 rfl) rfl rfl ?_
      refine j_aload_n (pc := 34) 2 (jd k_Room_deal 20 rfl) rfl ?_
      refine j_get (pc := 35) (fs := flPy ad s17 k10) (v := .ref (ad (27 + 15 * k10))) fl_Room_101_4 (26 + 15 * k10) (jd k_Room_deal 21 rfl) (lkPy ad G s17 hk10) rfl ?_
      refine j_iconst (pc := 38) (v := 0) (jd k_Room_deal 22 rfl) (by decide) ?_
      refine j_aald (pc := 39) (t0 := 6) (v := ad (28 + 15 * k10 + 0)) (27 + 15 * k10) (jd k_Room_deal 23 rfl) (lkAA_1 ad G s17 hk10) rfl rfl (jidx.vp jidx0) (jidx.row jidx0 ad (jrow15 _ _)) ?_
      refine j_iload_n (pc := 40) 3 (jd k_Room_deal 24 rfl) rfl ?_
      obtain ⟨h19, H⟩ := ochk H
      refine j_iald (pc := 41) (f := s17 0 k10) (28 + 15 * k10 + 0) (jd k_Room_deal 25 rfl) (lkR_1 ad G s17 hk10 (w := 0) jlt0) (jin.vp h19) ?_
      refine j_aload_n (pc := 42) 2 (jd k_Room_deal 26 rfl) rfl ?_
      refine j_get (pc := 43) (fs := flPy ad s17 k10) (v := .ref (ad (27 + 15 * k10))) fl_Room_101_4 (26 + 15 * k10) (jd k_Room_deal 27 rfl) (lkPy ad G s17 hk10) rfl ?_
      refine j_iconst (pc := 46) (v := 1) (jd k_Room_deal 28 rfl) (by decide) ?_
      refine j_aald (pc := 47) (t0 := 6) (v := ad (28 + 15 * k10 + 1)) (27 + 15 * k10) (jd k_Room_deal 29 rfl) (lkAA_1 ad G s17 hk10) rfl rfl (jidx.vp jidx1) (jidx.row jidx1 ad (jrow15 _ _)) ?_
      refine j_iload_n (pc := 48) 3 (jd k_Room_deal 30 rfl) rfl ?_
      obtain ⟨h20, H⟩ := ochk H
      refine j_iald (pc := 49) (f := s17 1 k10) (28 + 15 * k10 + 1) (jd k_Room_deal 31 rfl) (lkR_1 ad G s17 hk10 (w := 1) jlt1) (jin.vp h20) ?_
      obtain ⟨x22, h21, H⟩ := obnd H
      refine vG_commit (pc := 50) (st := []) (gnum (s17 50 0 0)) (gnum_lt _) (s17 0 k10 x16.toNatClampNeg) (s17 1 k10 x16.toNatClampNeg) s17 _ h21 w736 (jd k_Room_deal 32 rfl) (Nat.le_of_ble_eq_true rfl) (by decide) (Nat.le_refl _) (Nat.le_refl _) ?_
      refine j_istore (pc := 53) (lv' := [(0, .ref (ad 9)), (1, .int p0), (2, .ref (ad (26 + 15 * k10))), (3, .int x16), (4, .int x22)]) (jd k_Room_deal 33 rfl) rfl (Nat.le_of_ble_eq_true rfl) rfl ?_
      refine j_aload_n (pc := 55) 2 (jd k_Room_deal 34 rfl) rfl ?_
      refine j_get (pc := 56) (fs := flPy ad s17 k10) (v := .ref (ad (31 + 15 * k10))) fl_Room_138_4 (26 + 15 * k10) (jd k_Room_deal 35 rfl) (lkPy ad G s17 hk10) rfl ?_
      refine j_iconst (pc := 59) (v := 0) (jd k_Room_deal 36 rfl) (by decide) ?_
      refine j_aald (pc := 60) (t0 := 6) (v := ad (32 + 15 * k10 + 0)) (31 + 15 * k10) (jd k_Room_deal 37 rfl) (lkAA_5 ad G s17 hk10) rfl rfl (jidx.vp jidx0) (jidx.row jidx0 ad (jrow15 _ _)) ?_
      refine j_iload_n (pc := 61) 3 (jd k_Room_deal 38 rfl) rfl ?_
      refine j_iload (pc := 62) 4 (jd k_Room_deal 39 rfl) rfl ?_
      obtain ⟨h25, H⟩ := ochk H
      obtain ⟨s23, e24, H⟩ := olet H
      refine j_iast (pc := 64) (f := s17 3 k10) (32 + 15 * k10 + 0) (jd k_Room_deal 40 rfl) (lkR_5 ad G s17 hk10 (w := 0) jlt0) (jin.vp h25) ((wrR_5 ad G s17 hk10 (w := 0) jlt0 _).trans (congrArg (mkC ad G) e24)) ?_
      refine j_aload_n (pc := 65) 0 (jd k_Room_deal 41 rfl) rfl ?_
      refine j_get (pc := 66) (fs := flRm ad s23) (v := .ref (ad 15)) fl_Room_20_7 9 (jd k_Room_deal 42 rfl) rfl rfl ?_
      refine j_iload (pc := 69) 4 (jd k_Room_deal 43 rfl) rfl ?_
      obtain ⟨s27, h26, H⟩ := obnd H
      refine jc_V (pc := 71) (st := []) (c_Board_writePair ad G x22 s23 _ h26) L0_Board_writePair w757 w758 w759 15 rfl rfl (jd k_Room_deal 44 rfl) rfl (Nat.le_of_ble_eq_true rfl) (by decide) (Nat.le_refl _) (Nat.le_refl _) rfl rfl ?_
      obtain ⟨x28, e29, H⟩ := olet H
      refine j_iinc (pc := 74) (lv' := [(0, .ref (ad 9)), (1, .int p0), (2, .ref (ad (26 + 15 * k10))), (3, .int x28), (4, .int x22)]) 3 (jd k_Room_deal 45 rfl) rfl e29 rfl (Nat.le_of_ble_eq_true rfl) rfl ?_
      refine j_goto (pc := 77) (tgt := 22) (jd k_Room_deal 46 rfl) rfl ?_
      refine j_pick (lv' := [(0, .ref (ad 9)), (1, .int p0), (2, .ref (ad (26 + 15 * k10))), (3, .int x28)]) [0, 1, 2, 3] rfl ?_
      exact ih x28 s27 _ H kx

set_option maxRecDepth 20000 in
theorem c_Room_deal (ad : Nat → Nat) (G : jG) (p0 : Int32) (s : jU) (r : jU) (H : f_Room_deal p0 s = some r) : jCon G m_Room_deal y_Room_deal 3 0 0 [.ref (ad 9), .int p0] (mkC ad G s) (jEq none (mkC ad G r)) := by
  refine jCon.of (by decide +kernel) rfl rfl rfl (Nat.le_of_ble_eq_true rfl) rfl ?_
  have H : (
  Option.bind (jidx (p0 - 1) 7) fun k10 =>
  jlet (ups s 12 k10 (fun _ => 1)) fun s12 =>
  Option.bind (f_Board_write 1 p0 s12) fun s15 =>
  Option.bind (L_Room_deal_22 k10 jF 0 s15) fun (x30, s31) =>
  Option.bind (L_Room_deal_82 p0 k10 jF 1 s31) fun (x63, s64) =>
  some s64) = some r := H
  generalize hP9 : jEq none (mkC ad G r) = P
  refine j_aload_n (pc := 0) 0 (jd k_Room_deal 0 rfl) rfl ?_
  refine j_iload_n (pc := 1) 1 (jd k_Room_deal 1 rfl) rfl ?_
  obtain ⟨k10, h11, H⟩ := obnd H
  have hk10 : k10 < 7 := jidx.lt h11
  refine jc_V (pc := 2) (st := []) (c_Room_party ad G p0 s k10 h11) L0_Room_party w401 w403 w1 9 rfl rfl (jd k_Room_deal 2 rfl) rfl (Nat.le_of_ble_eq_true rfl) (by decide) (Nat.le_refl _) (Nat.le_refl _) rfl rfl ?_
  refine j_astore_n (pc := 5) (lv' := [(0, .ref (ad 9)), (1, .int p0), (2, .ref (ad (26 + 15 * k10)))]) (jd k_Room_deal 3 rfl) rfl (Nat.le_of_ble_eq_true rfl) rfl ?_
  refine j_aload_n (pc := 6) 2 (jd k_Room_deal 4 rfl) rfl ?_
  refine j_iconst (pc := 7) (v := 1) (jd k_Room_deal 5 rfl) (by decide) ?_
  obtain ⟨s12, e13, H⟩ := olet H
  refine j_put (pc := 8) (fs := flPy ad s k10) (fp_Room_172_4 _) (26 + 15 * k10) (jd k_Room_deal 6 rfl) (lkPy ad G s hk10) rfl rfl (Nat.le_of_ble_eq_true rfl) ((wrPy_8 ad G s hk10 _).trans (congrArg (mkC ad G) e13)) ?_
  refine j_aload_n (pc := 11) 0 (jd k_Room_deal 7 rfl) rfl ?_
  refine j_get (pc := 12) (fs := flRm ad s12) (v := .ref (ad 15)) fl_Room_20_7 9 (jd k_Room_deal 8 rfl) rfl rfl ?_
  refine j_iconst (pc := 15) (v := 1) (jd k_Room_deal 9 rfl) (by decide) ?_
  refine j_iload_n (pc := 16) 1 (jd k_Room_deal 10 rfl) rfl ?_
  obtain ⟨s15, h14, H⟩ := obnd H
  refine jc_V (pc := 17) (st := []) (c_Board_write ad G 1 p0 s12 _ h14) L0_Board_write w728 w729 w730 15 rfl rfl (jd k_Room_deal 11 rfl) rfl (Nat.le_of_ble_eq_true rfl) (by decide) (Nat.le_refl _) (Nat.le_refl _) rfl rfl ?_
  refine j_iconst (pc := 20) (v := 0) (jd k_Room_deal 12 rfl) (by decide) ?_
  refine j_istore_n (pc := 21) (lv' := [(0, .ref (ad 9)), (1, .int p0), (2, .ref (ad (26 + 15 * k10))), (3, .int 0)]) (jd k_Room_deal 13 rfl) rfl (Nat.le_of_ble_eq_true rfl) rfl ?_
  obtain ⟨⟨x30, s31⟩, h32, H⟩ := obnd H
  try dsimp only at H
  refine lp_Room_deal_22 p0 k10 hk10 jF 0 s15 _ h32 ?_
  refine j_pick (lv' := [(0, .ref (ad 9)), (1, .int p0), (2, .ref (ad (26 + 15 * k10)))]) [0, 1, 2] rfl ?_
  refine j_iconst (pc := 80) (v := 1) (jd k_Room_deal 47 rfl) (by decide) ?_
  refine j_istore_n (pc := 81) (lv' := [(0, .ref (ad 9)), (1, .int p0), (2, .ref (ad (26 + 15 * k10))), (3, .int 1)]) (jd k_Room_deal 48 rfl) rfl (Nat.le_of_ble_eq_true rfl) rfl ?_
  obtain ⟨⟨x63, s64⟩, h65, H⟩ := obnd H
  try dsimp only at H
  refine lp_Room_deal_82 p0 k10 hk10 jF 1 s31 _ h65 ?_
  refine j_pick (lv' := []) [] rfl ?_
  cases H
  subst hP9
  exact j_vret (pc := 173) (jd k_Room_deal 101 rfl) rfl ⟨rfl, rfl⟩

set_option maxRecDepth 20000 in
theorem lp_Room_dealAll_2 {ad : Nat → Nat} {G : jG} {P : jR → va_W → Prop} : ∀ (n : Nat) (x10 : Int32) (s11 : jU) (r : Int32 × jU), L_Room_dealAll_2 n x10 s11 = some r → J G m_Room_dealAll 4 0 0 P 45 [(0, .ref (ad 9)), (1, .int r.1)] [] (mkC ad G r.2) 0 0 → J G m_Room_dealAll 4 0 0 P 2 [(0, .ref (ad 9)), (1, .int x10)] [] (mkC ad G s11) 0 0 := by
  intro n
  induction n with
  | zero =>
    intro x10 s11 r H
    cases (show none = some r from H)
  | succ n ih =>
    intro x10 s11 r H kx
    have H : (
    if (s11 20 0 0) < x10 then
      some (x10, s11)
    else
      Option.bind (jidx (x10 - 1) 7) fun k13 =>
      Option.bind (f_Party_worksIn k13 1 s11) fun x16 =>
      Option.bind (α := jU) (
        if x16 = 0 then
          some s11
        else
          Option.bind (jidx (x10 - 1) 7) fun k18 =>
          Option.bind (f_Party_has k18 0 s11) fun x21 =>
          if ¬ x21 = 0 then
            some s11
          else
            Option.bind (f_Room_deal x10 s11) fun s24 =>
            some s24) fun s25 =>
      jlet (x10 + 1) fun x28 =>
      L_Room_dealAll_2 n x28 s25) = some r := H
    refine j_iload_n (pc := 2) 1 (jd k_Room_dealAll 2 rfl) rfl ?_
    refine j_aload_n (pc := 3) 0 (jd k_Room_dealAll 3 rfl) rfl ?_
    refine j_get (pc := 4) (fs := flRm ad s11) (v := .int (s11 20 0 0)) fl_Room_55_7 9 (jd k_Room_dealAll 4 rfl) rfl rfl ?_
    refine j_icmp_gt (pc := 7) (tgt := 45) (jd k_Room_dealAll 5 rfl) rfl (fun h12 => ?_) (fun h12 => ?_)
    · rw [if_pos h12] at H
      cases H
      exact kx
    · rw [if_neg h12] at H
      refine j_aload_n (pc := 10) 0 (jd k_Room_dealAll 6 rfl) rfl ?_
      refine j_iload_n (pc := 11) 1 (jd k_Room_dealAll 7 rfl) rfl ?_
      obtain ⟨k13, h14, H⟩ := obnd H
      have hk13 : k13 < 7 := jidx.lt h14
      refine jc_V (pc := 12) (st := []) (c_Room_party ad G x10 s11 k13 h14) L0_Room_party w401 w403 w1 9 rfl rfl (jd k_Room_dealAll 8 rfl) rfl (Nat.le_of_ble_eq_true rfl) (by decide) (Nat.le_refl _) (Nat.le_refl _) rfl rfl ?_
      refine j_iconst (pc := 15) (v := 1) (jd k_Room_dealAll 9 rfl) (by decide) ?_
      obtain ⟨x16, h15, H⟩ := obnd H
      refine jc_V (pc := 16) (st := []) (c_Party_worksIn ad G k13 hk13 1 s11 _ h15) L0_Party_worksIn w405 w406 w407 (26 + 15 * k13) (lkPy ad G s11 hk13) rfl (jd k_Room_dealAll 10 rfl) rfl (Nat.le_of_ble_eq_true rfl) (by decide) (Nat.le_refl _) (Nat.le_refl _) rfl rfl ?_
      obtain ⟨s25, h26, H⟩ := obnd H
      have K27 : J G m_Room_dealAll 4 0 0 P 39 [(0, .ref (ad 9)), (1, .int x10)] [] (mkC ad G s25) 0 0 := by
        obtain ⟨x28, e29, H⟩ := olet H
        refine j_iinc (pc := 39) (lv' := [(0, .ref (ad 9)), (1, .int x28)]) 1 (jd k_Room_dealAll 21 rfl) rfl e29 rfl (Nat.le_of_ble_eq_true rfl) rfl ?_
        refine j_goto (pc := 42) (tgt := 2) (jd k_Room_dealAll 22 rfl) rfl ?_
        exact ih x28 s25 _ H kx
      have H := h26
      refine j_if_eq (pc := 19) (tgt := 39) (jd k_Room_dealAll 11 rfl) rfl (fun h17 => ?_) (fun h17 => ?_)
      · rw [if_pos h17] at H
        cases H
        exact K27
      · rw [if_neg h17] at H
        refine j_aload_n (pc := 22) 0 (jd k_Room_dealAll 12 rfl) rfl ?_
        refine j_iload_n (pc := 23) 1 (jd k_Room_dealAll 13 rfl) rfl ?_
        obtain ⟨k18, h19, H⟩ := obnd H
        have hk18 : k18 < 7 := jidx.lt h19
        refine jc_V (pc := 24) (st := []) (c_Room_party ad G x10 s11 k18 h19) L0_Room_party w401 w403 w1 9 rfl rfl (jd k_Room_dealAll 14 rfl) rfl (Nat.le_of_ble_eq_true rfl) (by decide) (Nat.le_refl _) (Nat.le_refl _) rfl rfl ?_
        refine j_iconst (pc := 27) (v := 0) (jd k_Room_dealAll 15 rfl) (by decide) ?_
        obtain ⟨x21, h20, H⟩ := obnd H
        refine jc_V (pc := 28) (st := []) (c_Party_has ad G k18 hk18 0 s11 _ h20) L0_Party_has w720 w721 w722 (26 + 15 * k18) (lkPy ad G s11 hk18) rfl (jd k_Room_dealAll 16 rfl) rfl (Nat.le_of_ble_eq_true rfl) (by decide) (Nat.le_refl _) (Nat.le_refl _) rfl rfl ?_
        refine j_if_ne (pc := 31) (tgt := 39) (jd k_Room_dealAll 17 rfl) rfl (fun h22 => ?_) (fun h22 => ?_)
        · rw [if_pos h22] at H
          cases H
          exact K27
        · rw [if_neg (not_not_intro h22)] at H
          refine j_aload_n (pc := 34) 0 (jd k_Room_dealAll 18 rfl) rfl ?_
          refine j_iload_n (pc := 35) 1 (jd k_Room_dealAll 19 rfl) rfl ?_
          obtain ⟨s24, h23, H⟩ := obnd H
          refine jc_V (pc := 36) (st := []) (c_Room_deal ad G x10 s11 _ h23) L0_Room_deal w724 w726 w7 9 rfl rfl (jd k_Room_dealAll 20 rfl) rfl (Nat.le_of_ble_eq_true rfl) (by decide) (Nat.le_refl _) (Nat.le_refl _) rfl rfl ?_
          cases H
          exact K27

set_option maxRecDepth 20000 in
theorem c_Room_dealAll (ad : Nat → Nat) (G : jG) (s : jU) (r : jU) (H : f_Room_dealAll s = some r) : jCon G m_Room_dealAll y_Room_dealAll 4 0 0 [.ref (ad 9)] (mkC ad G s) (jEq none (mkC ad G r)) := by
  refine jCon.of (by decide +kernel) rfl rfl rfl (Nat.le_of_ble_eq_true rfl) rfl ?_
  have H : (
  Option.bind (L_Room_dealAll_2 jF 1 s) fun (x30, s31) =>
  some s31) = some r := H
  generalize hP9 : jEq none (mkC ad G r) = P
  refine j_iconst (pc := 0) (v := 1) (jd k_Room_dealAll 0 rfl) (by decide) ?_
  refine j_istore_n (pc := 1) (lv' := [(0, .ref (ad 9)), (1, .int 1)]) (jd k_Room_dealAll 1 rfl) rfl (Nat.le_of_ble_eq_true rfl) rfl ?_
  obtain ⟨⟨x30, s31⟩, h32, H⟩ := obnd H
  try dsimp only at H
  refine lp_Room_dealAll_2  jF 1 s _ h32 ?_
  refine j_pick (lv' := []) [] rfl ?_
  cases H
  subst hP9
  exact j_vret (pc := 45) (jd k_Room_dealAll 23 rfl) rfl ⟨rfl, rfl⟩

set_option maxRecDepth 20000 in
theorem lp_Group_polynomialInExponents_11 {ad : Nat → Nat} {G : jG} {P : jR → va_W → Prop} (k0 : Nat) (hk0 : k0 < 2) (N0 : Nat) (g0 : Nat → Int32) (p2 : Int32) (s : jU) (q0 : Nat) (a0 : Nat) (hq0 : (mkC ad G s)[q0]? = some (a0, .inl (G.1 0, N0, .inl g0))) : ∀ (n : Nat) (x12 : Int32) (x13 : Int32) (r : Int32 × Int32), L_Group_polynomialInExponents_11 k0 N0 g0 p2 n x12 x13 = some r → J G m_Group_polynomialInExponents 2 0 0 P 39 [(0, .ref (ad (11 + k0))), (1, .ref a0), (3, .int p2), (4, .int r.1), (5, .int r.2)] [] (mkC ad G s) 0 0 → J G m_Group_polynomialInExponents 2 0 0 P 11 [(0, .ref (ad (11 + k0))), (1, .ref a0), (3, .int p2), (4, .int x12), (5, .int x13)] [] (mkC ad G s) 0 0 := by
  intro n
  induction n with
  | zero =>
    intro x12 x13 r H
    cases (show none = some r from H)
  | succ n ih =>
    intro x12 x13 r H kx
    have H : (
    if x13 < 0 then
      some (x12, x13)
    else
      Option.bind (f_Group_power k0 x12 p2) fun x16 =>
      if jin x13 N0 then
      Option.bind (G_product k0 x16 (g0 x13.toNatClampNeg)) fun x19 =>
      jlet (x13 + (-1)) fun x20 =>
      L_Group_polynomialInExponents_11 k0 N0 g0 p2 n x19 x20
      else none) = some r := H
    refine j_iload (pc := 11) 4 (jd k_Group_polynomialInExponents 7 rfl) rfl ?_
    refine j_if_lt (pc := 13) (tgt := 39) (jd k_Group_polynomialInExponents 8 rfl) rfl (fun h14 => ?_) (fun h14 => ?_)
    · rw [if_pos h14] at H
      cases H
      exact kx
    · rw [if_neg h14] at H
      refine j_aload_n (pc := 16) 0 (jd k_Group_polynomialInExponents 9 rfl) rfl ?_
      refine j_aload_n (pc := 17) 0 (jd k_Group_polynomialInExponents 10 rfl) rfl ?_
      refine j_iload (pc := 18) 3 (jd k_Group_polynomialInExponents 11 rfl) rfl ?_
      refine j_iload_n (pc := 20) 2 (jd k_Group_polynomialInExponents 12 rfl) rfl ?_
      obtain ⟨x16, h15, H⟩ := obnd H
      refine vG_power (pc := 21) (st := [.ref (ad (11 + k0))]) k0 hk0 x12 p2 s _ h15 w742 (jd k_Group_polynomialInExponents 13 rfl) (Nat.le_of_ble_eq_true rfl) (by decide) (Nat.le_refl _) (Nat.le_refl _) ?_
      refine j_aload_n (pc := 24) 1 (jd k_Group_polynomialInExponents 14 rfl) rfl ?_
      refine j_iload (pc := 25) 4 (jd k_Group_polynomialInExponents 15 rfl) rfl ?_
      obtain ⟨h17, H⟩ := ochk H
      refine j_iald (pc := 27) (f := g0) q0 (jd k_Group_polynomialInExponents 16 rfl) hq0 (jin.vp h17) ?_
      obtain ⟨x19, h18, H⟩ := obnd H
      refine vG_product (pc := 28) (st := []) k0 hk0 x16 (g0 x13.toNatClampNeg) s _ h18 w748 (jd k_Group_polynomialInExponents 17 rfl) (Nat.le_of_ble_eq_true rfl) (by decide) (Nat.le_refl _) (Nat.le_refl _) ?_
      refine j_istore (pc := 31) (lv' := [(0, .ref (ad (11 + k0))), (1, .ref a0), (3, .int p2), (4, .int x19), (5, .int x13)]) (jd k_Group_polynomialInExponents 18 rfl) rfl (Nat.le_of_ble_eq_true rfl) rfl ?_
      obtain ⟨x20, e21, H⟩ := olet H
      refine j_iinc (pc := 33) (lv' := [(0, .ref (ad (11 + k0))), (1, .ref a0), (3, .int p2), (4, .int x19), (5, .int x20)]) 4 (jd k_Group_polynomialInExponents 19 rfl) rfl e21 rfl (Nat.le_of_ble_eq_true rfl) rfl ?_
      refine j_goto (pc := 36) (tgt := 11) (jd k_Group_polynomialInExponents 20 rfl) rfl ?_
      exact ih x19 x20 _ H kx

set_option maxRecDepth 20000 in
theorem c_Group_polynomialInExponents (ad : Nat → Nat) (G : jG) (s : jU) (k0 : Nat) (hk0 : k0 < 2) (N0 : Nat) (g0 : Nat → Int32) (q0 a0 : Nat) (hq0 : (mkC ad G s)[q0]? = some (a0, .inl (G.1 0, N0, .inl g0))) (p1 : Int32) (p2 : Int32) (r : Int32) (H : f_Group_polynomialInExponents k0 N0 g0 p1 p2 = some r) : jCon G m_Group_polynomialInExponents y_Group_polynomialInExponents 2 0 0 [.ref (ad (11 + k0)), .ref a0, .int p1, .int p2] (mkC ad G s) (jEq (some (.int r)) (mkC ad G s)) := by
  refine jCon.of (by decide +kernel) rfl rfl rfl (Nat.le_of_ble_eq_true rfl) rfl ?_
  have H : (
  jlet (gneu k0) fun x10 =>
  jlet (p1 - 1) fun x11 =>
  Option.bind (L_Group_polynomialInExponents_11 k0 N0 g0 p2 jF x10 x11) fun (x22, x23) =>
  some x22) = some r := H
  generalize hP9 : jEq (some (.int r)) (mkC ad G s) = P
  refine j_aload_n (pc := 0) 0 (jd k_Group_polynomialInExponents 0 rfl) rfl ?_
  refine g_neu (pc := 1) fl_Group_13_9 fl_Group_13_3 (g := k0) hk0 (jd k_Group_polynomialInExponents 1 rfl) ?_
  obtain ⟨x10, e26, H⟩ := olet H
  refine j_topi e26 ?_
  refine j_istore (pc := 4) (lv' := [(0, .ref (ad (11 + k0))), (1, .ref a0), (2, .int p1), (3, .int p2), (4, .int x10)]) (jd k_Group_polynomialInExponents 2 rfl) rfl (Nat.le_of_ble_eq_true rfl) rfl ?_
  refine j_iload_n (pc := 6) 2 (jd k_Group_polynomialInExponents 3 rfl) rfl ?_
  refine j_iconst (pc := 7) (v := 1) (jd k_Group_polynomialInExponents 4 rfl) (by decide) ?_
  refine j_isub (pc := 8) (jd k_Group_polynomialInExponents 5 rfl) ?_
  obtain ⟨x11, e25, H⟩ := olet H
  refine j_topi e25 ?_
  refine j_istore (pc := 9) (lv' := [(0, .ref (ad (11 + k0))), (1, .ref a0), (2, .int p1), (3, .int p2), (4, .int x10), (5, .int x11)]) (jd k_Group_polynomialInExponents 6 rfl) rfl (Nat.le_of_ble_eq_true rfl) rfl ?_
  obtain ⟨⟨x22, x23⟩, h24, H⟩ := obnd H
  try dsimp only at H
  refine j_pick (lv' := [(0, .ref (ad (11 + k0))), (1, .ref a0), (3, .int p2), (4, .int x10), (5, .int x11)]) [0, 1, 3, 4, 5] rfl ?_
  refine lp_Group_polynomialInExponents_11 k0 hk0 N0 g0 p2 s q0 a0 hq0 jF x10 x11 _ h24 ?_
  refine j_pick (lv' := [(4, .int x22)]) [3] rfl ?_
  refine j_iload (pc := 39) 0 (jd k_Group_polynomialInExponents 21 rfl) rfl ?_
  cases H
  subst hP9
  exact j_iret (pc := 41) (jd k_Group_polynomialInExponents 22 rfl) rfl rfl ⟨rfl, rfl⟩

set_option maxRecDepth 20000 in
theorem vG_polynomialInExponents {ad : Nat → Nat} {G : jG} {M : jM} {d mc ms : Nat} {P : jR → va_W → Prop} {pc : Nat} {lv : List (Nat × Value)} {st : List Value} {k n ix : Nat} {s : jU} (f : Nat) (hf : f < 2) (N0 : Nat) (g0 : Nat → Int32) (q0 a0 : Nat) (hq0 : (mkC ad G s)[q0]? = some (a0, .inl (G.1 0, N0, .inl g0))) (p1 : Int32) (p2 : Int32) (s9 : jU) (r : Int32) (H : f_Group_polynomialInExponents f N0 g0 p1 p2 = some r) (hk : Cond.methodLink M.1 ix ⟨"SharingRoom$Group", "polynomialInExponents", "([III)I"⟩ ∈ jWS) (hd : decode M.2.1 pc = .ok (.invokevirtual ix, 3)) (hst : (st.map fun v => v.category).sum ≤ 8) (hdd : 2 + 1 ≤ d) (hm : k ≤ mc) (hn2 : n ≤ ms) (kk : J G M d mc ms P (pc + 3) lv (.int r :: st) (mkC ad G s) k n) : J G M d mc ms P pc lv (.int p2 :: .int p1 :: .ref a0 :: .ref (ad (11 + f)) :: st) (mkC ad G s) k n := by
  obtain rfl | rfl : f = 0 ∨ f = 1 := by omega
  · exact jc_U (c_Group_polynomialInExponents ad G s 0 (by decide) N0 g0 q0 a0 hq0 p1 p2 r H) L0_Group_polynomialInExponents hk ⟨rfl, rfl, by decide, by decide⟩ w787 w789 w786 (Or.inr rfl) 11 rfl rfl hd rfl hst (Nat.le_trans (by decide) hdd) hm hn2 rfl rfl kk
  · exact jc_U (c_Group_polynomialInExponents ad G s 1 (by decide) N0 g0 q0 a0 hq0 p1 p2 r H) L0_Group_polynomialInExponents hk ⟨rfl, rfl, by decide, by decide⟩ w787 w788 w786 (Or.inr rfl) 12 rfl rfl hd rfl hst (Nat.le_trans (by decide) hdd) hm hn2 rfl rfl kk

set_option maxRecDepth 20000 in
theorem c_Room_fits (ad : Nat → Nat) (G : jG) (p0 : Int32) (p1 : Int32) (p2 : Int32) (p3 : Int32) (s : jU) (r : Int32) (H : f_Room_fits p0 p1 p2 p3 s = some r) : jCon G m_Room_fits y_Room_fits 3 0 0 [.ref (ad 9), .int p0, .int p1, .int p2, .int p3] (mkC ad G s) (jEq (some (.int r)) (mkC ad G s)) := by
  refine jCon.of (by decide +kernel) rfl rfl rfl (Nat.le_of_ble_eq_true rfl) rfl ?_
  have H : (
  Option.bind (jidx (p0 - 1) 7) fun k10 =>
  Option.bind (f_Group_polynomialInExponents (gnum (s 50 0 0)) 7 (s 3 k10) (s 21 0 0) p1) fun x13 =>
  Option.bind (f_Group_commit (gnum (s 50 0 0)) p2 p3) fun x15 =>
  Option.bind (α := Int32) (
    if ¬ x15 = x13 then
      some 0
    else
      some 1) fun x17 =>
  if jbo x17 then
  some x17
  else none) = some r := H
  generalize hP9 : jEq (some (.int r)) (mkC ad G s) = P
  refine j_aload_n (pc := 0) 0 (jd k_Room_fits 0 rfl) rfl ?_
  refine j_get (pc := 1) (fs := flRm ad s) (v := .ref (ad (11 + (gnum (s 50 0 0))))) fl_Room_34_7 9 (jd k_Room_fits 1 rfl) rfl rfl ?_
  refine j_aload_n (pc := 4) 0 (jd k_Room_fits 2 rfl) rfl ?_
  refine j_iload_n (pc := 5) 1 (jd k_Room_fits 3 rfl) rfl ?_
  obtain ⟨k10, h11, H⟩ := obnd H
  have hk10 : k10 < 7 := jidx.lt h11
  refine jc_V (pc := 6) (st := [.ref (ad (11 + (gnum (s 50 0 0))))]) (c_Room_party ad G p0 s k10 h11) L0_Room_party w401 w403 w1 9 rfl rfl (jd k_Room_fits 4 rfl) rfl (Nat.le_of_ble_eq_true rfl) (by decide) (Nat.le_refl _) (Nat.le_refl _) rfl rfl ?_
  refine j_get (pc := 9) (fs := flPy ad s k10) (v := .ref (ad (31 + 15 * k10))) fl_Room_138_4 (26 + 15 * k10) (jd k_Room_fits 5 rfl) (lkPy ad G s hk10) rfl ?_
  refine j_iconst (pc := 12) (v := 0) (jd k_Room_fits 6 rfl) (by decide) ?_
  refine j_aald (pc := 13) (t0 := 6) (v := ad (32 + 15 * k10 + 0)) (31 + 15 * k10) (jd k_Room_fits 7 rfl) (lkAA_5 ad G s hk10) rfl rfl (jidx.vp jidx0) (jidx.row jidx0 ad (jrow15 _ _)) ?_
  refine j_aload_n (pc := 14) 0 (jd k_Room_fits 8 rfl) rfl ?_
  refine j_get (pc := 15) (fs := flRm ad s) (v := .int (s 21 0 0)) fl_Room_59_7 9 (jd k_Room_fits 9 rfl) rfl rfl ?_
  refine j_iload_n (pc := 18) 2 (jd k_Room_fits 10 rfl) rfl ?_
  obtain ⟨x13, h12, H⟩ := obnd H
  refine vG_polynomialInExponents (pc := 19) (st := []) (gnum (s 50 0 0)) (gnum_lt _) 7 (s 3 k10) (32 + 15 * k10 + 0) (ad (32 + 15 * k10 + 0)) (lkR_5 ad G s hk10 (w := 0) jlt0) (s 21 0 0) p1 s _ h12 w785 (jd k_Room_fits 11 rfl) (Nat.le_of_ble_eq_true rfl) (by decide) (Nat.le_refl _) (Nat.le_refl _) ?_
  refine j_istore (pc := 22) (lv' := [(0, .ref (ad 9)), (1, .int p0), (2, .int p1), (3, .int p2), (4, .int p3), (5, .int x13)]) (jd k_Room_fits 12 rfl) rfl (Nat.le_of_ble_eq_true rfl) rfl ?_
  refine j_aload_n (pc := 24) 0 (jd k_Room_fits 13 rfl) rfl ?_
  refine j_get (pc := 25) (fs := flRm ad s) (v := .ref (ad (11 + (gnum (s 50 0 0))))) fl_Room_34_7 9 (jd k_Room_fits 14 rfl) rfl rfl ?_
  refine j_iload_n (pc := 28) 3 (jd k_Room_fits 15 rfl) rfl ?_
  refine j_iload (pc := 29) 4 (jd k_Room_fits 16 rfl) rfl ?_
  obtain ⟨x15, h14, H⟩ := obnd H
  refine vG_commit (pc := 31) (st := []) (gnum (s 50 0 0)) (gnum_lt _) p2 p3 s _ h14 w736 (jd k_Room_fits 17 rfl) (Nat.le_of_ble_eq_true rfl) (by decide) (Nat.le_refl _) (Nat.le_refl _) ?_
  refine j_iload (pc := 34) 5 (jd k_Room_fits 18 rfl) rfl ?_
  obtain ⟨x17, h18, H⟩ := obnd H
  have K19 : J G m_Room_fits 3 0 0 P 44 [] [.int x17] (mkC ad G s) 0 0 := by
    obtain ⟨h20, H⟩ := ochk H
    cases H
    subst hP9
    exact j_iret (pc := 44) (jd k_Room_fits 23 rfl) rfl (jbo.nar h20) ⟨rfl, rfl⟩
  have H := h18
  refine j_icmp_ne (pc := 36) (tgt := 43) (jd k_Room_fits 19 rfl) rfl (fun h16 => ?_) (fun h16 => ?_)
  · rw [if_pos h16] at H
    refine j_iconst (pc := 43) (v := 0) (jd k_Room_fits 22 rfl) (by decide) ?_
    cases H
    exact j_pick [] rfl K19
  · rw [if_neg (not_not_intro h16)] at H
    refine j_iconst (pc := 39) (v := 1) (jd k_Room_fits 20 rfl) (by decide) ?_
    refine j_goto (pc := 40) (tgt := 44) (jd k_Room_fits 21 rfl) rfl ?_
    cases H
    exact j_pick [] rfl K19

set_option maxRecDepth 20000 in
theorem lp_Room_complain_8 {ad : Nat → Nat} {G : jG} {P : jR → va_W → Prop} (p0 : Int32) (k10 : Nat) (hk10 : k10 < 7) : ∀ (n : Nat) (x12 : Int32) (s13 : jU) (r : Int32 × jU), L_Room_complain_8 p0 k10 n x12 s13 = some r → J G m_Room_complain 4 0 0 P 117 [(0, .ref (ad 9)), (1, .int p0), (2, .ref (ad (26 + 15 * k10))), (3, .int r.1)] [] (mkC ad G r.2) 0 0 → J G m_Room_complain 4 0 0 P 8 [(0, .ref (ad 9)), (1, .int p0), (2, .ref (ad (26 + 15 * k10))), (3, .int x12)] [] (mkC ad G s13) 0 0 := by
  intro n
  induction n with
  | zero =>
    intro x12 s13 r H
    cases (show none = some r from H)
  | succ n ih =>
    intro x12 s13 r H kx
    have H : (
    if (s13 20 0 0) < x12 then
      some (x12, s13)
    else
      Option.bind (jidx (x12 - 1) 7) fun k15 =>
      Option.bind (α := jU) (
        if ¬ (s13 12 k15 0) = 0 then
          if jin 2 7 then
          Option.bind (α := Int32) (
            if ¬ (s13 2 k10 (2 : Int32).toNatClampNeg) = x12 then
              some 0
            else
              some 1) fun x20 =>
          if ¬ x20 = 0 then
            Option.bind (jidx (x12 - 1) 7) fun k24 =>
            Option.bind (f_SR_bit p0) fun x27 =>
            jlet (ups s13 11 k24 (fun _ => (s13 11 k24 0) ||| x27)) fun s28 =>
            Option.bind (f_Board_write 2 p0 s28) fun s31 =>
            Option.bind (f_Board_writeByte x12 s31) fun s33 =>
            some s33
          else
            if jin x12 8 then
            if jin x12 8 then
            Option.bind (f_Room_fits x12 p0 (s13 5 k10 x12.toNatClampNeg) (s13 6 k10 x12.toNatClampNeg) s13) fun x37 =>
            if ¬ x37 = 0 then
              some s13
            else
              Option.bind (jidx (x12 - 1) 7) fun k39 =>
              Option.bind (f_SR_bit p0) fun x42 =>
              jlet (ups s13 11 k39 (fun _ => (s13 11 k39 0) ||| x42)) fun s43 =>
              Option.bind (f_Board_write 2 p0 s43) fun s46 =>
              Option.bind (f_Board_writeByte x12 s46) fun s48 =>
              some s48
            else none
            else none
          else none
        else
          some s13) fun s49 =>
      jlet (x12 + 1) fun x52 =>
      L_Room_complain_8 p0 k10 n x52 s49) = some r := H
    refine j_iload_n (pc := 8) 3 (jd k_Room_complain 6 rfl) rfl ?_
    refine j_aload_n (pc := 9) 0 (jd k_Room_complain 7 rfl) rfl ?_
    refine j_get (pc := 10) (fs := flRm ad s13) (v := .int (s13 20 0 0)) fl_Room_55_7 9 (jd k_Room_complain 8 rfl) rfl rfl ?_
    refine j_icmp_gt (pc := 13) (tgt := 117) (jd k_Room_complain 9 rfl) rfl (fun h14 => ?_) (fun h14 => ?_)
    · rw [if_pos h14] at H
      cases H
      exact kx
    · rw [if_neg h14] at H
      refine j_aload_n (pc := 16) 0 (jd k_Room_complain 10 rfl) rfl ?_
      refine j_iload_n (pc := 17) 3 (jd k_Room_complain 11 rfl) rfl ?_
      obtain ⟨k15, h16, H⟩ := obnd H
      have hk15 : k15 < 7 := jidx.lt h16
      refine jc_V (pc := 18) (st := []) (c_Room_party ad G x12 s13 k15 h16) L0_Room_party w401 w403 w1 9 rfl rfl (jd k_Room_complain 12 rfl) rfl (Nat.le_of_ble_eq_true rfl) (by decide) (Nat.le_refl _) (Nat.le_refl _) rfl rfl ?_
      refine j_get (pc := 21) (fs := flPy ad s13 k15) (v := .int (s13 12 k15 0)) fl_Room_172_4 (26 + 15 * k15) (jd k_Room_complain 13 rfl) (lkPy ad G s13 hk15) rfl ?_
      obtain ⟨s49, h50, H⟩ := obnd H
      have K51 : J G m_Room_complain 4 0 0 P 111 [(0, .ref (ad 9)), (1, .int p0), (2, .ref (ad (26 + 15 * k10))), (3, .int x12)] [] (mkC ad G s49) 0 0 := by
        obtain ⟨x52, e53, H⟩ := olet H
        refine j_iinc (pc := 111) (lv' := [(0, .ref (ad 9)), (1, .int p0), (2, .ref (ad (26 + 15 * k10))), (3, .int x52)]) 3 (jd k_Room_complain 63 rfl) rfl e53 rfl (Nat.le_of_ble_eq_true rfl) rfl ?_
        refine j_goto (pc := 114) (tgt := 8) (jd k_Room_complain 64 rfl) rfl ?_
        exact ih x52 s49 _ H kx
      have H := h50
      refine j_if_ne (pc := 24) (tgt := 30) (jd k_Room_complain 14 rfl) rfl (fun h17 => ?_) (fun h17 => ?_)
      · rw [if_pos h17] at H
        refine j_aload_n (pc := 30) 2 (jd k_Room_complain 16 rfl) rfl ?_
        refine j_get (pc := 31) (fs := flPy ad s13 k10) (v := .ref (ad (30 + 15 * k10))) fl_Room_116_4 (26 + 15 * k10) (jd k_Room_complain 17 rfl) (lkPy ad G s13 hk10) rfl ?_
        refine j_iconst (pc := 34) (v := 2) (jd k_Room_complain 18 rfl) (by decide) ?_
        obtain ⟨h18, H⟩ := ochk H
        refine j_iald (pc := 35) (f := s13 2 k10) (30 + 15 * k10) (jd k_Room_complain 19 rfl) (lkA_4 ad G s13 hk10) (jin.vp h18) ?_
        refine j_iload_n (pc := 36) 3 (jd k_Room_complain 20 rfl) rfl ?_
        obtain ⟨x20, h21, H⟩ := obnd H
        have K22 : J G m_Room_complain 4 0 0 P 45 [(0, .ref (ad 9)), (1, .int p0), (2, .ref (ad (26 + 15 * k10))), (3, .int x12)] [.int x20] (mkC ad G s13) 0 0 := by
          refine j_istore (pc := 45) (lv' := [(0, .ref (ad 9)), (1, .int p0), (2, .ref (ad (26 + 15 * k10))), (3, .int x12), (4, .int x20)]) (jd k_Room_complain 25 rfl) rfl (Nat.le_of_ble_eq_true rfl) rfl ?_
          refine j_iload (pc := 47) 4 (jd k_Room_complain 26 rfl) rfl ?_
          refine j_if_ne (pc := 49) (tgt := 77) (jd k_Room_complain 27 rfl) rfl (fun h23 => ?_) (fun h23 => ?_)
          · rw [if_pos h23] at H
            refine j_aload_n (pc := 77) 0 (jd k_Room_complain 45 rfl) rfl ?_
            refine j_iload_n (pc := 78) 3 (jd k_Room_complain 46 rfl) rfl ?_
            obtain ⟨k24, h25, H⟩ := obnd H
            have hk24 : k24 < 7 := jidx.lt h25
            refine jc_V (pc := 79) (st := []) (c_Room_party ad G x12 s13 k24 h25) L0_Room_party w401 w403 w1 9 rfl rfl (jd k_Room_complain 47 rfl) rfl (Nat.le_of_ble_eq_true rfl) (by decide) (Nat.le_refl _) (Nat.le_refl _) rfl rfl ?_
            refine j_dup (pc := 82) (jd k_Room_complain 48 rfl) rfl ?_
            refine j_get (pc := 83) (fs := flPy ad s13 k24) (v := .int (s13 11 k24 0)) fl_Room_133_4 (26 + 15 * k24) (jd k_Room_complain 49 rfl) (lkPy ad G s13 hk24) rfl ?_
            refine j_iload_n (pc := 86) 1 (jd k_Room_complain 50 rfl) rfl ?_
            obtain ⟨x27, h26, H⟩ := obnd H
            refine jc_SN (pc := 87) (st := [.int (s13 11 k24 0), .ref (ad (26 + 15 * k24))]) (c_SR_bit G _ p0 _ h26) L0_SR_bit wt413 w414 (jd k_Room_complain 51 rfl) rfl (Nat.le_of_ble_eq_true rfl) (by decide) (Nat.le_refl _) (Nat.le_refl _) rfl rfl ?_
            refine j_ior (pc := 90) (jd k_Room_complain 52 rfl) ?_
            obtain ⟨s28, e29, H⟩ := olet H
            refine j_put (pc := 91) (fs := flPy ad s13 k24) (fp_Room_133_4 _) (26 + 15 * k24) (jd k_Room_complain 53 rfl) (lkPy ad G s13 hk24) rfl rfl (Nat.le_of_ble_eq_true rfl) ((wrPy_7 ad G s13 hk24 _).trans (congrArg (mkC ad G) e29)) ?_
            refine j_aload_n (pc := 94) 0 (jd k_Room_complain 54 rfl) rfl ?_
            refine j_get (pc := 95) (fs := flRm ad s28) (v := .ref (ad 15)) fl_Room_20_7 9 (jd k_Room_complain 55 rfl) rfl rfl ?_
            refine j_iconst (pc := 98) (v := 2) (jd k_Room_complain 56 rfl) (by decide) ?_
            refine j_iload_n (pc := 99) 1 (jd k_Room_complain 57 rfl) rfl ?_
            obtain ⟨s31, h30, H⟩ := obnd H
            refine jc_V (pc := 100) (st := []) (c_Board_write ad G 2 p0 s28 _ h30) L0_Board_write w728 w729 w730 15 rfl rfl (jd k_Room_complain 58 rfl) rfl (Nat.le_of_ble_eq_true rfl) (by decide) (Nat.le_refl _) (Nat.le_refl _) rfl rfl ?_
            refine j_aload_n (pc := 103) 0 (jd k_Room_complain 59 rfl) rfl ?_
            refine j_get (pc := 104) (fs := flRm ad s31) (v := .ref (ad 15)) fl_Room_20_7 9 (jd k_Room_complain 60 rfl) rfl rfl ?_
            refine j_iload_n (pc := 107) 3 (jd k_Room_complain 61 rfl) rfl ?_
            obtain ⟨s33, h32, H⟩ := obnd H
            refine jc_V (pc := 108) (st := []) (c_Board_writeByte ad G x12 s31 _ h32) L0_Board_writeByte w791 w733 w734 15 rfl rfl (jd k_Room_complain 62 rfl) rfl (Nat.le_of_ble_eq_true rfl) (by decide) (Nat.le_refl _) (Nat.le_refl _) rfl rfl ?_
            cases H
            exact j_pick [0, 1, 2, 3] rfl K51
          · rw [if_neg (not_not_intro h23)] at H
            refine j_aload_n (pc := 52) 0 (jd k_Room_complain 28 rfl) rfl ?_
            refine j_iload_n (pc := 53) 3 (jd k_Room_complain 29 rfl) rfl ?_
            refine j_iload_n (pc := 54) 1 (jd k_Room_complain 30 rfl) rfl ?_
            refine j_aload_n (pc := 55) 2 (jd k_Room_complain 31 rfl) rfl ?_
            refine j_get (pc := 56) (fs := flPy ad s13 k10) (v := .ref (ad (34 + 15 * k10))) fl_Room_136_4 (26 + 15 * k10) (jd k_Room_complain 32 rfl) (lkPy ad G s13 hk10) rfl ?_
            refine j_iconst (pc := 59) (v := 0) (jd k_Room_complain 33 rfl) (by decide) ?_
            refine j_aald (pc := 60) (t0 := 6) (v := ad (35 + 15 * k10 + 0)) (34 + 15 * k10) (jd k_Room_complain 34 rfl) (lkAA_8 ad G s13 hk10) rfl rfl (jidx.vp jidx0) (jidx.row jidx0 ad (jrow15 _ _)) ?_
            refine j_iload_n (pc := 61) 3 (jd k_Room_complain 35 rfl) rfl ?_
            obtain ⟨h34, H⟩ := ochk H
            refine j_iald (pc := 62) (f := s13 5 k10) (35 + 15 * k10 + 0) (jd k_Room_complain 36 rfl) (lkR_8 ad G s13 hk10 (w := 0) jlt0) (jin.vp h34) ?_
            refine j_aload_n (pc := 63) 2 (jd k_Room_complain 37 rfl) rfl ?_
            refine j_get (pc := 64) (fs := flPy ad s13 k10) (v := .ref (ad (34 + 15 * k10))) fl_Room_136_4 (26 + 15 * k10) (jd k_Room_complain 38 rfl) (lkPy ad G s13 hk10) rfl ?_
            refine j_iconst (pc := 67) (v := 1) (jd k_Room_complain 39 rfl) (by decide) ?_
            refine j_aald (pc := 68) (t0 := 6) (v := ad (35 + 15 * k10 + 1)) (34 + 15 * k10) (jd k_Room_complain 40 rfl) (lkAA_8 ad G s13 hk10) rfl rfl (jidx.vp jidx1) (jidx.row jidx1 ad (jrow15 _ _)) ?_
            refine j_iload_n (pc := 69) 3 (jd k_Room_complain 41 rfl) rfl ?_
            obtain ⟨h35, H⟩ := ochk H
            refine j_iald (pc := 70) (f := s13 6 k10) (35 + 15 * k10 + 1) (jd k_Room_complain 42 rfl) (lkR_8 ad G s13 hk10 (w := 1) jlt1) (jin.vp h35) ?_
            obtain ⟨x37, h36, H⟩ := obnd H
            refine jc_V (pc := 71) (st := []) (c_Room_fits ad G x12 p0 (s13 5 k10 x12.toNatClampNeg) (s13 6 k10 x12.toNatClampNeg) s13 _ h36) L0_Room_fits w781 w783 w11 9 rfl rfl (jd k_Room_complain 43 rfl) rfl (Nat.le_of_ble_eq_true rfl) (by decide) (Nat.le_refl _) (Nat.le_refl _) rfl rfl ?_
            refine j_if_ne (pc := 74) (tgt := 111) (jd k_Room_complain 44 rfl) rfl (fun h38 => ?_) (fun h38 => ?_)
            · rw [if_pos h38] at H
              cases H
              exact j_pick [0, 1, 2, 3] rfl K51
            · rw [if_neg (not_not_intro h38)] at H
              refine j_aload_n (pc := 77) 0 (jd k_Room_complain 45 rfl) rfl ?_
              refine j_iload_n (pc := 78) 3 (jd k_Room_complain 46 rfl) rfl ?_
              obtain ⟨k39, h40, H⟩ := obnd H
              have hk39 : k39 < 7 := jidx.lt h40
              refine jc_V (pc := 79) (st := []) (c_Room_party ad G x12 s13 k39 h40) L0_Room_party w401 w403 w1 9 rfl rfl (jd k_Room_complain 47 rfl) rfl (Nat.le_of_ble_eq_true rfl) (by decide) (Nat.le_refl _) (Nat.le_refl _) rfl rfl ?_
              refine j_dup (pc := 82) (jd k_Room_complain 48 rfl) rfl ?_
              refine j_get (pc := 83) (fs := flPy ad s13 k39) (v := .int (s13 11 k39 0)) fl_Room_133_4 (26 + 15 * k39) (jd k_Room_complain 49 rfl) (lkPy ad G s13 hk39) rfl ?_
              refine j_iload_n (pc := 86) 1 (jd k_Room_complain 50 rfl) rfl ?_
              obtain ⟨x42, h41, H⟩ := obnd H
              refine jc_SN (pc := 87) (st := [.int (s13 11 k39 0), .ref (ad (26 + 15 * k39))]) (c_SR_bit G _ p0 _ h41) L0_SR_bit wt413 w414 (jd k_Room_complain 51 rfl) rfl (Nat.le_of_ble_eq_true rfl) (by decide) (Nat.le_refl _) (Nat.le_refl _) rfl rfl ?_
              refine j_ior (pc := 90) (jd k_Room_complain 52 rfl) ?_
              obtain ⟨s43, e44, H⟩ := olet H
              refine j_put (pc := 91) (fs := flPy ad s13 k39) (fp_Room_133_4 _) (26 + 15 * k39) (jd k_Room_complain 53 rfl) (lkPy ad G s13 hk39) rfl rfl (Nat.le_of_ble_eq_true rfl) ((wrPy_7 ad G s13 hk39 _).trans (congrArg (mkC ad G) e44)) ?_
              refine j_aload_n (pc := 94) 0 (jd k_Room_complain 54 rfl) rfl ?_
              refine j_get (pc := 95) (fs := flRm ad s43) (v := .ref (ad 15)) fl_Room_20_7 9 (jd k_Room_complain 55 rfl) rfl rfl ?_
              refine j_iconst (pc := 98) (v := 2) (jd k_Room_complain 56 rfl) (by decide) ?_
              refine j_iload_n (pc := 99) 1 (jd k_Room_complain 57 rfl) rfl ?_
              obtain ⟨s46, h45, H⟩ := obnd H
              refine jc_V (pc := 100) (st := []) (c_Board_write ad G 2 p0 s43 _ h45) L0_Board_write w728 w729 w730 15 rfl rfl (jd k_Room_complain 58 rfl) rfl (Nat.le_of_ble_eq_true rfl) (by decide) (Nat.le_refl _) (Nat.le_refl _) rfl rfl ?_
              refine j_aload_n (pc := 103) 0 (jd k_Room_complain 59 rfl) rfl ?_
              refine j_get (pc := 104) (fs := flRm ad s46) (v := .ref (ad 15)) fl_Room_20_7 9 (jd k_Room_complain 60 rfl) rfl rfl ?_
              refine j_iload_n (pc := 107) 3 (jd k_Room_complain 61 rfl) rfl ?_
              obtain ⟨s48, h47, H⟩ := obnd H
              refine jc_V (pc := 108) (st := []) (c_Board_writeByte ad G x12 s46 _ h47) L0_Board_writeByte w791 w733 w734 15 rfl rfl (jd k_Room_complain 62 rfl) rfl (Nat.le_of_ble_eq_true rfl) (by decide) (Nat.le_refl _) (Nat.le_refl _) rfl rfl ?_
              cases H
              exact j_pick [0, 1, 2, 3] rfl K51
        have H := h21
        refine j_icmp_ne (pc := 37) (tgt := 44) (jd k_Room_complain 21 rfl) rfl (fun h19 => ?_) (fun h19 => ?_)
        · rw [if_pos h19] at H
          refine j_iconst (pc := 44) (v := 0) (jd k_Room_complain 24 rfl) (by decide) ?_
          cases H
          exact K22
        · rw [if_neg (not_not_intro h19)] at H
          refine j_iconst (pc := 40) (v := 1) (jd k_Room_complain 22 rfl) (by decide) ?_
          refine j_goto (pc := 41) (tgt := 45) (jd k_Room_complain 23 rfl) rfl ?_
          cases H
          exact K22
      · rw [if_neg (not_not_intro h17)] at H
        refine j_goto (pc := 27) (tgt := 111) (jd k_Room_complain 15 rfl) rfl ?_
        cases H
        exact K51

set_option maxRecDepth 20000 in
theorem c_Room_complain (ad : Nat → Nat) (G : jG) (p0 : Int32) (s : jU) (r : jU) (H : f_Room_complain p0 s = some r) : jCon G m_Room_complain y_Room_complain 4 0 0 [.ref (ad 9), .int p0] (mkC ad G s) (jEq none (mkC ad G r)) := by
  refine jCon.of (by decide +kernel) rfl rfl rfl (Nat.le_of_ble_eq_true rfl) rfl ?_
  have H : (
  Option.bind (jidx (p0 - 1) 7) fun k10 =>
  Option.bind (L_Room_complain_8 p0 k10 jF 1 s) fun (x54, s55) =>
  some s55) = some r := H
  generalize hP9 : jEq none (mkC ad G r) = P
  refine j_aload_n (pc := 0) 0 (jd k_Room_complain 0 rfl) rfl ?_
  refine j_iload_n (pc := 1) 1 (jd k_Room_complain 1 rfl) rfl ?_
  obtain ⟨k10, h11, H⟩ := obnd H
  have hk10 : k10 < 7 := jidx.lt h11
  refine jc_V (pc := 2) (st := []) (c_Room_party ad G p0 s k10 h11) L0_Room_party w401 w403 w1 9 rfl rfl (jd k_Room_complain 2 rfl) rfl (Nat.le_of_ble_eq_true rfl) (by decide) (Nat.le_refl _) (Nat.le_refl _) rfl rfl ?_
  refine j_astore_n (pc := 5) (lv' := [(0, .ref (ad 9)), (1, .int p0), (2, .ref (ad (26 + 15 * k10)))]) (jd k_Room_complain 3 rfl) rfl (Nat.le_of_ble_eq_true rfl) rfl ?_
  refine j_iconst (pc := 6) (v := 1) (jd k_Room_complain 4 rfl) (by decide) ?_
  refine j_istore_n (pc := 7) (lv' := [(0, .ref (ad 9)), (1, .int p0), (2, .ref (ad (26 + 15 * k10))), (3, .int 1)]) (jd k_Room_complain 5 rfl) rfl (Nat.le_of_ble_eq_true rfl) rfl ?_
  obtain ⟨⟨x54, s55⟩, h56, H⟩ := obnd H
  try dsimp only at H
  refine lp_Room_complain_8 p0 k10 hk10 jF 1 s _ h56 ?_
  refine j_pick (lv' := []) [] rfl ?_
  cases H
  subst hP9
  exact j_vret (pc := 117) (jd k_Room_complain 65 rfl) rfl ⟨rfl, rfl⟩

set_option maxRecDepth 20000 in
theorem lp_Room_complainAll_2 {ad : Nat → Nat} {G : jG} {P : jR → va_W → Prop} : ∀ (n : Nat) (x10 : Int32) (s11 : jU) (r : Int32 × jU), L_Room_complainAll_2 n x10 s11 = some r → J G m_Room_complainAll 5 0 0 P 33 [(0, .ref (ad 9)), (1, .int r.1)] [] (mkC ad G r.2) 0 0 → J G m_Room_complainAll 5 0 0 P 2 [(0, .ref (ad 9)), (1, .int x10)] [] (mkC ad G s11) 0 0 := by
  intro n
  induction n with
  | zero =>
    intro x10 s11 r H
    cases (show none = some r from H)
  | succ n ih =>
    intro x10 s11 r H kx
    have H : (
    if (s11 20 0 0) < x10 then
      some (x10, s11)
    else
      Option.bind (jidx (x10 - 1) 7) fun k13 =>
      Option.bind (f_Party_worksIn k13 2 s11) fun x16 =>
      Option.bind (α := jU) (
        if x16 = 0 then
          some s11
        else
          Option.bind (f_Room_complain x10 s11) fun s19 =>
          some s19) fun s20 =>
      jlet (x10 + 1) fun x23 =>
      L_Room_complainAll_2 n x23 s20) = some r := H
    refine j_iload_n (pc := 2) 1 (jd k_Room_complainAll 2 rfl) rfl ?_
    refine j_aload_n (pc := 3) 0 (jd k_Room_complainAll 3 rfl) rfl ?_
    refine j_get (pc := 4) (fs := flRm ad s11) (v := .int (s11 20 0 0)) fl_Room_55_7 9 (jd k_Room_complainAll 4 rfl) rfl rfl ?_
    refine j_icmp_gt (pc := 7) (tgt := 33) (jd k_Room_complainAll 5 rfl) rfl (fun h12 => ?_) (fun h12 => ?_)
    · rw [if_pos h12] at H
      cases H
      exact kx
    · rw [if_neg h12] at H
      refine j_aload_n (pc := 10) 0 (jd k_Room_complainAll 6 rfl) rfl ?_
      refine j_iload_n (pc := 11) 1 (jd k_Room_complainAll 7 rfl) rfl ?_
      obtain ⟨k13, h14, H⟩ := obnd H
      have hk13 : k13 < 7 := jidx.lt h14
      refine jc_V (pc := 12) (st := []) (c_Room_party ad G x10 s11 k13 h14) L0_Room_party w401 w403 w1 9 rfl rfl (jd k_Room_complainAll 8 rfl) rfl (Nat.le_of_ble_eq_true rfl) (by decide) (Nat.le_refl _) (Nat.le_refl _) rfl rfl ?_
      refine j_iconst (pc := 15) (v := 2) (jd k_Room_complainAll 9 rfl) (by decide) ?_
      obtain ⟨x16, h15, H⟩ := obnd H
      refine jc_V (pc := 16) (st := []) (c_Party_worksIn ad G k13 hk13 2 s11 _ h15) L0_Party_worksIn w405 w406 w407 (26 + 15 * k13) (lkPy ad G s11 hk13) rfl (jd k_Room_complainAll 10 rfl) rfl (Nat.le_of_ble_eq_true rfl) (by decide) (Nat.le_refl _) (Nat.le_refl _) rfl rfl ?_
      obtain ⟨s20, h21, H⟩ := obnd H
      have K22 : J G m_Room_complainAll 5 0 0 P 27 [(0, .ref (ad 9)), (1, .int x10)] [] (mkC ad G s20) 0 0 := by
        obtain ⟨x23, e24, H⟩ := olet H
        refine j_iinc (pc := 27) (lv' := [(0, .ref (ad 9)), (1, .int x23)]) 1 (jd k_Room_complainAll 15 rfl) rfl e24 rfl (Nat.le_of_ble_eq_true rfl) rfl ?_
        refine j_goto (pc := 30) (tgt := 2) (jd k_Room_complainAll 16 rfl) rfl ?_
        exact ih x23 s20 _ H kx
      have H := h21
      refine j_if_eq (pc := 19) (tgt := 27) (jd k_Room_complainAll 11 rfl) rfl (fun h17 => ?_) (fun h17 => ?_)
      · rw [if_pos h17] at H
        cases H
        exact K22
      · rw [if_neg h17] at H
        refine j_aload_n (pc := 22) 0 (jd k_Room_complainAll 12 rfl) rfl ?_
        refine j_iload_n (pc := 23) 1 (jd k_Room_complainAll 13 rfl) rfl ?_
        obtain ⟨s19, h18, H⟩ := obnd H
        refine jc_V (pc := 24) (st := []) (c_Room_complain ad G x10 s11 _ h18) L0_Room_complain w777 w779 w10 9 rfl rfl (jd k_Room_complainAll 14 rfl) rfl (Nat.le_of_ble_eq_true rfl) (by decide) (Nat.le_refl _) (Nat.le_refl _) rfl rfl ?_
        cases H
        exact K22

set_option maxRecDepth 20000 in
theorem c_Room_complainAll (ad : Nat → Nat) (G : jG) (s : jU) (r : jU) (H : f_Room_complainAll s = some r) : jCon G m_Room_complainAll y_Room_complainAll 5 0 0 [.ref (ad 9)] (mkC ad G s) (jEq none (mkC ad G r)) := by
  refine jCon.of (by decide +kernel) rfl rfl rfl (Nat.le_of_ble_eq_true rfl) rfl ?_
  have H : (
  Option.bind (L_Room_complainAll_2 jF 1 s) fun (x25, s26) =>
  some s26) = some r := H
  generalize hP9 : jEq none (mkC ad G r) = P
  refine j_iconst (pc := 0) (v := 1) (jd k_Room_complainAll 0 rfl) (by decide) ?_
  refine j_istore_n (pc := 1) (lv' := [(0, .ref (ad 9)), (1, .int 1)]) (jd k_Room_complainAll 1 rfl) rfl (Nat.le_of_ble_eq_true rfl) rfl ?_
  obtain ⟨⟨x25, s26⟩, h27, H⟩ := obnd H
  try dsimp only at H
  refine lp_Room_complainAll_2  jF 1 s _ h27 ?_
  refine j_pick (lv' := []) [] rfl ?_
  cases H
  subst hP9
  exact j_vret (pc := 33) (jd k_Room_complainAll 17 rfl) rfl ⟨rfl, rfl⟩

set_option maxRecDepth 20000 in
theorem c_Party_isComplainedOf (ad : Nat → Nat) (G : jG) (k0 : Nat) (hk0 : k0 < 7) (p0 : Int32) (s : jU) (r : Int32) (H : f_Party_isComplainedOf k0 p0 s = some r) : jCon G m_Party_isComplainedOf y_Party_isComplainedOf 1 0 0 [.ref (ad (26 + 15 * k0)), .int p0] (mkC ad G s) (jEq (some (.int r)) (mkC ad G s)) := by
  refine jCon.of (by decide +kernel) rfl rfl rfl (Nat.le_of_ble_eq_true rfl) rfl ?_
  have H : (
  Option.bind (f_SR_bit p0) fun x11 =>
  Option.bind (α := Int32) (
    if ((s 11 k0 0) &&& x11) = 0 then
      some 0
    else
      some 1) fun x13 =>
  if jbo x13 then
  some x13
  else none) = some r := H
  generalize hP9 : jEq (some (.int r)) (mkC ad G s) = P
  refine j_aload_n (pc := 0) 0 (jd k_Party_isComplainedOf 0 rfl) rfl ?_
  refine j_get (pc := 1) (fs := flPy ad s k0) (v := .int (s 11 k0 0)) fl_Party_41_4 (26 + 15 * k0) (jd k_Party_isComplainedOf 1 rfl) (lkPy ad G s hk0) rfl ?_
  refine j_iload_n (pc := 4) 1 (jd k_Party_isComplainedOf 2 rfl) rfl ?_
  obtain ⟨x11, h10, H⟩ := obnd H
  refine jc_SN (pc := 5) (st := [.int (s 11 k0 0)]) (c_SR_bit G _ p0 _ h10) L0_SR_bit wt804 w414 (jd k_Party_isComplainedOf 3 rfl) rfl (Nat.le_of_ble_eq_true rfl) (by decide) (Nat.le_refl _) (Nat.le_refl _) rfl rfl ?_
  refine j_iand (pc := 8) (jd k_Party_isComplainedOf 4 rfl) ?_
  obtain ⟨x13, h14, H⟩ := obnd H
  have K15 : J G m_Party_isComplainedOf 1 0 0 P 17 [] [.int x13] (mkC ad G s) 0 0 := by
    obtain ⟨h16, H⟩ := ochk H
    cases H
    subst hP9
    exact j_iret (pc := 17) (jd k_Party_isComplainedOf 9 rfl) rfl (jbo.nar h16) ⟨rfl, rfl⟩
  have H := h14
  refine j_if_eq (pc := 9) (tgt := 16) (jd k_Party_isComplainedOf 5 rfl) rfl (fun h12 => ?_) (fun h12 => ?_)
  · rw [if_pos h12] at H
    refine j_iconst (pc := 16) (v := 0) (jd k_Party_isComplainedOf 8 rfl) (by decide) ?_
    cases H
    exact j_pick [] rfl K15
  · rw [if_neg h12] at H
    refine j_iconst (pc := 12) (v := 1) (jd k_Party_isComplainedOf 6 rfl) (by decide) ?_
    refine j_goto (pc := 13) (tgt := 17) (jd k_Party_isComplainedOf 7 rfl) rfl ?_
    cases H
    exact j_pick [] rfl K15

set_option maxRecDepth 20000 in
theorem c_Room_writeNumbers (ad : Nat → Nat) (G : jG) (p0 : Int32) (p1 : Int32) (p2 : Int32) (s : jU) (r : jU) (H : f_Room_writeNumbers p0 p1 p2 s = some r) : jCon G m_Room_writeNumbers y_Room_writeNumbers 2 0 0 [.ref (ad 9), .int p0, .int p1, .int p2] (mkC ad G s) (jEq none (mkC ad G r)) := by
  refine jCon.of (by decide +kernel) rfl rfl rfl (Nat.le_of_ble_eq_true rfl) rfl ?_
  have H : (
  Option.bind (f_Board_writeByte p0 s) fun s11 =>
  Option.bind (f_Board_writePair p1 s11) fun s13 =>
  Option.bind (f_Board_writePair p2 s13) fun s15 =>
  some s15) = some r := H
  generalize hP9 : jEq none (mkC ad G r) = P
  refine j_aload_n (pc := 0) 0 (jd k_Room_writeNumbers 0 rfl) rfl ?_
  refine j_get (pc := 1) (fs := flRm ad s) (v := .ref (ad 15)) fl_Room_20_7 9 (jd k_Room_writeNumbers 1 rfl) rfl rfl ?_
  refine j_iload_n (pc := 4) 1 (jd k_Room_writeNumbers 2 rfl) rfl ?_
  obtain ⟨s11, h10, H⟩ := obnd H
  refine jc_V (pc := 5) (st := []) (c_Board_writeByte ad G p0 s _ h10) L0_Board_writeByte w791 w733 w734 15 rfl rfl (jd k_Room_writeNumbers 3 rfl) rfl (Nat.le_of_ble_eq_true rfl) (by decide) (Nat.le_refl _) (Nat.le_refl _) rfl rfl ?_
  refine j_aload_n (pc := 8) 0 (jd k_Room_writeNumbers 4 rfl) rfl ?_
  refine j_get (pc := 9) (fs := flRm ad s11) (v := .ref (ad 15)) fl_Room_20_7 9 (jd k_Room_writeNumbers 5 rfl) rfl rfl ?_
  refine j_iload_n (pc := 12) 2 (jd k_Room_writeNumbers 6 rfl) rfl ?_
  obtain ⟨s13, h12, H⟩ := obnd H
  refine jc_V (pc := 13) (st := []) (c_Board_writePair ad G p1 s11 _ h12) L0_Board_writePair w757 w758 w759 15 rfl rfl (jd k_Room_writeNumbers 7 rfl) rfl (Nat.le_of_ble_eq_true rfl) (by decide) (Nat.le_refl _) (Nat.le_refl _) rfl rfl ?_
  refine j_aload_n (pc := 16) 0 (jd k_Room_writeNumbers 8 rfl) rfl ?_
  refine j_get (pc := 17) (fs := flRm ad s13) (v := .ref (ad 15)) fl_Room_20_7 9 (jd k_Room_writeNumbers 9 rfl) rfl rfl ?_
  refine j_iload_n (pc := 20) 3 (jd k_Room_writeNumbers 10 rfl) rfl ?_
  obtain ⟨s15, h14, H⟩ := obnd H
  refine jc_V (pc := 21) (st := []) (c_Board_writePair ad G p2 s13 _ h14) L0_Board_writePair w757 w758 w759 15 rfl rfl (jd k_Room_writeNumbers 11 rfl) rfl (Nat.le_of_ble_eq_true rfl) (by decide) (Nat.le_refl _) (Nat.le_refl _) rfl rfl ?_
  cases H
  subst hP9
  exact j_vret (pc := 24) (jd k_Room_writeNumbers 12 rfl) rfl ⟨rfl, rfl⟩

set_option maxRecDepth 20000 in
theorem lp_Room_answer_8 {ad : Nat → Nat} {G : jG} {P : jR → va_W → Prop} (p0 : Int32) (k10 : Nat) (hk10 : k10 < 7) : ∀ (n : Nat) (x12 : Int32) (s13 : jU) (r : Int32 × jU), L_Room_answer_8 p0 k10 n x12 s13 = some r → J G m_Room_answer 3 0 0 P 116 [(0, .ref (ad 9)), (1, .int p0), (2, .ref (ad (26 + 15 * k10))), (3, .int r.1)] [] (mkC ad G r.2) 0 0 → J G m_Room_answer 3 0 0 P 8 [(0, .ref (ad 9)), (1, .int p0), (2, .ref (ad (26 + 15 * k10))), (3, .int x12)] [] (mkC ad G s13) 0 0 := by
  intro n
  induction n with
  | zero =>
    intro x12 s13 r H
    cases (show none = some r from H)
  | succ n ih =>
    intro x12 s13 r H kx
    have H : (
    if (s13 20 0 0) < x12 then
      some (x12, s13)
    else
      Option.bind (f_Party_isComplainedOf k10 x12 s13) fun x16 =>
      Option.bind (α := jU) (
        if ¬ x16 = 0 then
          Option.bind (f_Room_dealtNumber p0 x12 0 s13) fun x19 =>
          Option.bind (f_Room_dealtNumber p0 x12 1 s13) fun x21 =>
          Option.bind (f_Party_has k10 4 s13) fun x23 =>
          Option.bind (α := Int32) (
            if x23 = 0 then
              some x19
            else
              Option.bind (F_plus (fnum (s13 53 0 0)) x19 1) fun x26 =>
              some x26) fun x27 =>
          if jin x12 8 then
          jlet (ups s13 7 k10 (upd (s13 7 k10) x12.toNatClampNeg x27)) fun s30 =>
          if jin x12 8 then
          jlet (ups s30 8 k10 (upd (s30 8 k10) x12.toNatClampNeg x21)) fun s33 =>
          Option.bind (f_Board_write 3 p0 s33) fun s37 =>
          if jin x12 8 then
          Option.bind (f_Room_writeNumbers x12 (s37 7 k10 x12.toNatClampNeg) x21 s37) fun s40 =>
          some s40
          else none
          else none
          else none
        else
          some s13) fun s41 =>
      jlet (x12 + 1) fun x44 =>
      L_Room_answer_8 p0 k10 n x44 s41) = some r := H
    refine j_iload_n (pc := 8) 3 (jd k_Room_answer 6 rfl) rfl ?_
    refine j_aload_n (pc := 9) 0 (jd k_Room_answer 7 rfl) rfl ?_
    refine j_get (pc := 10) (fs := flRm ad s13) (v := .int (s13 20 0 0)) fl_Room_55_7 9 (jd k_Room_answer 8 rfl) rfl rfl ?_
    refine j_icmp_gt (pc := 13) (tgt := 116) (jd k_Room_answer 9 rfl) rfl (fun h14 => ?_) (fun h14 => ?_)
    · rw [if_pos h14] at H
      cases H
      exact kx
    · rw [if_neg h14] at H
      refine j_aload_n (pc := 16) 2 (jd k_Room_answer 10 rfl) rfl ?_
      refine j_iload_n (pc := 17) 3 (jd k_Room_answer 11 rfl) rfl ?_
      obtain ⟨x16, h15, H⟩ := obnd H
      refine jc_V (pc := 18) (st := []) (c_Party_isComplainedOf ad G k10 hk10 x12 s13 _ h15) L0_Party_isComplainedOf w800 w801 w802 (26 + 15 * k10) (lkPy ad G s13 hk10) rfl (jd k_Room_answer 12 rfl) rfl (Nat.le_of_ble_eq_true rfl) (by decide) (Nat.le_refl _) (Nat.le_refl _) rfl rfl ?_
      obtain ⟨s41, h42, H⟩ := obnd H
      have K43 : J G m_Room_answer 3 0 0 P 110 [(0, .ref (ad 9)), (1, .int p0), (2, .ref (ad (26 + 15 * k10))), (3, .int x12)] [] (mkC ad G s41) 0 0 := by
        obtain ⟨x44, e45, H⟩ := olet H
        refine j_iinc (pc := 110) (lv' := [(0, .ref (ad 9)), (1, .int p0), (2, .ref (ad (26 + 15 * k10))), (3, .int x44)]) 3 (jd k_Room_answer 66 rfl) rfl e45 rfl (Nat.le_of_ble_eq_true rfl) rfl ?_
        refine j_goto (pc := 113) (tgt := 8) (jd k_Room_answer 67 rfl) rfl ?_
        exact ih x44 s41 _ H kx
      have H := h42
      refine j_if_ne (pc := 21) (tgt := 27) (jd k_Room_answer 13 rfl) rfl (fun h17 => ?_) (fun h17 => ?_)
      · rw [if_pos h17] at H
        refine j_aload_n (pc := 27) 0 (jd k_Room_answer 15 rfl) rfl ?_
        refine j_iload_n (pc := 28) 1 (jd k_Room_answer 16 rfl) rfl ?_
        refine j_iload_n (pc := 29) 3 (jd k_Room_answer 17 rfl) rfl ?_
        refine j_iconst (pc := 30) (v := 0) (jd k_Room_answer 18 rfl) (by decide) ?_
        obtain ⟨x19, h18, H⟩ := obnd H
        refine jc_V (pc := 31) (st := []) (c_Room_dealtNumber ad G p0 x12 0 s13 _ h18) L0_Room_dealtNumber w761 w763 w8 9 rfl rfl (jd k_Room_answer 19 rfl) rfl (Nat.le_of_ble_eq_true rfl) (by decide) (Nat.le_refl _) (Nat.le_refl _) rfl rfl ?_
        refine j_istore (pc := 34) (lv' := [(0, .ref (ad 9)), (1, .int p0), (2, .ref (ad (26 + 15 * k10))), (3, .int x12), (4, .int x19)]) (jd k_Room_answer 20 rfl) rfl (Nat.le_of_ble_eq_true rfl) rfl ?_
        refine j_aload_n (pc := 36) 0 (jd k_Room_answer 21 rfl) rfl ?_
        refine j_iload_n (pc := 37) 1 (jd k_Room_answer 22 rfl) rfl ?_
        refine j_iload_n (pc := 38) 3 (jd k_Room_answer 23 rfl) rfl ?_
        refine j_iconst (pc := 39) (v := 1) (jd k_Room_answer 24 rfl) (by decide) ?_
        obtain ⟨x21, h20, H⟩ := obnd H
        refine jc_V (pc := 40) (st := []) (c_Room_dealtNumber ad G p0 x12 1 s13 _ h20) L0_Room_dealtNumber w761 w763 w8 9 rfl rfl (jd k_Room_answer 25 rfl) rfl (Nat.le_of_ble_eq_true rfl) (by decide) (Nat.le_refl _) (Nat.le_refl _) rfl rfl ?_
        refine j_istore (pc := 43) (lv' := [(0, .ref (ad 9)), (1, .int p0), (2, .ref (ad (26 + 15 * k10))), (3, .int x12), (4, .int x19), (5, .int x21)]) (jd k_Room_answer 26 rfl) rfl (Nat.le_of_ble_eq_true rfl) rfl ?_
        refine j_aload_n (pc := 45) 2 (jd k_Room_answer 27 rfl) rfl ?_
        refine j_get (pc := 46) (fs := flPy ad s13 k10) (v := .ref (ad (37 + 15 * k10))) fl_Room_209_4 (26 + 15 * k10) (jd k_Room_answer 28 rfl) (lkPy ad G s13 hk10) rfl ?_
        refine j_iconst (pc := 49) (v := 0) (jd k_Room_answer 29 rfl) (by decide) ?_
        refine j_aald (pc := 50) (t0 := 6) (v := ad (38 + 15 * k10 + 0)) (37 + 15 * k10) (jd k_Room_answer 30 rfl) (lkAA_11 ad G s13 hk10) rfl rfl (jidx.vp jidx0) (jidx.row jidx0 ad (jrow15 _ _)) ?_
        refine j_iload_n (pc := 51) 3 (jd k_Room_answer 31 rfl) rfl ?_
        refine j_aload_n (pc := 52) 2 (jd k_Room_answer 32 rfl) rfl ?_
        refine j_iconst (pc := 53) (v := 4) (jd k_Room_answer 33 rfl) (by decide) ?_
        obtain ⟨x23, h22, H⟩ := obnd H
        refine jc_V (pc := 54) (st := [.int x12, .ref (ad (38 + 15 * k10 + 0))]) (c_Party_has ad G k10 hk10 4 s13 _ h22) L0_Party_has w720 w721 w722 (26 + 15 * k10) (lkPy ad G s13 hk10) rfl (jd k_Room_answer 34 rfl) rfl (Nat.le_of_ble_eq_true rfl) (by decide) (Nat.le_refl _) (Nat.le_refl _) rfl rfl ?_
        obtain ⟨x27, h28, H⟩ := obnd H
        have K29 : J G m_Room_answer 3 0 0 P 75 [(0, .ref (ad 9)), (1, .int p0), (2, .ref (ad (26 + 15 * k10))), (3, .int x12), (5, .int x21)] [.int x27, .int x12, .ref (ad (38 + 15 * k10 + 0))] (mkC ad G s13) 0 0 := by
          obtain ⟨h32, H⟩ := ochk H
          obtain ⟨s30, e31, H⟩ := olet H
          refine j_iast (pc := 75) (f := s13 7 k10) (38 + 15 * k10 + 0) (jd k_Room_answer 43 rfl) (lkR_11 ad G s13 hk10 (w := 0) jlt0) (jin.vp h32) ((wrR_11 ad G s13 hk10 (w := 0) jlt0 _).trans (congrArg (mkC ad G) e31)) ?_
          refine j_aload_n (pc := 76) 2 (jd k_Room_answer 44 rfl) rfl ?_
          refine j_get (pc := 77) (fs := flPy ad s30 k10) (v := .ref (ad (37 + 15 * k10))) fl_Room_209_4 (26 + 15 * k10) (jd k_Room_answer 45 rfl) (lkPy ad G s30 hk10) rfl ?_
          refine j_iconst (pc := 80) (v := 1) (jd k_Room_answer 46 rfl) (by decide) ?_
          refine j_aald (pc := 81) (t0 := 6) (v := ad (38 + 15 * k10 + 1)) (37 + 15 * k10) (jd k_Room_answer 47 rfl) (lkAA_11 ad G s30 hk10) rfl rfl (jidx.vp jidx1) (jidx.row jidx1 ad (jrow15 _ _)) ?_
          refine j_iload_n (pc := 82) 3 (jd k_Room_answer 48 rfl) rfl ?_
          refine j_iload (pc := 83) 4 (jd k_Room_answer 49 rfl) rfl ?_
          obtain ⟨h35, H⟩ := ochk H
          obtain ⟨s33, e34, H⟩ := olet H
          refine j_iast (pc := 85) (f := s30 8 k10) (38 + 15 * k10 + 1) (jd k_Room_answer 50 rfl) (lkR_11 ad G s30 hk10 (w := 1) jlt1) (jin.vp h35) ((wrR_11 ad G s30 hk10 (w := 1) jlt1 _).trans (congrArg (mkC ad G) e34)) ?_
          refine j_aload_n (pc := 86) 0 (jd k_Room_answer 51 rfl) rfl ?_
          refine j_get (pc := 87) (fs := flRm ad s33) (v := .ref (ad 15)) fl_Room_20_7 9 (jd k_Room_answer 52 rfl) rfl rfl ?_
          refine j_iconst (pc := 90) (v := 3) (jd k_Room_answer 53 rfl) (by decide) ?_
          refine j_iload_n (pc := 91) 1 (jd k_Room_answer 54 rfl) rfl ?_
          obtain ⟨s37, h36, H⟩ := obnd H
          refine jc_V (pc := 92) (st := []) (c_Board_write ad G 3 p0 s33 _ h36) L0_Board_write w728 w729 w730 15 rfl rfl (jd k_Room_answer 55 rfl) rfl (Nat.le_of_ble_eq_true rfl) (by decide) (Nat.le_refl _) (Nat.le_refl _) rfl rfl ?_
          refine j_aload_n (pc := 95) 0 (jd k_Room_answer 56 rfl) rfl ?_
          refine j_iload_n (pc := 96) 3 (jd k_Room_answer 57 rfl) rfl ?_
          refine j_aload_n (pc := 97) 2 (jd k_Room_answer 58 rfl) rfl ?_
          refine j_get (pc := 98) (fs := flPy ad s37 k10) (v := .ref (ad (37 + 15 * k10))) fl_Room_209_4 (26 + 15 * k10) (jd k_Room_answer 59 rfl) (lkPy ad G s37 hk10) rfl ?_
          refine j_iconst (pc := 101) (v := 0) (jd k_Room_answer 60 rfl) (by decide) ?_
          refine j_aald (pc := 102) (t0 := 6) (v := ad (38 + 15 * k10 + 0)) (37 + 15 * k10) (jd k_Room_answer 61 rfl) (lkAA_11 ad G s37 hk10) rfl rfl (jidx.vp jidx0) (jidx.row jidx0 ad (jrow15 _ _)) ?_
          refine j_iload_n (pc := 103) 3 (jd k_Room_answer 62 rfl) rfl ?_
          obtain ⟨h38, H⟩ := ochk H
          refine j_iald (pc := 104) (f := s37 7 k10) (38 + 15 * k10 + 0) (jd k_Room_answer 63 rfl) (lkR_11 ad G s37 hk10 (w := 0) jlt0) (jin.vp h38) ?_
          refine j_iload (pc := 105) 4 (jd k_Room_answer 64 rfl) rfl ?_
          obtain ⟨s40, h39, H⟩ := obnd H
          refine jc_V (pc := 107) (st := []) (c_Room_writeNumbers ad G x12 (s37 7 k10 x12.toNatClampNeg) x21 s37 _ h39) L0_Room_writeNumbers w805 w807 w14 9 rfl rfl (jd k_Room_answer 65 rfl) rfl (Nat.le_of_ble_eq_true rfl) (by decide) (Nat.le_refl _) (Nat.le_refl _) rfl rfl ?_
          cases H
          exact j_pick [0, 1, 2, 3] rfl K43
        have H := h28
        refine j_if_eq (pc := 57) (tgt := 73) (jd k_Room_answer 35 rfl) rfl (fun h24 => ?_) (fun h24 => ?_)
        · rw [if_pos h24] at H
          refine j_iload (pc := 73) 4 (jd k_Room_answer 42 rfl) rfl ?_
          cases H
          exact j_pick [0, 1, 2, 3, 5] rfl K29
        · rw [if_neg h24] at H
          refine j_aload_n (pc := 60) 0 (jd k_Room_answer 36 rfl) rfl ?_
          refine j_get (pc := 61) (fs := flRm ad s13) (v := .ref (ad (2 + (fnum (s13 53 0 0))))) fl_Room_42_7 9 (jd k_Room_answer 37 rfl) rfl rfl ?_
          refine j_iload (pc := 64) 4 (jd k_Room_answer 38 rfl) rfl ?_
          refine j_iconst (pc := 66) (v := 1) (jd k_Room_answer 39 rfl) (by decide) ?_
          obtain ⟨x26, h25, H⟩ := obnd H
          refine vF_plus (pc := 67) (st := [.int x12, .ref (ad (38 + 15 * k10 + 0))]) (fnum (s13 53 0 0)) (fnum_lt _) x19 1 s13 _ h25 w772 (jd k_Room_answer 40 rfl) (Nat.le_of_ble_eq_true rfl) (by decide) (Nat.le_refl _) (Nat.le_refl _) ?_
          refine j_goto (pc := 70) (tgt := 75) (jd k_Room_answer 41 rfl) rfl ?_
          cases H
          exact j_pick [0, 1, 2, 3, 5] rfl K29
      · rw [if_neg (not_not_intro h17)] at H
        refine j_goto (pc := 24) (tgt := 110) (jd k_Room_answer 14 rfl) rfl ?_
        cases H
        exact K43

set_option maxRecDepth 20000 in
theorem c_Room_answer (ad : Nat → Nat) (G : jG) (p0 : Int32) (s : jU) (r : jU) (H : f_Room_answer p0 s = some r) : jCon G m_Room_answer y_Room_answer 3 0 0 [.ref (ad 9), .int p0] (mkC ad G s) (jEq none (mkC ad G r)) := by
  refine jCon.of (by decide +kernel) rfl rfl rfl (Nat.le_of_ble_eq_true rfl) rfl ?_
  have H : (
  Option.bind (jidx (p0 - 1) 7) fun k10 =>
  Option.bind (L_Room_answer_8 p0 k10 jF 1 s) fun (x46, s47) =>
  some s47) = some r := H
  generalize hP9 : jEq none (mkC ad G r) = P
  refine j_aload_n (pc := 0) 0 (jd k_Room_answer 0 rfl) rfl ?_
  refine j_iload_n (pc := 1) 1 (jd k_Room_answer 1 rfl) rfl ?_
  obtain ⟨k10, h11, H⟩ := obnd H
  have hk10 : k10 < 7 := jidx.lt h11
  refine jc_V (pc := 2) (st := []) (c_Room_party ad G p0 s k10 h11) L0_Room_party w401 w403 w1 9 rfl rfl (jd k_Room_answer 2 rfl) rfl (Nat.le_of_ble_eq_true rfl) (by decide) (Nat.le_refl _) (Nat.le_refl _) rfl rfl ?_
  refine j_astore_n (pc := 5) (lv' := [(0, .ref (ad 9)), (1, .int p0), (2, .ref (ad (26 + 15 * k10)))]) (jd k_Room_answer 3 rfl) rfl (Nat.le_of_ble_eq_true rfl) rfl ?_
  refine j_iconst (pc := 6) (v := 1) (jd k_Room_answer 4 rfl) (by decide) ?_
  refine j_istore_n (pc := 7) (lv' := [(0, .ref (ad 9)), (1, .int p0), (2, .ref (ad (26 + 15 * k10))), (3, .int 1)]) (jd k_Room_answer 5 rfl) rfl (Nat.le_of_ble_eq_true rfl) rfl ?_
  obtain ⟨⟨x46, s47⟩, h48, H⟩ := obnd H
  try dsimp only at H
  refine lp_Room_answer_8 p0 k10 hk10 jF 1 s _ h48 ?_
  refine j_pick (lv' := []) [] rfl ?_
  cases H
  subst hP9
  exact j_vret (pc := 116) (jd k_Room_answer 68 rfl) rfl ⟨rfl, rfl⟩

set_option maxRecDepth 20000 in
theorem lp_Room_answerAll_2 {ad : Nat → Nat} {G : jG} {P : jR → va_W → Prop} : ∀ (n : Nat) (x10 : Int32) (s11 : jU) (r : Int32 × jU), L_Room_answerAll_2 n x10 s11 = some r → J G m_Room_answerAll 4 0 0 P 45 [(0, .ref (ad 9)), (1, .int r.1)] [] (mkC ad G r.2) 0 0 → J G m_Room_answerAll 4 0 0 P 2 [(0, .ref (ad 9)), (1, .int x10)] [] (mkC ad G s11) 0 0 := by
  intro n
  induction n with
  | zero =>
    intro x10 s11 r H
    cases (show none = some r from H)
  | succ n ih =>
    intro x10 s11 r H kx
    have H : (
    if (s11 20 0 0) < x10 then
      some (x10, s11)
    else
      Option.bind (jidx (x10 - 1) 7) fun k13 =>
      Option.bind (f_Party_worksIn k13 3 s11) fun x16 =>
      Option.bind (α := jU) (
        if x16 = 0 then
          some s11
        else
          Option.bind (jidx (x10 - 1) 7) fun k18 =>
          Option.bind (f_Party_has k18 3 s11) fun x21 =>
          if ¬ x21 = 0 then
            some s11
          else
            Option.bind (f_Room_answer x10 s11) fun s24 =>
            some s24) fun s25 =>
      jlet (x10 + 1) fun x28 =>
      L_Room_answerAll_2 n x28 s25) = some r := H
    refine j_iload_n (pc := 2) 1 (jd k_Room_answerAll 2 rfl) rfl ?_
    refine j_aload_n (pc := 3) 0 (jd k_Room_answerAll 3 rfl) rfl ?_
    refine j_get (pc := 4) (fs := flRm ad s11) (v := .int (s11 20 0 0)) fl_Room_55_7 9 (jd k_Room_answerAll 4 rfl) rfl rfl ?_
    refine j_icmp_gt (pc := 7) (tgt := 45) (jd k_Room_answerAll 5 rfl) rfl (fun h12 => ?_) (fun h12 => ?_)
    · rw [if_pos h12] at H
      cases H
      exact kx
    · rw [if_neg h12] at H
      refine j_aload_n (pc := 10) 0 (jd k_Room_answerAll 6 rfl) rfl ?_
      refine j_iload_n (pc := 11) 1 (jd k_Room_answerAll 7 rfl) rfl ?_
      obtain ⟨k13, h14, H⟩ := obnd H
      have hk13 : k13 < 7 := jidx.lt h14
      refine jc_V (pc := 12) (st := []) (c_Room_party ad G x10 s11 k13 h14) L0_Room_party w401 w403 w1 9 rfl rfl (jd k_Room_answerAll 8 rfl) rfl (Nat.le_of_ble_eq_true rfl) (by decide) (Nat.le_refl _) (Nat.le_refl _) rfl rfl ?_
      refine j_iconst (pc := 15) (v := 3) (jd k_Room_answerAll 9 rfl) (by decide) ?_
      obtain ⟨x16, h15, H⟩ := obnd H
      refine jc_V (pc := 16) (st := []) (c_Party_worksIn ad G k13 hk13 3 s11 _ h15) L0_Party_worksIn w405 w406 w407 (26 + 15 * k13) (lkPy ad G s11 hk13) rfl (jd k_Room_answerAll 10 rfl) rfl (Nat.le_of_ble_eq_true rfl) (by decide) (Nat.le_refl _) (Nat.le_refl _) rfl rfl ?_
      obtain ⟨s25, h26, H⟩ := obnd H
      have K27 : J G m_Room_answerAll 4 0 0 P 39 [(0, .ref (ad 9)), (1, .int x10)] [] (mkC ad G s25) 0 0 := by
        obtain ⟨x28, e29, H⟩ := olet H
        refine j_iinc (pc := 39) (lv' := [(0, .ref (ad 9)), (1, .int x28)]) 1 (jd k_Room_answerAll 21 rfl) rfl e29 rfl (Nat.le_of_ble_eq_true rfl) rfl ?_
        refine j_goto (pc := 42) (tgt := 2) (jd k_Room_answerAll 22 rfl) rfl ?_
        exact ih x28 s25 _ H kx
      have H := h26
      refine j_if_eq (pc := 19) (tgt := 39) (jd k_Room_answerAll 11 rfl) rfl (fun h17 => ?_) (fun h17 => ?_)
      · rw [if_pos h17] at H
        cases H
        exact K27
      · rw [if_neg h17] at H
        refine j_aload_n (pc := 22) 0 (jd k_Room_answerAll 12 rfl) rfl ?_
        refine j_iload_n (pc := 23) 1 (jd k_Room_answerAll 13 rfl) rfl ?_
        obtain ⟨k18, h19, H⟩ := obnd H
        have hk18 : k18 < 7 := jidx.lt h19
        refine jc_V (pc := 24) (st := []) (c_Room_party ad G x10 s11 k18 h19) L0_Room_party w401 w403 w1 9 rfl rfl (jd k_Room_answerAll 14 rfl) rfl (Nat.le_of_ble_eq_true rfl) (by decide) (Nat.le_refl _) (Nat.le_refl _) rfl rfl ?_
        refine j_iconst (pc := 27) (v := 3) (jd k_Room_answerAll 15 rfl) (by decide) ?_
        obtain ⟨x21, h20, H⟩ := obnd H
        refine jc_V (pc := 28) (st := []) (c_Party_has ad G k18 hk18 3 s11 _ h20) L0_Party_has w720 w721 w722 (26 + 15 * k18) (lkPy ad G s11 hk18) rfl (jd k_Room_answerAll 16 rfl) rfl (Nat.le_of_ble_eq_true rfl) (by decide) (Nat.le_refl _) (Nat.le_refl _) rfl rfl ?_
        refine j_if_ne (pc := 31) (tgt := 39) (jd k_Room_answerAll 17 rfl) rfl (fun h22 => ?_) (fun h22 => ?_)
        · rw [if_pos h22] at H
          cases H
          exact K27
        · rw [if_neg (not_not_intro h22)] at H
          refine j_aload_n (pc := 34) 0 (jd k_Room_answerAll 18 rfl) rfl ?_
          refine j_iload_n (pc := 35) 1 (jd k_Room_answerAll 19 rfl) rfl ?_
          obtain ⟨s24, h23, H⟩ := obnd H
          refine jc_V (pc := 36) (st := []) (c_Room_answer ad G x10 s11 _ h23) L0_Room_answer w796 w798 w13 9 rfl rfl (jd k_Room_answerAll 20 rfl) rfl (Nat.le_of_ble_eq_true rfl) (by decide) (Nat.le_refl _) (Nat.le_refl _) rfl rfl ?_
          cases H
          exact K27

set_option maxRecDepth 20000 in
theorem c_Room_answerAll (ad : Nat → Nat) (G : jG) (s : jU) (r : jU) (H : f_Room_answerAll s = some r) : jCon G m_Room_answerAll y_Room_answerAll 4 0 0 [.ref (ad 9)] (mkC ad G s) (jEq none (mkC ad G r)) := by
  refine jCon.of (by decide +kernel) rfl rfl rfl (Nat.le_of_ble_eq_true rfl) rfl ?_
  have H : (
  Option.bind (L_Room_answerAll_2 jF 1 s) fun (x30, s31) =>
  some s31) = some r := H
  generalize hP9 : jEq none (mkC ad G r) = P
  refine j_iconst (pc := 0) (v := 1) (jd k_Room_answerAll 0 rfl) (by decide) ?_
  refine j_istore_n (pc := 1) (lv' := [(0, .ref (ad 9)), (1, .int 1)]) (jd k_Room_answerAll 1 rfl) rfl (Nat.le_of_ble_eq_true rfl) rfl ?_
  obtain ⟨⟨x30, s31⟩, h32, H⟩ := obnd H
  try dsimp only at H
  refine lp_Room_answerAll_2  jF 1 s _ h32 ?_
  refine j_pick (lv' := []) [] rfl ?_
  cases H
  subst hP9
  exact j_vret (pc := 45) (jd k_Room_answerAll 23 rfl) rfl ⟨rfl, rfl⟩

set_option maxRecDepth 20000 in
theorem c_Integer_bitCount (G : jG) (ws : va_W) (p0 : Int32) (r : Int32) (H : f_Integer_bitCount p0 = some r) : jCon G m_Integer_bitCount y_Integer_bitCount 0 0 0 [.int p0] ws (jEq (some (.int r)) ws) := by
  refine jCon.of (by decide +kernel) rfl rfl rfl (Nat.le_of_ble_eq_true rfl) rfl ?_
  have H : (
  jlet (p0 - ((jushr p0 1) &&& 1431655765)) fun x10 =>
  jlet ((x10 &&& 858993459) + ((jushr x10 2) &&& 858993459)) fun x11 =>
  jlet ((x11 + (jushr x11 4)) &&& 252645135) fun x12 =>
  jlet (x12 + (jushr x12 8)) fun x13 =>
  jlet (x13 + (jushr x13 16)) fun x14 =>
  some (x14 &&& 63)) = some r := H
  generalize hP9 : jEq (some (.int r)) ws = P
  refine j_iload_n (pc := 0) 0 (jd k_Integer_bitCount 0 rfl) rfl ?_
  refine j_iload_n (pc := 1) 0 (jd k_Integer_bitCount 1 rfl) rfl ?_
  refine j_iconst (pc := 2) (v := 1) (jd k_Integer_bitCount 2 rfl) (by decide) ?_
  refine j_iushr (pc := 3) (jd k_Integer_bitCount 3 rfl) ?_
  refine j_ldcw (pc := 4) (v := 1431655765) (jd k_Integer_bitCount 4 rfl) w820 ?_
  refine j_iand (pc := 7) (jd k_Integer_bitCount 5 rfl) ?_
  refine j_isub (pc := 8) (jd k_Integer_bitCount 6 rfl) ?_
  obtain ⟨x10, e19, H⟩ := olet H
  refine j_topi e19 ?_
  refine j_istore_n (pc := 9) (lv' := [(0, .int x10)]) (jd k_Integer_bitCount 7 rfl) rfl (Nat.le_of_ble_eq_true rfl) rfl ?_
  refine j_iload_n (pc := 10) 0 (jd k_Integer_bitCount 8 rfl) rfl ?_
  refine j_ldcw (pc := 11) (v := 858993459) (jd k_Integer_bitCount 9 rfl) w821 ?_
  refine j_iand (pc := 14) (jd k_Integer_bitCount 10 rfl) ?_
  refine j_iload_n (pc := 15) 0 (jd k_Integer_bitCount 11 rfl) rfl ?_
  refine j_iconst (pc := 16) (v := 2) (jd k_Integer_bitCount 12 rfl) (by decide) ?_
  refine j_iushr (pc := 17) (jd k_Integer_bitCount 13 rfl) ?_
  refine j_ldcw (pc := 18) (v := 858993459) (jd k_Integer_bitCount 14 rfl) w821 ?_
  refine j_iand (pc := 21) (jd k_Integer_bitCount 15 rfl) ?_
  refine j_iadd (pc := 22) (jd k_Integer_bitCount 16 rfl) ?_
  obtain ⟨x11, e18, H⟩ := olet H
  refine j_topi e18 ?_
  refine j_istore_n (pc := 23) (lv' := [(0, .int x11)]) (jd k_Integer_bitCount 17 rfl) rfl (Nat.le_of_ble_eq_true rfl) rfl ?_
  refine j_iload_n (pc := 24) 0 (jd k_Integer_bitCount 18 rfl) rfl ?_
  refine j_iload_n (pc := 25) 0 (jd k_Integer_bitCount 19 rfl) rfl ?_
  refine j_iconst (pc := 26) (v := 4) (jd k_Integer_bitCount 20 rfl) (by decide) ?_
  refine j_iushr (pc := 27) (jd k_Integer_bitCount 21 rfl) ?_
  refine j_iadd (pc := 28) (jd k_Integer_bitCount 22 rfl) ?_
  refine j_ldcw (pc := 29) (v := 252645135) (jd k_Integer_bitCount 23 rfl) w822 ?_
  refine j_iand (pc := 32) (jd k_Integer_bitCount 24 rfl) ?_
  obtain ⟨x12, e17, H⟩ := olet H
  refine j_topi e17 ?_
  refine j_istore_n (pc := 33) (lv' := [(0, .int x12)]) (jd k_Integer_bitCount 25 rfl) rfl (Nat.le_of_ble_eq_true rfl) rfl ?_
  refine j_iload_n (pc := 34) 0 (jd k_Integer_bitCount 26 rfl) rfl ?_
  refine j_iload_n (pc := 35) 0 (jd k_Integer_bitCount 27 rfl) rfl ?_
  refine j_bipush (pc := 36) (v := 8) (jd k_Integer_bitCount 28 rfl) (by decide) ?_
  refine j_iushr (pc := 38) (jd k_Integer_bitCount 29 rfl) ?_
  refine j_iadd (pc := 39) (jd k_Integer_bitCount 30 rfl) ?_
  obtain ⟨x13, e16, H⟩ := olet H
  refine j_topi e16 ?_
  refine j_istore_n (pc := 40) (lv' := [(0, .int x13)]) (jd k_Integer_bitCount 31 rfl) rfl (Nat.le_of_ble_eq_true rfl) rfl ?_
  refine j_iload_n (pc := 41) 0 (jd k_Integer_bitCount 32 rfl) rfl ?_
  refine j_iload_n (pc := 42) 0 (jd k_Integer_bitCount 33 rfl) rfl ?_
  refine j_bipush (pc := 43) (v := 16) (jd k_Integer_bitCount 34 rfl) (by decide) ?_
  refine j_iushr (pc := 45) (jd k_Integer_bitCount 35 rfl) ?_
  refine j_iadd (pc := 46) (jd k_Integer_bitCount 36 rfl) ?_
  obtain ⟨x14, e15, H⟩ := olet H
  refine j_topi e15 ?_
  refine j_istore_n (pc := 47) (lv' := [(0, .int x14)]) (jd k_Integer_bitCount 37 rfl) rfl (Nat.le_of_ble_eq_true rfl) rfl ?_
  refine j_iload_n (pc := 48) 0 (jd k_Integer_bitCount 38 rfl) rfl ?_
  refine j_bipush (pc := 49) (v := 63) (jd k_Integer_bitCount 39 rfl) (by decide) ?_
  refine j_iand (pc := 51) (jd k_Integer_bitCount 40 rfl) ?_
  cases H
  subst hP9
  exact j_iret (pc := 52) (jd k_Integer_bitCount 41 rfl) rfl rfl ⟨rfl, rfl⟩

set_option maxRecDepth 20000 in
theorem c_Party_hasAnswered (ad : Nat → Nat) (G : jG) (k0 : Nat) (hk0 : k0 < 7) (p0 : Int32) (s : jU) (r : Int32) (H : f_Party_hasAnswered k0 p0 s = some r) : jCon G m_Party_hasAnswered y_Party_hasAnswered 0 0 0 [.ref (ad (26 + 15 * k0)), .int p0] (mkC ad G s) (jEq (some (.int r)) (mkC ad G s)) := by
  refine jCon.of (by decide +kernel) rfl rfl rfl (Nat.le_of_ble_eq_true rfl) rfl ?_
  have H : (
  if jin p0 8 then
  Option.bind (α := Int32) (
    if (s 7 k0 p0.toNatClampNeg) = (-1) then
      some 0
    else
      some 1) fun x12 =>
  if jbo x12 then
  some x12
  else none
  else none) = some r := H
  generalize hP9 : jEq (some (.int r)) (mkC ad G s) = P
  refine j_aload_n (pc := 0) 0 (jd k_Party_hasAnswered 0 rfl) rfl ?_
  refine j_get (pc := 1) (fs := flPy ad s k0) (v := .ref (ad (37 + 15 * k0))) fl_Party_26_4 (26 + 15 * k0) (jd k_Party_hasAnswered 1 rfl) (lkPy ad G s hk0) rfl ?_
  refine j_iconst (pc := 4) (v := 0) (jd k_Party_hasAnswered 2 rfl) (by decide) ?_
  refine j_aald (pc := 5) (t0 := 6) (v := ad (38 + 15 * k0 + 0)) (37 + 15 * k0) (jd k_Party_hasAnswered 3 rfl) (lkAA_11 ad G s hk0) rfl rfl (jidx.vp jidx0) (jidx.row jidx0 ad (jrow15 _ _)) ?_
  refine j_iload_n (pc := 6) 1 (jd k_Party_hasAnswered 4 rfl) rfl ?_
  obtain ⟨h10, H⟩ := ochk H
  refine j_iald (pc := 7) (f := s 7 k0) (38 + 15 * k0 + 0) (jd k_Party_hasAnswered 5 rfl) (lkR_11 ad G s hk0 (w := 0) jlt0) (jin.vp h10) ?_
  refine j_iconst (pc := 8) (v := (-1)) (jd k_Party_hasAnswered 6 rfl) (by decide) ?_
  obtain ⟨x12, h13, H⟩ := obnd H
  have K14 : J G m_Party_hasAnswered 0 0 0 P 17 [] [.int x12] (mkC ad G s) 0 0 := by
    obtain ⟨h15, H⟩ := ochk H
    cases H
    subst hP9
    exact j_iret (pc := 17) (jd k_Party_hasAnswered 11 rfl) rfl (jbo.nar h15) ⟨rfl, rfl⟩
  have H := h13
  refine j_icmp_eq (pc := 9) (tgt := 16) (jd k_Party_hasAnswered 7 rfl) rfl (fun h11 => ?_) (fun h11 => ?_)
  · rw [if_pos h11] at H
    refine j_iconst (pc := 16) (v := 0) (jd k_Party_hasAnswered 10 rfl) (by decide) ?_
    cases H
    exact j_pick [] rfl K14
  · rw [if_neg h11] at H
    refine j_iconst (pc := 12) (v := 1) (jd k_Party_hasAnswered 8 rfl) (by decide) ?_
    refine j_goto (pc := 13) (tgt := 17) (jd k_Party_hasAnswered 9 rfl) rfl ?_
    cases H
    exact j_pick [] rfl K14

set_option maxRecDepth 20000 in
theorem lp_Room_isOut_31 {ad : Nat → Nat} {G : jG} {P : jR → va_W → Prop} (p0 : Int32) (s : jU) (k10 : Nat) (hk10 : k10 < 7) : ∀ (n : Nat) (x16 : Int32) (r : Int32 ⊕ (Int32)), L_Room_isOut_31 p0 s k10 n x16 = some r → (∀ v9, r = .inl v9 → P (.inl (some (.int v9))) (mkC ad G s)) → (∀ t9, r = .inr t9 → J G m_Room_isOut 4 0 0 P 88 [(0, .ref (ad 9)), (1, .int p0), (2, .ref (ad (26 + 15 * k10))), (3, .int t9)] [] (mkC ad G s) 0 0) → J G m_Room_isOut 4 0 0 P 31 [(0, .ref (ad 9)), (1, .int p0), (2, .ref (ad (26 + 15 * k10))), (3, .int x16)] [] (mkC ad G s) 0 0 := by
  intro n
  induction n with
  | zero =>
    intro x16 r H
    cases (show none = some r from H)
  | succ n ih =>
    intro x16 r H kr kx
    have H : (
    if (s 20 0 0) < x16 then
      some (.inr x16)
    else
      Option.bind (f_Party_isComplainedOf k10 x16 s) fun x19 =>
      if x19 = 0 then
        jlet (x16 + 1) fun x21 =>
        L_Room_isOut_31 p0 s k10 n x21
      else
        Option.bind (f_Party_hasAnswered k10 x16 s) fun x24 =>
        if x24 = 0 then
          some (.inl 1)
        else
          if jin x16 8 then
          if jin x16 8 then
          Option.bind (f_Room_fits p0 x16 (s 7 k10 x16.toNatClampNeg) (s 8 k10 x16.toNatClampNeg) s) fun x29 =>
          if ¬ x29 = 0 then
            jlet (x16 + 1) fun x31 =>
            L_Room_isOut_31 p0 s k10 n x31
          else
            some (.inl 1)
          else none
          else none) = some r := H
    refine j_iload_n (pc := 31) 3 (jd k_Room_isOut 17 rfl) rfl ?_
    refine j_aload_n (pc := 32) 0 (jd k_Room_isOut 18 rfl) rfl ?_
    refine j_get (pc := 33) (fs := flRm ad s) (v := .int (s 20 0 0)) fl_Room_55_7 9 (jd k_Room_isOut 19 rfl) rfl rfl ?_
    refine j_icmp_gt (pc := 36) (tgt := 88) (jd k_Room_isOut 20 rfl) rfl (fun h17 => ?_) (fun h17 => ?_)
    · rw [if_pos h17] at H
      cases H
      exact kx _ rfl
    · rw [if_neg h17] at H
      refine j_aload_n (pc := 39) 2 (jd k_Room_isOut 21 rfl) rfl ?_
      refine j_iload_n (pc := 40) 3 (jd k_Room_isOut 22 rfl) rfl ?_
      obtain ⟨x19, h18, H⟩ := obnd H
      refine jc_V (pc := 41) (st := []) (c_Party_isComplainedOf ad G k10 hk10 x16 s _ h18) L0_Party_isComplainedOf w800 w801 w802 (26 + 15 * k10) (lkPy ad G s hk10) rfl (jd k_Room_isOut 23 rfl) rfl (Nat.le_of_ble_eq_true rfl) (by decide) (Nat.le_refl _) (Nat.le_refl _) rfl rfl ?_
      refine j_if_eq (pc := 44) (tgt := 82) (jd k_Room_isOut 24 rfl) rfl (fun h20 => ?_) (fun h20 => ?_)
      · rw [if_pos h20] at H
        obtain ⟨x21, e22, H⟩ := olet H
        refine j_iinc (pc := 82) (lv' := [(0, .ref (ad 9)), (1, .int p0), (2, .ref (ad (26 + 15 * k10))), (3, .int x21)]) 3 (jd k_Room_isOut 48 rfl) rfl e22 rfl (Nat.le_of_ble_eq_true rfl) rfl ?_
        refine j_goto (pc := 85) (tgt := 31) (jd k_Room_isOut 49 rfl) rfl ?_
        exact ih x21 _ H kr kx
      · rw [if_neg h20] at H
        refine j_aload_n (pc := 47) 2 (jd k_Room_isOut 25 rfl) rfl ?_
        refine j_iload_n (pc := 48) 3 (jd k_Room_isOut 26 rfl) rfl ?_
        obtain ⟨x24, h23, H⟩ := obnd H
        refine jc_V (pc := 49) (st := []) (c_Party_hasAnswered ad G k10 hk10 x16 s _ h23) L0_Party_hasAnswered w823 w824 w825 (26 + 15 * k10) (lkPy ad G s hk10) rfl (jd k_Room_isOut 27 rfl) rfl (Nat.le_of_ble_eq_true rfl) (by decide) (Nat.le_refl _) (Nat.le_refl _) rfl rfl ?_
        refine j_if_eq (pc := 52) (tgt := 80) (jd k_Room_isOut 28 rfl) rfl (fun h25 => ?_) (fun h25 => ?_)
        · rw [if_pos h25] at H
          refine j_iconst (pc := 80) (v := 1) (jd k_Room_isOut 46 rfl) (by decide) ?_
          cases H
          exact j_iret (pc := 81) (jd k_Room_isOut 47 rfl) rfl rfl (kr _ rfl)
        · rw [if_neg h25] at H
          refine j_aload_n (pc := 55) 0 (jd k_Room_isOut 29 rfl) rfl ?_
          refine j_iload_n (pc := 56) 1 (jd k_Room_isOut 30 rfl) rfl ?_
          refine j_iload_n (pc := 57) 3 (jd k_Room_isOut 31 rfl) rfl ?_
          refine j_aload_n (pc := 58) 2 (jd k_Room_isOut 32 rfl) rfl ?_
          refine j_get (pc := 59) (fs := flPy ad s k10) (v := .ref (ad (37 + 15 * k10))) fl_Room_209_4 (26 + 15 * k10) (jd k_Room_isOut 33 rfl) (lkPy ad G s hk10) rfl ?_
          refine j_iconst (pc := 62) (v := 0) (jd k_Room_isOut 34 rfl) (by decide) ?_
          refine j_aald (pc := 63) (t0 := 6) (v := ad (38 + 15 * k10 + 0)) (37 + 15 * k10) (jd k_Room_isOut 35 rfl) (lkAA_11 ad G s hk10) rfl rfl (jidx.vp jidx0) (jidx.row jidx0 ad (jrow15 _ _)) ?_
          refine j_iload_n (pc := 64) 3 (jd k_Room_isOut 36 rfl) rfl ?_
          obtain ⟨h26, H⟩ := ochk H
          refine j_iald (pc := 65) (f := s 7 k10) (38 + 15 * k10 + 0) (jd k_Room_isOut 37 rfl) (lkR_11 ad G s hk10 (w := 0) jlt0) (jin.vp h26) ?_
          refine j_aload_n (pc := 66) 2 (jd k_Room_isOut 38 rfl) rfl ?_
          refine j_get (pc := 67) (fs := flPy ad s k10) (v := .ref (ad (37 + 15 * k10))) fl_Room_209_4 (26 + 15 * k10) (jd k_Room_isOut 39 rfl) (lkPy ad G s hk10) rfl ?_
          refine j_iconst (pc := 70) (v := 1) (jd k_Room_isOut 40 rfl) (by decide) ?_
          refine j_aald (pc := 71) (t0 := 6) (v := ad (38 + 15 * k10 + 1)) (37 + 15 * k10) (jd k_Room_isOut 41 rfl) (lkAA_11 ad G s hk10) rfl rfl (jidx.vp jidx1) (jidx.row jidx1 ad (jrow15 _ _)) ?_
          refine j_iload_n (pc := 72) 3 (jd k_Room_isOut 42 rfl) rfl ?_
          obtain ⟨h27, H⟩ := ochk H
          refine j_iald (pc := 73) (f := s 8 k10) (38 + 15 * k10 + 1) (jd k_Room_isOut 43 rfl) (lkR_11 ad G s hk10 (w := 1) jlt1) (jin.vp h27) ?_
          obtain ⟨x29, h28, H⟩ := obnd H
          refine jc_V (pc := 74) (st := []) (c_Room_fits ad G p0 x16 (s 7 k10 x16.toNatClampNeg) (s 8 k10 x16.toNatClampNeg) s _ h28) L0_Room_fits w781 w783 w11 9 rfl rfl (jd k_Room_isOut 44 rfl) rfl (Nat.le_of_ble_eq_true rfl) (by decide) (Nat.le_refl _) (Nat.le_refl _) rfl rfl ?_
          refine j_if_ne (pc := 77) (tgt := 82) (jd k_Room_isOut 45 rfl) rfl (fun h30 => ?_) (fun h30 => ?_)
          · rw [if_pos h30] at H
            obtain ⟨x31, e32, H⟩ := olet H
            refine j_iinc (pc := 82) (lv' := [(0, .ref (ad 9)), (1, .int p0), (2, .ref (ad (26 + 15 * k10))), (3, .int x31)]) 3 (jd k_Room_isOut 48 rfl) rfl e32 rfl (Nat.le_of_ble_eq_true rfl) rfl ?_
            refine j_goto (pc := 85) (tgt := 31) (jd k_Room_isOut 49 rfl) rfl ?_
            exact ih x31 _ H kr kx
          · rw [if_neg (not_not_intro h30)] at H
            refine j_iconst (pc := 80) (v := 1) (jd k_Room_isOut 46 rfl) (by decide) ?_
            cases H
            exact j_iret (pc := 81) (jd k_Room_isOut 47 rfl) rfl rfl (kr _ rfl)

set_option maxRecDepth 20000 in
theorem c_Room_isOut (ad : Nat → Nat) (G : jG) (p0 : Int32) (s : jU) (r : Int32) (H : f_Room_isOut p0 s = some r) : jCon G m_Room_isOut y_Room_isOut 4 0 0 [.ref (ad 9), .int p0] (mkC ad G s) (jEq (some (.int r)) (mkC ad G s)) := by
  refine jCon.of (by decide +kernel) rfl rfl rfl (Nat.le_of_ble_eq_true rfl) rfl ?_
  have H : (
  Option.bind (jidx (p0 - 1) 7) fun k10 =>
  if (s 12 k10 0) = 0 then
    some 1
  else
    Option.bind (f_Integer_bitCount (s 11 k10 0)) fun x14 =>
    if x14 < (s 21 0 0) then
      jend (L_Room_isOut_31 p0 s k10 jF 1) fun x33 =>
      some 0
    else
      some 1) = some r := H
  generalize hP9 : jEq (some (.int r)) (mkC ad G s) = P
  refine j_aload_n (pc := 0) 0 (jd k_Room_isOut 0 rfl) rfl ?_
  refine j_iload_n (pc := 1) 1 (jd k_Room_isOut 1 rfl) rfl ?_
  obtain ⟨k10, h11, H⟩ := obnd H
  have hk10 : k10 < 7 := jidx.lt h11
  refine jc_V (pc := 2) (st := []) (c_Room_party ad G p0 s k10 h11) L0_Room_party w401 w403 w1 9 rfl rfl (jd k_Room_isOut 2 rfl) rfl (Nat.le_of_ble_eq_true rfl) (by decide) (Nat.le_refl _) (Nat.le_refl _) rfl rfl ?_
  refine j_astore_n (pc := 5) (lv' := [(0, .ref (ad 9)), (1, .int p0), (2, .ref (ad (26 + 15 * k10)))]) (jd k_Room_isOut 3 rfl) rfl (Nat.le_of_ble_eq_true rfl) rfl ?_
  refine j_aload_n (pc := 6) 2 (jd k_Room_isOut 4 rfl) rfl ?_
  refine j_get (pc := 7) (fs := flPy ad s k10) (v := .int (s 12 k10 0)) fl_Room_172_4 (26 + 15 * k10) (jd k_Room_isOut 5 rfl) (lkPy ad G s hk10) rfl ?_
  refine j_if_eq (pc := 10) (tgt := 27) (jd k_Room_isOut 6 rfl) rfl (fun h12 => ?_) (fun h12 => ?_)
  · rw [if_pos h12] at H
    refine j_iconst (pc := 27) (v := 1) (jd k_Room_isOut 13 rfl) (by decide) ?_
    cases H
    subst hP9
    exact j_iret (pc := 28) (jd k_Room_isOut 14 rfl) rfl rfl ⟨rfl, rfl⟩
  · rw [if_neg h12] at H
    refine j_aload_n (pc := 13) 2 (jd k_Room_isOut 7 rfl) rfl ?_
    refine j_get (pc := 14) (fs := flPy ad s k10) (v := .int (s 11 k10 0)) fl_Room_133_4 (26 + 15 * k10) (jd k_Room_isOut 8 rfl) (lkPy ad G s hk10) rfl ?_
    obtain ⟨x14, h13, H⟩ := obnd H
    refine jc_S (pc := 17) (st := []) (c_Integer_bitCount G _ (s 11 k10 0) _ h13) L0_Integer_bitCount w817 w818 (jd k_Room_isOut 9 rfl) rfl (Nat.le_of_ble_eq_true rfl) (by decide) (Nat.le_refl _) (Nat.le_refl _) rfl rfl ?_
    refine j_aload_n (pc := 20) 0 (jd k_Room_isOut 10 rfl) rfl ?_
    refine j_get (pc := 21) (fs := flRm ad s) (v := .int (s 21 0 0)) fl_Room_59_7 9 (jd k_Room_isOut 11 rfl) rfl rfl ?_
    refine j_icmp_lt (pc := 24) (tgt := 29) (jd k_Room_isOut 12 rfl) rfl (fun h15 => ?_) (fun h15 => ?_)
    · rw [if_pos h15] at H
      refine j_iconst (pc := 29) (v := 1) (jd k_Room_isOut 15 rfl) (by decide) ?_
      refine j_istore_n (pc := 30) (lv' := [(0, .ref (ad 9)), (1, .int p0), (2, .ref (ad (26 + 15 * k10))), (3, .int 1)]) (jd k_Room_isOut 16 rfl) rfl (Nat.le_of_ble_eq_true rfl) rfl ?_
      rcases oend H with h34 | ⟨x33, h34, H⟩
      · exact lp_Room_isOut_31 p0 s k10 hk10 jF 1 _ h34 (fun v q => by cases q; subst hP9; exact ⟨rfl, rfl⟩) (fun v q => by cases q)
      · refine lp_Room_isOut_31 p0 s k10 hk10 jF 1 _ h34 (fun v q => by cases q) (fun v q => ?_)
        cases q
        refine j_pick (lv' := []) [] rfl ?_
        refine j_iconst (pc := 88) (v := 0) (jd k_Room_isOut 50 rfl) (by decide) ?_
        cases H
        subst hP9
        exact j_iret (pc := 89) (jd k_Room_isOut 51 rfl) rfl rfl ⟨rfl, rfl⟩
    · rw [if_neg h15] at H
      refine j_iconst (pc := 27) (v := 1) (jd k_Room_isOut 13 rfl) (by decide) ?_
      cases H
      subst hP9
      exact j_iret (pc := 28) (jd k_Room_isOut 14 rfl) rfl rfl ⟨rfl, rfl⟩

set_option maxRecDepth 20000 in
theorem lp_Room_takeAnswers_8 {ad : Nat → Nat} {G : jG} {P : jR → va_W → Prop} (p0 : Int32) (k10 : Nat) (hk10 : k10 < 7) : ∀ (n : Nat) (x12 : Int32) (s13 : jU) (r : Int32 × jU), L_Room_takeAnswers_8 p0 k10 n x12 s13 = some r → J G m_Room_takeAnswers 1 0 0 P 70 [(0, .ref (ad 9)), (1, .int p0), (2, .ref (ad (26 + 15 * k10))), (3, .int r.1)] [] (mkC ad G r.2) 0 0 → J G m_Room_takeAnswers 1 0 0 P 8 [(0, .ref (ad 9)), (1, .int p0), (2, .ref (ad (26 + 15 * k10))), (3, .int x12)] [] (mkC ad G s13) 0 0 := by
  intro n
  induction n with
  | zero =>
    intro x12 s13 r H
    cases (show none = some r from H)
  | succ n ih =>
    intro x12 s13 r H kx
    have H : (
    if (s13 20 0 0) < x12 then
      some (x12, s13)
    else
      Option.bind (f_Party_hasAnswered k10 x12 s13) fun x16 =>
      Option.bind (α := jU) (
        if x16 = 0 then
          some s13
        else
          Option.bind (jidx (x12 - 1) 7) fun k18 =>
          if jin x12 8 then
          if jin p0 8 then
          jlet (ups s13 5 k18 (upd (s13 5 k18) p0.toNatClampNeg (s13 7 k10 x12.toNatClampNeg))) fun s21 =>
          Option.bind (jidx (x12 - 1) 7) fun k24 =>
          if jin x12 8 then
          if jin p0 8 then
          jlet (ups s21 6 k24 (upd (s21 6 k24) p0.toNatClampNeg (s21 8 k10 x12.toNatClampNeg))) fun s27 =>
          some s27
          else none
          else none
          else none
          else none) fun s30 =>
      jlet (x12 + 1) fun x33 =>
      L_Room_takeAnswers_8 p0 k10 n x33 s30) = some r := H
    refine j_iload_n (pc := 8) 3 (jd k_Room_takeAnswers 6 rfl) rfl ?_
    refine j_aload_n (pc := 9) 0 (jd k_Room_takeAnswers 7 rfl) rfl ?_
    refine j_get (pc := 10) (fs := flRm ad s13) (v := .int (s13 20 0 0)) fl_Room_55_7 9 (jd k_Room_takeAnswers 8 rfl) rfl rfl ?_
    refine j_icmp_gt (pc := 13) (tgt := 70) (jd k_Room_takeAnswers 9 rfl) rfl (fun h14 => ?_) (fun h14 => ?_)
    · rw [if_pos h14] at H
      cases H
      exact kx
    · rw [if_neg h14] at H
      refine j_aload_n (pc := 16) 2 (jd k_Room_takeAnswers 10 rfl) rfl ?_
      refine j_iload_n (pc := 17) 3 (jd k_Room_takeAnswers 11 rfl) rfl ?_
      obtain ⟨x16, h15, H⟩ := obnd H
      refine jc_V (pc := 18) (st := []) (c_Party_hasAnswered ad G k10 hk10 x12 s13 _ h15) L0_Party_hasAnswered w823 w824 w825 (26 + 15 * k10) (lkPy ad G s13 hk10) rfl (jd k_Room_takeAnswers 12 rfl) rfl (Nat.le_of_ble_eq_true rfl) (by decide) (Nat.le_refl _) (Nat.le_refl _) rfl rfl ?_
      obtain ⟨s30, h31, H⟩ := obnd H
      have K32 : J G m_Room_takeAnswers 1 0 0 P 64 [(0, .ref (ad 9)), (1, .int p0), (2, .ref (ad (26 + 15 * k10))), (3, .int x12)] [] (mkC ad G s30) 0 0 := by
        obtain ⟨x33, e34, H⟩ := olet H
        refine j_iinc (pc := 64) (lv' := [(0, .ref (ad 9)), (1, .int p0), (2, .ref (ad (26 + 15 * k10))), (3, .int x33)]) 3 (jd k_Room_takeAnswers 42 rfl) rfl e34 rfl (Nat.le_of_ble_eq_true rfl) rfl ?_
        refine j_goto (pc := 67) (tgt := 8) (jd k_Room_takeAnswers 43 rfl) rfl ?_
        exact ih x33 s30 _ H kx
      have H := h31
      refine j_if_eq (pc := 21) (tgt := 64) (jd k_Room_takeAnswers 13 rfl) rfl (fun h17 => ?_) (fun h17 => ?_)
      · rw [if_pos h17] at H
        cases H
        exact K32
      · rw [if_neg h17] at H
        refine j_aload_n (pc := 24) 0 (jd k_Room_takeAnswers 14 rfl) rfl ?_
        refine j_iload_n (pc := 25) 3 (jd k_Room_takeAnswers 15 rfl) rfl ?_
        obtain ⟨k18, h19, H⟩ := obnd H
        have hk18 : k18 < 7 := jidx.lt h19
        refine jc_V (pc := 26) (st := []) (c_Room_party ad G x12 s13 k18 h19) L0_Room_party w401 w403 w1 9 rfl rfl (jd k_Room_takeAnswers 16 rfl) rfl (Nat.le_of_ble_eq_true rfl) (by decide) (Nat.le_refl _) (Nat.le_refl _) rfl rfl ?_
        refine j_get (pc := 29) (fs := flPy ad s13 k18) (v := .ref (ad (34 + 15 * k18))) fl_Room_136_4 (26 + 15 * k18) (jd k_Room_takeAnswers 17 rfl) (lkPy ad G s13 hk18) rfl ?_
        refine j_iconst (pc := 32) (v := 0) (jd k_Room_takeAnswers 18 rfl) (by decide) ?_
        refine j_aald (pc := 33) (t0 := 6) (v := ad (35 + 15 * k18 + 0)) (34 + 15 * k18) (jd k_Room_takeAnswers 19 rfl) (lkAA_8 ad G s13 hk18) rfl rfl (jidx.vp jidx0) (jidx.row jidx0 ad (jrow15 _ _)) ?_
        refine j_iload_n (pc := 34) 1 (jd k_Room_takeAnswers 20 rfl) rfl ?_
        refine j_aload_n (pc := 35) 2 (jd k_Room_takeAnswers 21 rfl) rfl ?_
        refine j_get (pc := 36) (fs := flPy ad s13 k10) (v := .ref (ad (37 + 15 * k10))) fl_Room_209_4 (26 + 15 * k10) (jd k_Room_takeAnswers 22 rfl) (lkPy ad G s13 hk10) rfl ?_
        refine j_iconst (pc := 39) (v := 0) (jd k_Room_takeAnswers 23 rfl) (by decide) ?_
        refine j_aald (pc := 40) (t0 := 6) (v := ad (38 + 15 * k10 + 0)) (37 + 15 * k10) (jd k_Room_takeAnswers 24 rfl) (lkAA_11 ad G s13 hk10) rfl rfl (jidx.vp jidx0) (jidx.row jidx0 ad (jrow15 _ _)) ?_
        refine j_iload_n (pc := 41) 3 (jd k_Room_takeAnswers 25 rfl) rfl ?_
        obtain ⟨h20, H⟩ := ochk H
        refine j_iald (pc := 42) (f := s13 7 k10) (38 + 15 * k10 + 0) (jd k_Room_takeAnswers 26 rfl) (lkR_11 ad G s13 hk10 (w := 0) jlt0) (jin.vp h20) ?_
        obtain ⟨h23, H⟩ := ochk H
        obtain ⟨s21, e22, H⟩ := olet H
        refine j_iast (pc := 43) (f := s13 5 k18) (35 + 15 * k18 + 0) (jd k_Room_takeAnswers 27 rfl) (lkR_8 ad G s13 hk18 (w := 0) jlt0) (jin.vp h23) ((wrR_8 ad G s13 hk18 (w := 0) jlt0 _).trans (congrArg (mkC ad G) e22)) ?_
        refine j_aload_n (pc := 44) 0 (jd k_Room_takeAnswers 28 rfl) rfl ?_
        refine j_iload_n (pc := 45) 3 (jd k_Room_takeAnswers 29 rfl) rfl ?_
        obtain ⟨k24, h25, H⟩ := obnd H
        have hk24 : k24 < 7 := jidx.lt h25
        refine jc_V (pc := 46) (st := []) (c_Room_party ad G x12 s21 k24 h25) L0_Room_party w401 w403 w1 9 rfl rfl (jd k_Room_takeAnswers 30 rfl) rfl (Nat.le_of_ble_eq_true rfl) (by decide) (Nat.le_refl _) (Nat.le_refl _) rfl rfl ?_
        refine j_get (pc := 49) (fs := flPy ad s21 k24) (v := .ref (ad (34 + 15 * k24))) fl_Room_136_4 (26 + 15 * k24) (jd k_Room_takeAnswers 31 rfl) (lkPy ad G s21 hk24) rfl ?_
        refine j_iconst (pc := 52) (v := 1) (jd k_Room_takeAnswers 32 rfl) (by decide) ?_
        refine j_aald (pc := 53) (t0 := 6) (v := ad (35 + 15 * k24 + 1)) (34 + 15 * k24) (jd k_Room_takeAnswers 33 rfl) (lkAA_8 ad G s21 hk24) rfl rfl (jidx.vp jidx1) (jidx.row jidx1 ad (jrow15 _ _)) ?_
        refine j_iload_n (pc := 54) 1 (jd k_Room_takeAnswers 34 rfl) rfl ?_
        refine j_aload_n (pc := 55) 2 (jd k_Room_takeAnswers 35 rfl) rfl ?_
        refine j_get (pc := 56) (fs := flPy ad s21 k10) (v := .ref (ad (37 + 15 * k10))) fl_Room_209_4 (26 + 15 * k10) (jd k_Room_takeAnswers 36 rfl) (lkPy ad G s21 hk10) rfl ?_
        refine j_iconst (pc := 59) (v := 1) (jd k_Room_takeAnswers 37 rfl) (by decide) ?_
        refine j_aald (pc := 60) (t0 := 6) (v := ad (38 + 15 * k10 + 1)) (37 + 15 * k10) (jd k_Room_takeAnswers 38 rfl) (lkAA_11 ad G s21 hk10) rfl rfl (jidx.vp jidx1) (jidx.row jidx1 ad (jrow15 _ _)) ?_
        refine j_iload_n (pc := 61) 3 (jd k_Room_takeAnswers 39 rfl) rfl ?_
        obtain ⟨h26, H⟩ := ochk H
        refine j_iald (pc := 62) (f := s21 8 k10) (38 + 15 * k10 + 1) (jd k_Room_takeAnswers 40 rfl) (lkR_11 ad G s21 hk10 (w := 1) jlt1) (jin.vp h26) ?_
        obtain ⟨h29, H⟩ := ochk H
        obtain ⟨s27, e28, H⟩ := olet H
        refine j_iast (pc := 63) (f := s21 6 k24) (35 + 15 * k24 + 1) (jd k_Room_takeAnswers 41 rfl) (lkR_8 ad G s21 hk24 (w := 1) jlt1) (jin.vp h29) ((wrR_8 ad G s21 hk24 (w := 1) jlt1 _).trans (congrArg (mkC ad G) e28)) ?_
        cases H
        exact K32

set_option maxRecDepth 20000 in
theorem c_Room_takeAnswers (ad : Nat → Nat) (G : jG) (p0 : Int32) (s : jU) (r : jU) (H : f_Room_takeAnswers p0 s = some r) : jCon G m_Room_takeAnswers y_Room_takeAnswers 1 0 0 [.ref (ad 9), .int p0] (mkC ad G s) (jEq none (mkC ad G r)) := by
  refine jCon.of (by decide +kernel) rfl rfl rfl (Nat.le_of_ble_eq_true rfl) rfl ?_
  have H : (
  Option.bind (jidx (p0 - 1) 7) fun k10 =>
  Option.bind (L_Room_takeAnswers_8 p0 k10 jF 1 s) fun (x35, s36) =>
  some s36) = some r := H
  generalize hP9 : jEq none (mkC ad G r) = P
  refine j_aload_n (pc := 0) 0 (jd k_Room_takeAnswers 0 rfl) rfl ?_
  refine j_iload_n (pc := 1) 1 (jd k_Room_takeAnswers 1 rfl) rfl ?_
  obtain ⟨k10, h11, H⟩ := obnd H
  have hk10 : k10 < 7 := jidx.lt h11
  refine jc_V (pc := 2) (st := []) (c_Room_party ad G p0 s k10 h11) L0_Room_party w401 w403 w1 9 rfl rfl (jd k_Room_takeAnswers 2 rfl) rfl (Nat.le_of_ble_eq_true rfl) (by decide) (Nat.le_refl _) (Nat.le_refl _) rfl rfl ?_
  refine j_astore_n (pc := 5) (lv' := [(0, .ref (ad 9)), (1, .int p0), (2, .ref (ad (26 + 15 * k10)))]) (jd k_Room_takeAnswers 3 rfl) rfl (Nat.le_of_ble_eq_true rfl) rfl ?_
  refine j_iconst (pc := 6) (v := 1) (jd k_Room_takeAnswers 4 rfl) (by decide) ?_
  refine j_istore_n (pc := 7) (lv' := [(0, .ref (ad 9)), (1, .int p0), (2, .ref (ad (26 + 15 * k10))), (3, .int 1)]) (jd k_Room_takeAnswers 5 rfl) rfl (Nat.le_of_ble_eq_true rfl) rfl ?_
  obtain ⟨⟨x35, s36⟩, h37, H⟩ := obnd H
  try dsimp only at H
  refine lp_Room_takeAnswers_8 p0 k10 hk10 jF 1 s _ h37 ?_
  refine j_pick (lv' := []) [] rfl ?_
  cases H
  subst hP9
  exact j_vret (pc := 70) (jd k_Room_takeAnswers 44 rfl) rfl ⟨rfl, rfl⟩

set_option maxRecDepth 20000 in
theorem c_Room_isQualified (ad : Nat → Nat) (G : jG) (p0 : Int32) (s : jU) (r : Int32) (H : f_Room_isQualified p0 s = some r) : jCon G m_Room_isQualified y_Room_isQualified 1 0 0 [.ref (ad 9), .int p0] (mkC ad G s) (jEq (some (.int r)) (mkC ad G s)) := by
  refine jCon.of (by decide +kernel) rfl rfl rfl (Nat.le_of_ble_eq_true rfl) rfl ?_
  have H : (
  Option.bind (f_SR_bit p0) fun x11 =>
  Option.bind (α := Int32) (
    if ((s 24 0 0) &&& x11) = 0 then
      some 0
    else
      some 1) fun x13 =>
  if jbo x13 then
  some x13
  else none) = some r := H
  generalize hP9 : jEq (some (.int r)) (mkC ad G s) = P
  refine j_aload_n (pc := 0) 0 (jd k_Room_isQualified 0 rfl) rfl ?_
  refine j_get (pc := 1) (fs := flRm ad s) (v := .int (s 24 0 0)) fl_Room_78_7 9 (jd k_Room_isQualified 1 rfl) rfl rfl ?_
  refine j_iload_n (pc := 4) 1 (jd k_Room_isQualified 2 rfl) rfl ?_
  obtain ⟨x11, h10, H⟩ := obnd H
  refine jc_SN (pc := 5) (st := [.int (s 24 0 0)]) (c_SR_bit G _ p0 _ h10) L0_SR_bit wt413 w414 (jd k_Room_isQualified 3 rfl) rfl (Nat.le_of_ble_eq_true rfl) (by decide) (Nat.le_refl _) (Nat.le_refl _) rfl rfl ?_
  refine j_iand (pc := 8) (jd k_Room_isQualified 4 rfl) ?_
  obtain ⟨x13, h14, H⟩ := obnd H
  have K15 : J G m_Room_isQualified 1 0 0 P 17 [] [.int x13] (mkC ad G s) 0 0 := by
    obtain ⟨h16, H⟩ := ochk H
    cases H
    subst hP9
    exact j_iret (pc := 17) (jd k_Room_isQualified 9 rfl) rfl (jbo.nar h16) ⟨rfl, rfl⟩
  have H := h14
  refine j_if_eq (pc := 9) (tgt := 16) (jd k_Room_isQualified 5 rfl) rfl (fun h12 => ?_) (fun h12 => ?_)
  · rw [if_pos h12] at H
    refine j_iconst (pc := 16) (v := 0) (jd k_Room_isQualified 8 rfl) (by decide) ?_
    cases H
    exact j_pick [] rfl K15
  · rw [if_neg h12] at H
    refine j_iconst (pc := 12) (v := 1) (jd k_Room_isQualified 6 rfl) (by decide) ?_
    refine j_goto (pc := 13) (tgt := 17) (jd k_Room_isQualified 7 rfl) rfl ?_
    cases H
    exact j_pick [] rfl K15

set_option maxRecDepth 20000 in
theorem lp_Room_sumUp_5 {ad : Nat → Nat} {G : jG} {P : jR → va_W → Prop} (p0 : Int32) (p1 : Int32) (s : jU) : ∀ (n : Nat) (x10 : Int32) (x11 : Int32) (r : Int32 × Int32), L_Room_sumUp_5 p0 p1 s n x10 x11 = some r → J G m_Room_sumUp 2 0 0 P 51 [(0, .ref (ad 9)), (1, .int p0), (2, .int p1), (3, .int r.1), (4, .int r.2)] [] (mkC ad G s) 0 0 → J G m_Room_sumUp 2 0 0 P 5 [(0, .ref (ad 9)), (1, .int p0), (2, .int p1), (3, .int x10), (4, .int x11)] [] (mkC ad G s) 0 0 := by
  intro n
  induction n with
  | zero =>
    intro x10 x11 r H
    cases (show none = some r from H)
  | succ n ih =>
    intro x10 x11 r H kx
    have H : (
    if (s 20 0 0) < x11 then
      some (x10, x11)
    else
      Option.bind (f_Room_isQualified x11 s) fun x14 =>
      Option.bind (α := Int32) (
        if x14 = 0 then
          some x10
        else
          Option.bind (jidx (p0 - 1) 7) fun k16 =>
          Option.bind (jidx p1 2) fun k18 =>
          if jin x11 8 then
          Option.bind (F_plus (fnum (s 53 0 0)) x10 (s (5 + k18) k16 x11.toNatClampNeg)) fun x22 =>
          some x22
          else none) fun x23 =>
      jlet (x11 + 1) fun x26 =>
      L_Room_sumUp_5 p0 p1 s n x23 x26) = some r := H
    refine j_iload (pc := 5) 4 (jd k_Room_sumUp 4 rfl) rfl ?_
    refine j_aload_n (pc := 7) 0 (jd k_Room_sumUp 5 rfl) rfl ?_
    refine j_get (pc := 8) (fs := flRm ad s) (v := .int (s 20 0 0)) fl_Room_55_7 9 (jd k_Room_sumUp 6 rfl) rfl rfl ?_
    refine j_icmp_gt (pc := 11) (tgt := 51) (jd k_Room_sumUp 7 rfl) rfl (fun h12 => ?_) (fun h12 => ?_)
    · rw [if_pos h12] at H
      cases H
      exact kx
    · rw [if_neg h12] at H
      refine j_aload_n (pc := 14) 0 (jd k_Room_sumUp 8 rfl) rfl ?_
      refine j_iload (pc := 15) 4 (jd k_Room_sumUp 9 rfl) rfl ?_
      obtain ⟨x14, h13, H⟩ := obnd H
      refine jc_V (pc := 17) (st := []) (c_Room_isQualified ad G x11 s _ h13) L0_Room_isQualified w835 w837 w19 9 rfl rfl (jd k_Room_sumUp 10 rfl) rfl (Nat.le_of_ble_eq_true rfl) (by decide) (Nat.le_refl _) (Nat.le_refl _) rfl rfl ?_
      obtain ⟨x23, h24, H⟩ := obnd H
      have K25 : J G m_Room_sumUp 2 0 0 P 45 [(0, .ref (ad 9)), (1, .int p0), (2, .int p1), (3, .int x23), (4, .int x11)] [] (mkC ad G s) 0 0 := by
        obtain ⟨x26, e27, H⟩ := olet H
        refine j_iinc (pc := 45) (lv' := [(0, .ref (ad 9)), (1, .int p0), (2, .int p1), (3, .int x23), (4, .int x26)]) 4 (jd k_Room_sumUp 25 rfl) rfl e27 rfl (Nat.le_of_ble_eq_true rfl) rfl ?_
        refine j_goto (pc := 48) (tgt := 5) (jd k_Room_sumUp 26 rfl) rfl ?_
        exact ih x23 x26 _ H kx
      have H := h24
      refine j_if_eq (pc := 20) (tgt := 45) (jd k_Room_sumUp 11 rfl) rfl (fun h15 => ?_) (fun h15 => ?_)
      · rw [if_pos h15] at H
        cases H
        exact K25
      · rw [if_neg h15] at H
        refine j_aload_n (pc := 23) 0 (jd k_Room_sumUp 12 rfl) rfl ?_
        refine j_get (pc := 24) (fs := flRm ad s) (v := .ref (ad (2 + (fnum (s 53 0 0))))) fl_Room_42_7 9 (jd k_Room_sumUp 13 rfl) rfl rfl ?_
        refine j_iload_n (pc := 27) 3 (jd k_Room_sumUp 14 rfl) rfl ?_
        refine j_aload_n (pc := 28) 0 (jd k_Room_sumUp 15 rfl) rfl ?_
        refine j_iload_n (pc := 29) 1 (jd k_Room_sumUp 16 rfl) rfl ?_
        obtain ⟨k16, h17, H⟩ := obnd H
        have hk16 : k16 < 7 := jidx.lt h17
        refine jc_V (pc := 30) (st := [.int x10, .ref (ad (2 + (fnum (s 53 0 0))))]) (c_Room_party ad G p0 s k16 h17) L0_Room_party w401 w403 w1 9 rfl rfl (jd k_Room_sumUp 17 rfl) rfl (Nat.le_of_ble_eq_true rfl) (by decide) (Nat.le_refl _) (Nat.le_refl _) rfl rfl ?_
        refine j_get (pc := 33) (fs := flPy ad s k16) (v := .ref (ad (34 + 15 * k16))) fl_Room_136_4 (26 + 15 * k16) (jd k_Room_sumUp 18 rfl) (lkPy ad G s hk16) rfl ?_
        refine j_iload_n (pc := 36) 2 (jd k_Room_sumUp 19 rfl) rfl ?_
        obtain ⟨k18, h19, H⟩ := obnd H
        have hk18 : k18 < 2 := jidx.lt h19
        refine j_aald (pc := 37) (t0 := 6) (v := ad (35 + 15 * k16 + k18)) (34 + 15 * k16) (jd k_Room_sumUp 20 rfl) (lkAA_8 ad G s hk16) rfl rfl (jidx.vp h19) (jidx.row h19 ad (jrow15 _ _)) ?_
        refine j_iload (pc := 38) 4 (jd k_Room_sumUp 21 rfl) rfl ?_
        obtain ⟨h20, H⟩ := ochk H
        refine j_iald (pc := 40) (f := s (5 + k18) k16) (35 + 15 * k16 + k18) (jd k_Room_sumUp 22 rfl) (lkR_8 ad G s hk16 (w := k18) hk18) (jin.vp h20) ?_
        obtain ⟨x22, h21, H⟩ := obnd H
        refine vF_plus (pc := 41) (st := []) (fnum (s 53 0 0)) (fnum_lt _) x10 (s (5 + k18) k16 x11.toNatClampNeg) s _ h21 w772 (jd k_Room_sumUp 23 rfl) (Nat.le_of_ble_eq_true rfl) (by decide) (Nat.le_refl _) (Nat.le_refl _) ?_
        refine j_istore_n (pc := 44) (lv' := [(0, .ref (ad 9)), (1, .int p0), (2, .int p1), (3, .int x22), (4, .int x11)]) (jd k_Room_sumUp 24 rfl) rfl (Nat.le_of_ble_eq_true rfl) rfl ?_
        cases H
        exact K25

set_option maxRecDepth 20000 in
theorem c_Room_sumUp (ad : Nat → Nat) (G : jG) (p0 : Int32) (p1 : Int32) (s : jU) (r : jU) (H : f_Room_sumUp p0 p1 s = some r) : jCon G m_Room_sumUp y_Room_sumUp 2 0 0 [.ref (ad 9), .int p0, .int p1] (mkC ad G s) (jEq none (mkC ad G r)) := by
  refine jCon.of (by decide +kernel) rfl rfl rfl (Nat.le_of_ble_eq_true rfl) rfl ?_
  have H : (
  Option.bind (L_Room_sumUp_5 p0 p1 s jF 0 1) fun (x28, x29) =>
  Option.bind (jidx (p0 - 1) 7) fun k31 =>
  if jin p1 2 then
  jlet (ups s 9 k31 (upd (s 9 k31) p1.toNatClampNeg x28)) fun s33 =>
  some s33
  else none) = some r := H
  generalize hP9 : jEq none (mkC ad G r) = P
  refine j_iconst (pc := 0) (v := 0) (jd k_Room_sumUp 0 rfl) (by decide) ?_
  refine j_istore_n (pc := 1) (lv' := [(0, .ref (ad 9)), (1, .int p0), (2, .int p1), (3, .int 0)]) (jd k_Room_sumUp 1 rfl) rfl (Nat.le_of_ble_eq_true rfl) rfl ?_
  refine j_iconst (pc := 2) (v := 1) (jd k_Room_sumUp 2 rfl) (by decide) ?_
  refine j_istore (pc := 3) (lv' := [(0, .ref (ad 9)), (1, .int p0), (2, .int p1), (3, .int 0), (4, .int 1)]) (jd k_Room_sumUp 3 rfl) rfl (Nat.le_of_ble_eq_true rfl) rfl ?_
  obtain ⟨⟨x28, x29⟩, h30, H⟩ := obnd H
  try dsimp only at H
  refine lp_Room_sumUp_5 p0 p1 s jF 0 1 _ h30 ?_
  refine j_pick (lv' := [(0, .ref (ad 9)), (1, .int p0), (2, .int p1), (3, .int x28)]) [0, 1, 2, 3] rfl ?_
  refine j_aload_n (pc := 51) 0 (jd k_Room_sumUp 27 rfl) rfl ?_
  refine j_iload_n (pc := 52) 1 (jd k_Room_sumUp 28 rfl) rfl ?_
  obtain ⟨k31, h32, H⟩ := obnd H
  have hk31 : k31 < 7 := jidx.lt h32
  refine jc_V (pc := 53) (st := []) (c_Room_party ad G p0 s k31 h32) L0_Room_party w401 w403 w1 9 rfl rfl (jd k_Room_sumUp 29 rfl) rfl (Nat.le_of_ble_eq_true rfl) (by decide) (Nat.le_refl _) (Nat.le_refl _) rfl rfl ?_
  refine j_get (pc := 56) (fs := flPy ad s k31) (v := .ref (ad (40 + 15 * k31))) fl_Room_141_4 (26 + 15 * k31) (jd k_Room_sumUp 30 rfl) (lkPy ad G s hk31) rfl ?_
  refine j_iload_n (pc := 59) 2 (jd k_Room_sumUp 31 rfl) rfl ?_
  refine j_iload_n (pc := 60) 3 (jd k_Room_sumUp 32 rfl) rfl ?_
  obtain ⟨h35, H⟩ := ochk H
  obtain ⟨s33, e34, H⟩ := olet H
  refine j_iast (pc := 61) (f := s 9 k31) (40 + 15 * k31) (jd k_Room_sumUp 33 rfl) (lkA_14 ad G s hk31) (jin.vp h35) ((wrA_14 ad G s hk31 _).trans (congrArg (mkC ad G) e34)) ?_
  cases H
  subst hP9
  exact j_vret (pc := 62) (jd k_Room_sumUp 34 rfl) rfl ⟨rfl, rfl⟩

set_option maxRecDepth 20000 in
theorem lp_Room_judgeAll_57 {ad : Nat → Nat} {G : jG} {P : jR → va_W → Prop} : ∀ (n : Nat) (x31 : Int32) (s32 : jU) (r : Int32 × jU), L_Room_judgeAll_57 n x31 s32 = some r → J G m_Room_judgeAll 5 0 0 P 83 [(0, .ref (ad 9)), (1, .int r.1)] [] (mkC ad G r.2) 0 0 → J G m_Room_judgeAll 5 0 0 P 57 [(0, .ref (ad 9)), (1, .int x31)] [] (mkC ad G s32) 0 0 := by
  intro n
  induction n with
  | zero =>
    intro x31 s32 r H
    cases (show none = some r from H)
  | succ n ih =>
    intro x31 s32 r H kx
    have H : (
    if (s32 20 0 0) < x31 then
      some (x31, s32)
    else
      Option.bind (f_Room_sumUp x31 0 s32) fun s35 =>
      Option.bind (f_Room_sumUp x31 1 s35) fun s37 =>
      jlet (x31 + 1) fun x38 =>
      L_Room_judgeAll_57 n x38 s37) = some r := H
    refine j_iload_n (pc := 57) 1 (jd k_Room_judgeAll 31 rfl) rfl ?_
    refine j_aload_n (pc := 58) 0 (jd k_Room_judgeAll 32 rfl) rfl ?_
    refine j_get (pc := 59) (fs := flRm ad s32) (v := .int (s32 20 0 0)) fl_Room_55_7 9 (jd k_Room_judgeAll 33 rfl) rfl rfl ?_
    refine j_icmp_gt (pc := 62) (tgt := 83) (jd k_Room_judgeAll 34 rfl) rfl (fun h33 => ?_) (fun h33 => ?_)
    · rw [if_pos h33] at H
      cases H
      exact kx
    · rw [if_neg h33] at H
      refine j_aload_n (pc := 65) 0 (jd k_Room_judgeAll 35 rfl) rfl ?_
      refine j_iload_n (pc := 66) 1 (jd k_Room_judgeAll 36 rfl) rfl ?_
      refine j_iconst (pc := 67) (v := 0) (jd k_Room_judgeAll 37 rfl) (by decide) ?_
      obtain ⟨s35, h34, H⟩ := obnd H
      refine jc_V (pc := 68) (st := []) (c_Room_sumUp ad G x31 0 s32 _ h34) L0_Room_sumUp w831 w833 w18 9 rfl rfl (jd k_Room_judgeAll 38 rfl) rfl (Nat.le_of_ble_eq_true rfl) (by decide) (Nat.le_refl _) (Nat.le_refl _) rfl rfl ?_
      refine j_aload_n (pc := 71) 0 (jd k_Room_judgeAll 39 rfl) rfl ?_
      refine j_iload_n (pc := 72) 1 (jd k_Room_judgeAll 40 rfl) rfl ?_
      refine j_iconst (pc := 73) (v := 1) (jd k_Room_judgeAll 41 rfl) (by decide) ?_
      obtain ⟨s37, h36, H⟩ := obnd H
      refine jc_V (pc := 74) (st := []) (c_Room_sumUp ad G x31 1 s35 _ h36) L0_Room_sumUp w831 w833 w18 9 rfl rfl (jd k_Room_judgeAll 42 rfl) rfl (Nat.le_of_ble_eq_true rfl) (by decide) (Nat.le_refl _) (Nat.le_refl _) rfl rfl ?_
      obtain ⟨x38, e39, H⟩ := olet H
      refine j_iinc (pc := 77) (lv' := [(0, .ref (ad 9)), (1, .int x38)]) 1 (jd k_Room_judgeAll 43 rfl) rfl e39 rfl (Nat.le_of_ble_eq_true rfl) rfl ?_
      refine j_goto (pc := 80) (tgt := 57) (jd k_Room_judgeAll 44 rfl) rfl ?_
      exact ih x38 s37 _ H kx

set_option maxRecDepth 20000 in
theorem lp_Room_judgeAll_2 {ad : Nat → Nat} {G : jG} {P : jR → va_W → Prop} : ∀ (n : Nat) (x10 : Int32) (s11 : jU) (r : Int32 × jU), L_Room_judgeAll_2 n x10 s11 = some r → J G m_Room_judgeAll 5 0 0 P 42 [(0, .ref (ad 9)), (1, .int r.1)] [] (mkC ad G r.2) 0 0 → J G m_Room_judgeAll 5 0 0 P 2 [(0, .ref (ad 9)), (1, .int x10)] [] (mkC ad G s11) 0 0 := by
  intro n
  induction n with
  | zero =>
    intro x10 s11 r H
    cases (show none = some r from H)
  | succ n ih =>
    intro x10 s11 r H kx
    have H : (
    if (s11 20 0 0) < x10 then
      some (x10, s11)
    else
      Option.bind (f_Room_isOut x10 s11) fun x14 =>
      Option.bind (α := jU) (
        if ¬ x14 = 0 then
          some s11
        else
          Option.bind (f_SR_bit x10) fun x17 =>
          jlet (ups s11 24 0 (fun _ => (s11 24 0 0) ||| x17)) fun s18 =>
          some s18) fun s20 =>
      Option.bind (f_Room_takeAnswers x10 s20) fun s24 =>
      jlet (x10 + 1) fun x25 =>
      L_Room_judgeAll_2 n x25 s24) = some r := H
    refine j_iload_n (pc := 2) 1 (jd k_Room_judgeAll 2 rfl) rfl ?_
    refine j_aload_n (pc := 3) 0 (jd k_Room_judgeAll 3 rfl) rfl ?_
    refine j_get (pc := 4) (fs := flRm ad s11) (v := .int (s11 20 0 0)) fl_Room_55_7 9 (jd k_Room_judgeAll 4 rfl) rfl rfl ?_
    refine j_icmp_gt (pc := 7) (tgt := 42) (jd k_Room_judgeAll 5 rfl) rfl (fun h12 => ?_) (fun h12 => ?_)
    · rw [if_pos h12] at H
      cases H
      exact kx
    · rw [if_neg h12] at H
      refine j_aload_n (pc := 10) 0 (jd k_Room_judgeAll 6 rfl) rfl ?_
      refine j_iload_n (pc := 11) 1 (jd k_Room_judgeAll 7 rfl) rfl ?_
      obtain ⟨x14, h13, H⟩ := obnd H
      refine jc_V (pc := 12) (st := []) (c_Room_isOut ad G x10 s11 _ h13) L0_Room_isOut w813 w815 w16 9 rfl rfl (jd k_Room_judgeAll 8 rfl) rfl (Nat.le_of_ble_eq_true rfl) (by decide) (Nat.le_refl _) (Nat.le_refl _) rfl rfl ?_
      obtain ⟨s20, h21, H⟩ := obnd H
      have K22 : J G m_Room_judgeAll 5 0 0 P 31 [(0, .ref (ad 9)), (1, .int x10)] [] (mkC ad G s20) 0 0 := by
        refine j_aload_n (pc := 31) 0 (jd k_Room_judgeAll 17 rfl) rfl ?_
        refine j_iload_n (pc := 32) 1 (jd k_Room_judgeAll 18 rfl) rfl ?_
        obtain ⟨s24, h23, H⟩ := obnd H
        refine jc_V (pc := 33) (st := []) (c_Room_takeAnswers ad G x10 s20 _ h23) L0_Room_takeAnswers w827 w829 w17 9 rfl rfl (jd k_Room_judgeAll 19 rfl) rfl (Nat.le_of_ble_eq_true rfl) (by decide) (Nat.le_refl _) (Nat.le_refl _) rfl rfl ?_
        obtain ⟨x25, e26, H⟩ := olet H
        refine j_iinc (pc := 36) (lv' := [(0, .ref (ad 9)), (1, .int x25)]) 1 (jd k_Room_judgeAll 20 rfl) rfl e26 rfl (Nat.le_of_ble_eq_true rfl) rfl ?_
        refine j_goto (pc := 39) (tgt := 2) (jd k_Room_judgeAll 21 rfl) rfl ?_
        exact ih x25 s24 _ H kx
      have H := h21
      refine j_if_ne (pc := 15) (tgt := 31) (jd k_Room_judgeAll 9 rfl) rfl (fun h15 => ?_) (fun h15 => ?_)
      · rw [if_pos h15] at H
        cases H
        exact K22
      · rw [if_neg (not_not_intro h15)] at H
        refine j_aload_n (pc := 18) 0 (jd k_Room_judgeAll 10 rfl) rfl ?_
        refine j_dup (pc := 19) (jd k_Room_judgeAll 11 rfl) rfl ?_
        refine j_get (pc := 20) (fs := flRm ad s11) (v := .int (s11 24 0 0)) fl_Room_78_7 9 (jd k_Room_judgeAll 12 rfl) rfl rfl ?_
        refine j_iload_n (pc := 23) 1 (jd k_Room_judgeAll 13 rfl) rfl ?_
        obtain ⟨x17, h16, H⟩ := obnd H
        refine jc_SN (pc := 24) (st := [.int (s11 24 0 0), .ref (ad 9)]) (c_SR_bit G _ x10 _ h16) L0_SR_bit wt413 w414 (jd k_Room_judgeAll 14 rfl) rfl (Nat.le_of_ble_eq_true rfl) (by decide) (Nat.le_refl _) (Nat.le_refl _) rfl rfl ?_
        refine j_ior (pc := 27) (jd k_Room_judgeAll 15 rfl) ?_
        obtain ⟨s18, e19, H⟩ := olet H
        refine j_put (pc := 28) (fs := flRm ad s11) (fp_Room_78_7 _) 9 (jd k_Room_judgeAll 16 rfl) rfl rfl rfl (Nat.le_of_ble_eq_true rfl) ((wrRm_11 ad G s11 _).trans (congrArg (mkC ad G) e19)) ?_
        cases H
        exact K22

set_option maxRecDepth 20000 in
theorem c_Room_judgeAll (ad : Nat → Nat) (G : jG) (s : jU) (r : jU) (H : f_Room_judgeAll s = some r) : jCon G m_Room_judgeAll y_Room_judgeAll 5 0 0 [.ref (ad 9)] (mkC ad G s) (jEq none (mkC ad G r)) := by
  refine jCon.of (by decide +kernel) rfl rfl rfl (Nat.le_of_ble_eq_true rfl) rfl ?_
  have H : (
  Option.bind (L_Room_judgeAll_2 jF 1 s) fun (x27, s28) =>
  if ¬ (s28 24 0 0) = 0 then
    Option.bind (L_Room_judgeAll_57 jF 1 s28) fun (x40, s41) =>
    some s41
  else
    jlet (ups s28 22 0 (fun _ => 3)) fun s43 =>
    some s43) = some r := H
  generalize hP9 : jEq none (mkC ad G r) = P
  refine j_iconst (pc := 0) (v := 1) (jd k_Room_judgeAll 0 rfl) (by decide) ?_
  refine j_istore_n (pc := 1) (lv' := [(0, .ref (ad 9)), (1, .int 1)]) (jd k_Room_judgeAll 1 rfl) rfl (Nat.le_of_ble_eq_true rfl) rfl ?_
  obtain ⟨⟨x27, s28⟩, h29, H⟩ := obnd H
  try dsimp only at H
  refine lp_Room_judgeAll_2  jF 1 s _ h29 ?_
  refine j_pick (lv' := [(0, .ref (ad 9))]) [0] rfl ?_
  refine j_aload_n (pc := 42) 0 (jd k_Room_judgeAll 22 rfl) rfl ?_
  refine j_get (pc := 43) (fs := flRm ad s28) (v := .int (s28 24 0 0)) fl_Room_78_7 9 (jd k_Room_judgeAll 23 rfl) rfl rfl ?_
  refine j_if_ne (pc := 46) (tgt := 55) (jd k_Room_judgeAll 24 rfl) rfl (fun h30 => ?_) (fun h30 => ?_)
  · rw [if_pos h30] at H
    refine j_iconst (pc := 55) (v := 1) (jd k_Room_judgeAll 29 rfl) (by decide) ?_
    refine j_istore_n (pc := 56) (lv' := [(0, .ref (ad 9)), (1, .int 1)]) (jd k_Room_judgeAll 30 rfl) rfl (Nat.le_of_ble_eq_true rfl) rfl ?_
    obtain ⟨⟨x40, s41⟩, h42, H⟩ := obnd H
    try dsimp only at H
    refine lp_Room_judgeAll_57  jF 1 s28 _ h42 ?_
    refine j_pick (lv' := []) [] rfl ?_
    cases H
    subst hP9
    exact j_vret (pc := 83) (jd k_Room_judgeAll 45 rfl) rfl ⟨rfl, rfl⟩
  · rw [if_neg (not_not_intro h30)] at H
    refine j_aload_n (pc := 49) 0 (jd k_Room_judgeAll 25 rfl) rfl ?_
    refine j_iconst (pc := 50) (v := 3) (jd k_Room_judgeAll 26 rfl) (by decide) ?_
    obtain ⟨s43, e44, H⟩ := olet H
    refine j_put (pc := 51) (fs := flRm ad s28) (fp_Room_72_7 _) 9 (jd k_Room_judgeAll 27 rfl) rfl rfl rfl (Nat.le_of_ble_eq_true rfl) ((wrRm_9 ad G s28 _).trans (congrArg (mkC ad G) e44)) ?_
    cases H
    subst hP9
    exact j_vret (pc := 54) (jd k_Room_judgeAll 28 rfl) rfl ⟨rfl, rfl⟩

set_option maxRecDepth 20000 in
theorem lp_Room_extract_22 {ad : Nat → Nat} {G : jG} {P : jR → va_W → Prop} (k10 : Nat) (hk10 : k10 < 7) : ∀ (n : Nat) (x16 : Int32) (s17 : jU) (r : Int32 × jU), L_Room_extract_22 k10 n x16 s17 = some r → J G m_Room_extract 2 0 0 P 109 [(0, .ref (ad 9)), (2, .ref (ad (26 + 15 * k10))), (3, .int r.1)] [] (mkC ad G r.2) 0 0 → J G m_Room_extract 2 0 0 P 22 [(0, .ref (ad 9)), (2, .ref (ad (26 + 15 * k10))), (3, .int x16)] [] (mkC ad G s17) 0 0 := by
  intro n
  induction n with
  | zero =>
    intro x16 s17 r H
    cases (show none = some r from H)
  | succ n ih =>
    intro x16 s17 r H kx
    have H : (
    if (s17 21 0 0) ≤ x16 then
      some (x16, s17)
    else
      if jin x16 7 then
      jlet (s17 0 k10 x16.toNatClampNeg) fun x20 =>
      Option.bind (α := Int32) (
        if ¬ x16 = 0 then
          some x20
        else
          Option.bind (f_Party_has k10 5 s17) fun x23 =>
          if x23 = 0 then
            some x20
          else
            Option.bind (F_plus (fnum (s17 53 0 0)) x20 1) fun x26 =>
            some x26) fun x27 =>
      Option.bind (f_Group_power (gnum (s17 50 0 0)) (ggen (gnum (s17 50 0 0))) x27) fun x31 =>
      if jin x16 7 then
      jlet (ups s17 4 k10 (upd (s17 4 k10) x16.toNatClampNeg x31)) fun s32 =>
      if jin x16 7 then
      Option.bind (f_Board_writePair (s32 4 k10 x16.toNatClampNeg) s32) fun s37 =>
      jlet (x16 + 1) fun x38 =>
      L_Room_extract_22 k10 n x38 s37
      else none
      else none
      else none) = some r := H
    refine j_iload_n (pc := 22) 2 (jd k_Room_extract 14 rfl) rfl ?_
    refine j_aload_n (pc := 23) 0 (jd k_Room_extract 15 rfl) rfl ?_
    refine j_get (pc := 24) (fs := flRm ad s17) (v := .int (s17 21 0 0)) fl_Room_59_7 9 (jd k_Room_extract 16 rfl) rfl rfl ?_
    refine j_icmp_ge (pc := 27) (tgt := 109) (jd k_Room_extract 17 rfl) rfl (fun h18 => ?_) (fun h18 => ?_)
    · rw [if_pos h18] at H
      cases H
      exact kx
    · rw [if_neg h18] at H
      refine j_aload_n (pc := 30) 1 (jd k_Room_extract 18 rfl) rfl ?_
      refine j_get (pc := 31) (fs := flPy ad s17 k10) (v := .ref (ad (27 + 15 * k10))) fl_Room_101_4 (26 + 15 * k10) (jd k_Room_extract 19 rfl) (lkPy ad G s17 hk10) rfl ?_
      refine j_iconst (pc := 34) (v := 0) (jd k_Room_extract 20 rfl) (by decide) ?_
      refine j_aald (pc := 35) (t0 := 6) (v := ad (28 + 15 * k10 + 0)) (27 + 15 * k10) (jd k_Room_extract 21 rfl) (lkAA_1 ad G s17 hk10) rfl rfl (jidx.vp jidx0) (jidx.row jidx0 ad (jrow15 _ _)) ?_
      refine j_iload_n (pc := 36) 2 (jd k_Room_extract 22 rfl) rfl ?_
      obtain ⟨h19, H⟩ := ochk H
      refine j_iald (pc := 37) (f := s17 0 k10) (28 + 15 * k10 + 0) (jd k_Room_extract 23 rfl) (lkR_1 ad G s17 hk10 (w := 0) jlt0) (jin.vp h19) ?_
      obtain ⟨x20, e40, H⟩ := olet H
      refine j_topi e40 ?_
      refine j_istore (pc := 38) (lv' := [(0, .ref (ad 9)), (2, .ref (ad (26 + 15 * k10))), (3, .int x16), (4, .int x20)]) (jd k_Room_extract 24 rfl) rfl (Nat.le_of_ble_eq_true rfl) rfl ?_
      refine j_iload_n (pc := 40) 2 (jd k_Room_extract 25 rfl) rfl ?_
      obtain ⟨x27, h28, H⟩ := obnd H
      have K29 : J G m_Room_extract 2 0 0 P 64 [(0, .ref (ad 9)), (2, .ref (ad (26 + 15 * k10))), (3, .int x16), (4, .int x27)] [] (mkC ad G s17) 0 0 := by
        refine j_aload_n (pc := 64) 1 (jd k_Room_extract 37 rfl) rfl ?_
        refine j_get (pc := 65) (fs := flPy ad s17 k10) (v := .ref (ad (31 + 15 * k10))) fl_Room_138_4 (26 + 15 * k10) (jd k_Room_extract 38 rfl) (lkPy ad G s17 hk10) rfl ?_
        refine j_iconst (pc := 68) (v := 1) (jd k_Room_extract 39 rfl) (by decide) ?_
        refine j_aald (pc := 69) (t0 := 6) (v := ad (32 + 15 * k10 + 1)) (31 + 15 * k10) (jd k_Room_extract 40 rfl) (lkAA_5 ad G s17 hk10) rfl rfl (jidx.vp jidx1) (jidx.row jidx1 ad (jrow15 _ _)) ?_
        refine j_iload_n (pc := 70) 2 (jd k_Room_extract 41 rfl) rfl ?_
        refine j_aload_n (pc := 71) 0 (jd k_Room_extract 42 rfl) rfl ?_
        refine j_get (pc := 72) (fs := flRm ad s17) (v := .ref (ad (11 + (gnum (s17 50 0 0))))) fl_Room_34_7 9 (jd k_Room_extract 43 rfl) rfl rfl ?_
        refine j_aload_n (pc := 75) 0 (jd k_Room_extract 44 rfl) rfl ?_
        refine j_get (pc := 76) (fs := flRm ad s17) (v := .ref (ad (11 + (gnum (s17 50 0 0))))) fl_Room_34_7 9 (jd k_Room_extract 45 rfl) rfl rfl ?_
        refine g_gen (pc := 79) fl_Room_237_9 fl_Room_237_3 (g := gnum (s17 50 0 0)) (gnum_lt _) (jd k_Room_extract 46 rfl) ?_
        refine j_iload (pc := 82) 3 (jd k_Room_extract 47 rfl) rfl ?_
        obtain ⟨x31, h30, H⟩ := obnd H
        refine vG_power (pc := 84) (st := [.int x16, .ref (ad (32 + 15 * k10 + 1))]) (gnum (s17 50 0 0)) (gnum_lt _) (ggen (gnum (s17 50 0 0))) x27 s17 _ h30 w847 (jd k_Room_extract 48 rfl) (Nat.le_of_ble_eq_true rfl) (by decide) (Nat.le_refl _) (Nat.le_refl _) ?_
        obtain ⟨h34, H⟩ := ochk H
        obtain ⟨s32, e33, H⟩ := olet H
        refine j_iast (pc := 87) (f := s17 4 k10) (32 + 15 * k10 + 1) (jd k_Room_extract 49 rfl) (lkR_5 ad G s17 hk10 (w := 1) jlt1) (jin.vp h34) ((wrR_5 ad G s17 hk10 (w := 1) jlt1 _).trans (congrArg (mkC ad G) e33)) ?_
        refine j_aload_n (pc := 88) 0 (jd k_Room_extract 50 rfl) rfl ?_
        refine j_get (pc := 89) (fs := flRm ad s32) (v := .ref (ad 15)) fl_Room_20_7 9 (jd k_Room_extract 51 rfl) rfl rfl ?_
        refine j_aload_n (pc := 92) 1 (jd k_Room_extract 52 rfl) rfl ?_
        refine j_get (pc := 93) (fs := flPy ad s32 k10) (v := .ref (ad (31 + 15 * k10))) fl_Room_138_4 (26 + 15 * k10) (jd k_Room_extract 53 rfl) (lkPy ad G s32 hk10) rfl ?_
        refine j_iconst (pc := 96) (v := 1) (jd k_Room_extract 54 rfl) (by decide) ?_
        refine j_aald (pc := 97) (t0 := 6) (v := ad (32 + 15 * k10 + 1)) (31 + 15 * k10) (jd k_Room_extract 55 rfl) (lkAA_5 ad G s32 hk10) rfl rfl (jidx.vp jidx1) (jidx.row jidx1 ad (jrow15 _ _)) ?_
        refine j_iload_n (pc := 98) 2 (jd k_Room_extract 56 rfl) rfl ?_
        obtain ⟨h35, H⟩ := ochk H
        refine j_iald (pc := 99) (f := s32 4 k10) (32 + 15 * k10 + 1) (jd k_Room_extract 57 rfl) (lkR_5 ad G s32 hk10 (w := 1) jlt1) (jin.vp h35) ?_
        obtain ⟨s37, h36, H⟩ := obnd H
        refine jc_V (pc := 100) (st := []) (c_Board_writePair ad G (s32 4 k10 x16.toNatClampNeg) s32 _ h36) L0_Board_writePair w757 w758 w759 15 rfl rfl (jd k_Room_extract 58 rfl) rfl (Nat.le_of_ble_eq_true rfl) (by decide) (Nat.le_refl _) (Nat.le_refl _) rfl rfl ?_
        obtain ⟨x38, e39, H⟩ := olet H
        refine j_iinc (pc := 103) (lv' := [(0, .ref (ad 9)), (2, .ref (ad (26 + 15 * k10))), (3, .int x38), (4, .int x27)]) 2 (jd k_Room_extract 59 rfl) rfl e39 rfl (Nat.le_of_ble_eq_true rfl) rfl ?_
        refine j_goto (pc := 106) (tgt := 22) (jd k_Room_extract 60 rfl) rfl ?_
        refine j_pick (lv' := [(0, .ref (ad 9)), (2, .ref (ad (26 + 15 * k10))), (3, .int x38)]) [0, 1, 2] rfl ?_
        exact ih x38 s37 _ H kx
      have H := h28
      refine j_if_ne (pc := 41) (tgt := 64) (jd k_Room_extract 26 rfl) rfl (fun h21 => ?_) (fun h21 => ?_)
      · rw [if_pos h21] at H
        cases H
        exact K29
      · rw [if_neg (not_not_intro h21)] at H
        refine j_aload_n (pc := 44) 1 (jd k_Room_extract 27 rfl) rfl ?_
        refine j_iconst (pc := 45) (v := 5) (jd k_Room_extract 28 rfl) (by decide) ?_
        obtain ⟨x23, h22, H⟩ := obnd H
        refine jc_V (pc := 46) (st := []) (c_Party_has ad G k10 hk10 5 s17 _ h22) L0_Party_has w720 w721 w722 (26 + 15 * k10) (lkPy ad G s17 hk10) rfl (jd k_Room_extract 29 rfl) rfl (Nat.le_of_ble_eq_true rfl) (by decide) (Nat.le_refl _) (Nat.le_refl _) rfl rfl ?_
        refine j_if_eq (pc := 49) (tgt := 64) (jd k_Room_extract 30 rfl) rfl (fun h24 => ?_) (fun h24 => ?_)
        · rw [if_pos h24] at H
          cases H
          exact K29
        · rw [if_neg h24] at H
          refine j_aload_n (pc := 52) 0 (jd k_Room_extract 31 rfl) rfl ?_
          refine j_get (pc := 53) (fs := flRm ad s17) (v := .ref (ad (2 + (fnum (s17 53 0 0))))) fl_Room_42_7 9 (jd k_Room_extract 32 rfl) rfl rfl ?_
          refine j_iload (pc := 56) 3 (jd k_Room_extract 33 rfl) rfl ?_
          refine j_iconst (pc := 58) (v := 1) (jd k_Room_extract 34 rfl) (by decide) ?_
          obtain ⟨x26, h25, H⟩ := obnd H
          refine vF_plus (pc := 59) (st := []) (fnum (s17 53 0 0)) (fnum_lt _) x20 1 s17 _ h25 w772 (jd k_Room_extract 35 rfl) (Nat.le_of_ble_eq_true rfl) (by decide) (Nat.le_refl _) (Nat.le_refl _) ?_
          refine j_istore (pc := 62) (lv' := [(0, .ref (ad 9)), (2, .ref (ad (26 + 15 * k10))), (3, .int x16), (4, .int x26)]) (jd k_Room_extract 36 rfl) rfl (Nat.le_of_ble_eq_true rfl) rfl ?_
          cases H
          exact K29

set_option maxRecDepth 20000 in
theorem c_Room_extract (ad : Nat → Nat) (G : jG) (p0 : Int32) (s : jU) (r : jU) (H : f_Room_extract p0 s = some r) : jCon G m_Room_extract y_Room_extract 2 0 0 [.ref (ad 9), .int p0] (mkC ad G s) (jEq none (mkC ad G r)) := by
  refine jCon.of (by decide +kernel) rfl rfl rfl (Nat.le_of_ble_eq_true rfl) rfl ?_
  have H : (
  Option.bind (jidx (p0 - 1) 7) fun k10 =>
  jlet (ups s 13 k10 (fun _ => 1)) fun s12 =>
  Option.bind (f_Board_write 5 p0 s12) fun s15 =>
  Option.bind (L_Room_extract_22 k10 jF 0 s15) fun (x41, s42) =>
  some s42) = some r := H
  generalize hP9 : jEq none (mkC ad G r) = P
  refine j_aload_n (pc := 0) 0 (jd k_Room_extract 0 rfl) rfl ?_
  refine j_iload_n (pc := 1) 1 (jd k_Room_extract 1 rfl) rfl ?_
  obtain ⟨k10, h11, H⟩ := obnd H
  have hk10 : k10 < 7 := jidx.lt h11
  refine jc_V (pc := 2) (st := []) (c_Room_party ad G p0 s k10 h11) L0_Room_party w401 w403 w1 9 rfl rfl (jd k_Room_extract 2 rfl) rfl (Nat.le_of_ble_eq_true rfl) (by decide) (Nat.le_refl _) (Nat.le_refl _) rfl rfl ?_
  refine j_astore_n (pc := 5) (lv' := [(0, .ref (ad 9)), (1, .int p0), (2, .ref (ad (26 + 15 * k10)))]) (jd k_Room_extract 3 rfl) rfl (Nat.le_of_ble_eq_true rfl) rfl ?_
  refine j_aload_n (pc := 6) 2 (jd k_Room_extract 4 rfl) rfl ?_
  refine j_iconst (pc := 7) (v := 1) (jd k_Room_extract 5 rfl) (by decide) ?_
  obtain ⟨s12, e13, H⟩ := olet H
  refine j_put (pc := 8) (fs := flPy ad s k10) (fp_Room_234_4 _) (26 + 15 * k10) (jd k_Room_extract 6 rfl) (lkPy ad G s hk10) rfl rfl (Nat.le_of_ble_eq_true rfl) ((wrPy_9 ad G s hk10 _).trans (congrArg (mkC ad G) e13)) ?_
  refine j_aload_n (pc := 11) 0 (jd k_Room_extract 7 rfl) rfl ?_
  refine j_get (pc := 12) (fs := flRm ad s12) (v := .ref (ad 15)) fl_Room_20_7 9 (jd k_Room_extract 8 rfl) rfl rfl ?_
  refine j_iconst (pc := 15) (v := 5) (jd k_Room_extract 9 rfl) (by decide) ?_
  refine j_iload_n (pc := 16) 1 (jd k_Room_extract 10 rfl) rfl ?_
  obtain ⟨s15, h14, H⟩ := obnd H
  refine jc_V (pc := 17) (st := []) (c_Board_write ad G 5 p0 s12 _ h14) L0_Board_write w728 w729 w730 15 rfl rfl (jd k_Room_extract 11 rfl) rfl (Nat.le_of_ble_eq_true rfl) (by decide) (Nat.le_refl _) (Nat.le_refl _) rfl rfl ?_
  refine j_iconst (pc := 20) (v := 0) (jd k_Room_extract 12 rfl) (by decide) ?_
  refine j_istore_n (pc := 21) (lv' := [(0, .ref (ad 9)), (1, .int p0), (2, .ref (ad (26 + 15 * k10))), (3, .int 0)]) (jd k_Room_extract 13 rfl) rfl (Nat.le_of_ble_eq_true rfl) rfl ?_
  obtain ⟨⟨x41, s42⟩, h43, H⟩ := obnd H
  try dsimp only at H
  refine j_pick (lv' := [(0, .ref (ad 9)), (2, .ref (ad (26 + 15 * k10))), (3, .int 0)]) [0, 2, 3] rfl ?_
  refine lp_Room_extract_22 k10 hk10 jF 0 s15 _ h43 ?_
  refine j_pick (lv' := []) [] rfl ?_
  cases H
  subst hP9
  exact j_vret (pc := 109) (jd k_Room_extract 61 rfl) rfl ⟨rfl, rfl⟩

set_option maxRecDepth 20000 in
theorem lp_Room_extractAll_2 {ad : Nat → Nat} {G : jG} {P : jR → va_W → Prop} : ∀ (n : Nat) (x10 : Int32) (s11 : jU) (r : Int32 × jU), L_Room_extractAll_2 n x10 s11 = some r → J G m_Room_extractAll 3 0 0 P 41 [(0, .ref (ad 9)), (1, .int r.1)] [] (mkC ad G r.2) 0 0 → J G m_Room_extractAll 3 0 0 P 2 [(0, .ref (ad 9)), (1, .int x10)] [] (mkC ad G s11) 0 0 := by
  intro n
  induction n with
  | zero =>
    intro x10 s11 r H
    cases (show none = some r from H)
  | succ n ih =>
    intro x10 s11 r H kx
    have H : (
    if (s11 20 0 0) < x10 then
      some (x10, s11)
    else
      Option.bind (f_Room_isQualified x10 s11) fun x14 =>
      Option.bind (α := jU) (
        if x14 = 0 then
          some s11
        else
          Option.bind (jidx (x10 - 1) 7) fun k16 =>
          Option.bind (f_Party_worksIn k16 5 s11) fun x19 =>
          if x19 = 0 then
            some s11
          else
            Option.bind (f_Room_extract x10 s11) fun s22 =>
            some s22) fun s23 =>
      jlet (x10 + 1) fun x26 =>
      L_Room_extractAll_2 n x26 s23) = some r := H
    refine j_iload_n (pc := 2) 1 (jd k_Room_extractAll 2 rfl) rfl ?_
    refine j_aload_n (pc := 3) 0 (jd k_Room_extractAll 3 rfl) rfl ?_
    refine j_get (pc := 4) (fs := flRm ad s11) (v := .int (s11 20 0 0)) fl_Room_55_7 9 (jd k_Room_extractAll 4 rfl) rfl rfl ?_
    refine j_icmp_gt (pc := 7) (tgt := 41) (jd k_Room_extractAll 5 rfl) rfl (fun h12 => ?_) (fun h12 => ?_)
    · rw [if_pos h12] at H
      cases H
      exact kx
    · rw [if_neg h12] at H
      refine j_aload_n (pc := 10) 0 (jd k_Room_extractAll 6 rfl) rfl ?_
      refine j_iload_n (pc := 11) 1 (jd k_Room_extractAll 7 rfl) rfl ?_
      obtain ⟨x14, h13, H⟩ := obnd H
      refine jc_V (pc := 12) (st := []) (c_Room_isQualified ad G x10 s11 _ h13) L0_Room_isQualified w835 w837 w19 9 rfl rfl (jd k_Room_extractAll 8 rfl) rfl (Nat.le_of_ble_eq_true rfl) (by decide) (Nat.le_refl _) (Nat.le_refl _) rfl rfl ?_
      obtain ⟨s23, h24, H⟩ := obnd H
      have K25 : J G m_Room_extractAll 3 0 0 P 35 [(0, .ref (ad 9)), (1, .int x10)] [] (mkC ad G s23) 0 0 := by
        obtain ⟨x26, e27, H⟩ := olet H
        refine j_iinc (pc := 35) (lv' := [(0, .ref (ad 9)), (1, .int x26)]) 1 (jd k_Room_extractAll 19 rfl) rfl e27 rfl (Nat.le_of_ble_eq_true rfl) rfl ?_
        refine j_goto (pc := 38) (tgt := 2) (jd k_Room_extractAll 20 rfl) rfl ?_
        exact ih x26 s23 _ H kx
      have H := h24
      refine j_if_eq (pc := 15) (tgt := 35) (jd k_Room_extractAll 9 rfl) rfl (fun h15 => ?_) (fun h15 => ?_)
      · rw [if_pos h15] at H
        cases H
        exact K25
      · rw [if_neg h15] at H
        refine j_aload_n (pc := 18) 0 (jd k_Room_extractAll 10 rfl) rfl ?_
        refine j_iload_n (pc := 19) 1 (jd k_Room_extractAll 11 rfl) rfl ?_
        obtain ⟨k16, h17, H⟩ := obnd H
        have hk16 : k16 < 7 := jidx.lt h17
        refine jc_V (pc := 20) (st := []) (c_Room_party ad G x10 s11 k16 h17) L0_Room_party w401 w403 w1 9 rfl rfl (jd k_Room_extractAll 12 rfl) rfl (Nat.le_of_ble_eq_true rfl) (by decide) (Nat.le_refl _) (Nat.le_refl _) rfl rfl ?_
        refine j_iconst (pc := 23) (v := 5) (jd k_Room_extractAll 13 rfl) (by decide) ?_
        obtain ⟨x19, h18, H⟩ := obnd H
        refine jc_V (pc := 24) (st := []) (c_Party_worksIn ad G k16 hk16 5 s11 _ h18) L0_Party_worksIn w405 w406 w407 (26 + 15 * k16) (lkPy ad G s11 hk16) rfl (jd k_Room_extractAll 14 rfl) rfl (Nat.le_of_ble_eq_true rfl) (by decide) (Nat.le_refl _) (Nat.le_refl _) rfl rfl ?_
        refine j_if_eq (pc := 27) (tgt := 35) (jd k_Room_extractAll 15 rfl) rfl (fun h20 => ?_) (fun h20 => ?_)
        · rw [if_pos h20] at H
          cases H
          exact K25
        · rw [if_neg h20] at H
          refine j_aload_n (pc := 30) 0 (jd k_Room_extractAll 16 rfl) rfl ?_
          refine j_iload_n (pc := 31) 1 (jd k_Room_extractAll 17 rfl) rfl ?_
          obtain ⟨s22, h21, H⟩ := obnd H
          refine jc_V (pc := 32) (st := []) (c_Room_extract ad G x10 s11 _ h21) L0_Room_extract w843 w845 w21 9 rfl rfl (jd k_Room_extractAll 18 rfl) rfl (Nat.le_of_ble_eq_true rfl) (by decide) (Nat.le_refl _) (Nat.le_refl _) rfl rfl ?_
          cases H
          exact K25

set_option maxRecDepth 20000 in
theorem c_Room_extractAll (ad : Nat → Nat) (G : jG) (s : jU) (r : jU) (H : f_Room_extractAll s = some r) : jCon G m_Room_extractAll y_Room_extractAll 3 0 0 [.ref (ad 9)] (mkC ad G s) (jEq none (mkC ad G r)) := by
  refine jCon.of (by decide +kernel) rfl rfl rfl (Nat.le_of_ble_eq_true rfl) rfl ?_
  have H : (
  Option.bind (L_Room_extractAll_2 jF 1 s) fun (x28, s29) =>
  some s29) = some r := H
  generalize hP9 : jEq none (mkC ad G r) = P
  refine j_iconst (pc := 0) (v := 1) (jd k_Room_extractAll 0 rfl) (by decide) ?_
  refine j_istore_n (pc := 1) (lv' := [(0, .ref (ad 9)), (1, .int 1)]) (jd k_Room_extractAll 1 rfl) rfl (Nat.le_of_ble_eq_true rfl) rfl ?_
  obtain ⟨⟨x28, s29⟩, h30, H⟩ := obnd H
  try dsimp only at H
  refine lp_Room_extractAll_2  jF 1 s _ h30 ?_
  refine j_pick (lv' := []) [] rfl ?_
  cases H
  subst hP9
  exact j_vret (pc := 41) (jd k_Room_extractAll 21 rfl) rfl ⟨rfl, rfl⟩

set_option maxRecDepth 20000 in
theorem lp_Room_accuse_2 {ad : Nat → Nat} {G : jG} {P : jR → va_W → Prop} (p0 : Int32) : ∀ (n : Nat) (x10 : Int32) (s11 : jU) (r : Int32 × jU), L_Room_accuse_2 p0 n x10 s11 = some r → J G m_Room_accuse 4 0 0 P 152 [(0, .ref (ad 9)), (1, .int p0), (2, .int r.1)] [] (mkC ad G r.2) 0 0 → J G m_Room_accuse 4 0 0 P 2 [(0, .ref (ad 9)), (1, .int p0), (2, .int x10)] [] (mkC ad G s11) 0 0 := by
  intro n
  induction n with
  | zero =>
    intro x10 s11 r H
    cases (show none = some r from H)
  | succ n ih =>
    intro x10 s11 r H kx
    have H : (
    if (s11 20 0 0) < x10 then
      some (x10, s11)
    else
      Option.bind (f_Room_isQualified x10 s11) fun x14 =>
      Option.bind (α := jU) (
        if x14 = 0 then
          some s11
        else
          Option.bind (jidx (x10 - 1) 7) fun k16 =>
          if ¬ (s11 13 k16 0) = 0 then
            Option.bind (jidx (p0 - 1) 7) fun k19 =>
            if jin x10 8 then
            jlet (s11 5 k19 x10.toNatClampNeg) fun x22 =>
            Option.bind (jidx (p0 - 1) 7) fun k23 =>
            if jin x10 8 then
            jlet (s11 6 k23 x10.toNatClampNeg) fun x26 =>
            Option.bind (jidx (x10 - 1) 7) fun k27 =>
            Option.bind (f_Group_polynomialInExponents (gnum (s11 50 0 0)) 7 (s11 4 k27) (s11 21 0 0) p0) fun x30 =>
            Option.bind (f_Group_power (gnum (s11 50 0 0)) (ggen (gnum (s11 50 0 0))) x22) fun x32 =>
            if x32 = x30 then
              some s11
            else
              Option.bind (f_Room_fits x10 p0 x22 x26 s11) fun x35 =>
              if x35 = 0 then
                some s11
              else
                Option.bind (f_SR_bit x10) fun x38 =>
                jlet (ups s11 25 0 (fun _ => (s11 25 0 0) ||| x38)) fun s39 =>
                Option.bind (f_Board_write 6 p0 s39) fun s42 =>
                Option.bind (f_Room_writeNumbers x10 x22 x26 s42) fun s44 =>
                some s44
            else none
            else none
          else
            some s11) fun s47 =>
      jlet (x10 + 1) fun x50 =>
      L_Room_accuse_2 p0 n x50 s47) = some r := H
    refine j_iload_n (pc := 2) 2 (jd k_Room_accuse 2 rfl) rfl ?_
    refine j_aload_n (pc := 3) 0 (jd k_Room_accuse 3 rfl) rfl ?_
    refine j_get (pc := 4) (fs := flRm ad s11) (v := .int (s11 20 0 0)) fl_Room_55_7 9 (jd k_Room_accuse 4 rfl) rfl rfl ?_
    refine j_icmp_gt (pc := 7) (tgt := 152) (jd k_Room_accuse 5 rfl) rfl (fun h12 => ?_) (fun h12 => ?_)
    · rw [if_pos h12] at H
      cases H
      exact kx
    · rw [if_neg h12] at H
      refine j_aload_n (pc := 10) 0 (jd k_Room_accuse 6 rfl) rfl ?_
      refine j_iload_n (pc := 11) 2 (jd k_Room_accuse 7 rfl) rfl ?_
      obtain ⟨x14, h13, H⟩ := obnd H
      refine jc_V (pc := 12) (st := []) (c_Room_isQualified ad G x10 s11 _ h13) L0_Room_isQualified w835 w837 w19 9 rfl rfl (jd k_Room_accuse 8 rfl) rfl (Nat.le_of_ble_eq_true rfl) (by decide) (Nat.le_refl _) (Nat.le_refl _) rfl rfl ?_
      obtain ⟨s47, h48, H⟩ := obnd H
      have K49 : J G m_Room_accuse 4 0 0 P 146 [(0, .ref (ad 9)), (1, .int p0), (2, .int x10)] [] (mkC ad G s47) 0 0 := by
        obtain ⟨x50, e51, H⟩ := olet H
        refine j_iinc (pc := 146) (lv' := [(0, .ref (ad 9)), (1, .int p0), (2, .int x50)]) 2 (jd k_Room_accuse 80 rfl) rfl e51 rfl (Nat.le_of_ble_eq_true rfl) rfl ?_
        refine j_goto (pc := 149) (tgt := 2) (jd k_Room_accuse 81 rfl) rfl ?_
        exact ih x50 s47 _ H kx
      have H := h48
      refine j_if_eq (pc := 15) (tgt := 146) (jd k_Room_accuse 9 rfl) rfl (fun h15 => ?_) (fun h15 => ?_)
      · rw [if_pos h15] at H
        cases H
        exact K49
      · rw [if_neg h15] at H
        refine j_aload_n (pc := 18) 0 (jd k_Room_accuse 10 rfl) rfl ?_
        refine j_iload_n (pc := 19) 2 (jd k_Room_accuse 11 rfl) rfl ?_
        obtain ⟨k16, h17, H⟩ := obnd H
        have hk16 : k16 < 7 := jidx.lt h17
        refine jc_V (pc := 20) (st := []) (c_Room_party ad G x10 s11 k16 h17) L0_Room_party w401 w403 w1 9 rfl rfl (jd k_Room_accuse 12 rfl) rfl (Nat.le_of_ble_eq_true rfl) (by decide) (Nat.le_refl _) (Nat.le_refl _) rfl rfl ?_
        refine j_get (pc := 23) (fs := flPy ad s11 k16) (v := .int (s11 13 k16 0)) fl_Room_234_4 (26 + 15 * k16) (jd k_Room_accuse 13 rfl) (lkPy ad G s11 hk16) rfl ?_
        refine j_if_ne (pc := 26) (tgt := 32) (jd k_Room_accuse 14 rfl) rfl (fun h18 => ?_) (fun h18 => ?_)
        · rw [if_pos h18] at H
          refine j_aload_n (pc := 32) 0 (jd k_Room_accuse 16 rfl) rfl ?_
          refine j_iload_n (pc := 33) 1 (jd k_Room_accuse 17 rfl) rfl ?_
          obtain ⟨k19, h20, H⟩ := obnd H
          have hk19 : k19 < 7 := jidx.lt h20
          refine jc_V (pc := 34) (st := []) (c_Room_party ad G p0 s11 k19 h20) L0_Room_party w401 w403 w1 9 rfl rfl (jd k_Room_accuse 18 rfl) rfl (Nat.le_of_ble_eq_true rfl) (by decide) (Nat.le_refl _) (Nat.le_refl _) rfl rfl ?_
          refine j_get (pc := 37) (fs := flPy ad s11 k19) (v := .ref (ad (34 + 15 * k19))) fl_Room_136_4 (26 + 15 * k19) (jd k_Room_accuse 19 rfl) (lkPy ad G s11 hk19) rfl ?_
          refine j_iconst (pc := 40) (v := 0) (jd k_Room_accuse 20 rfl) (by decide) ?_
          refine j_aald (pc := 41) (t0 := 6) (v := ad (35 + 15 * k19 + 0)) (34 + 15 * k19) (jd k_Room_accuse 21 rfl) (lkAA_8 ad G s11 hk19) rfl rfl (jidx.vp jidx0) (jidx.row jidx0 ad (jrow15 _ _)) ?_
          refine j_iload_n (pc := 42) 2 (jd k_Room_accuse 22 rfl) rfl ?_
          obtain ⟨h21, H⟩ := ochk H
          refine j_iald (pc := 43) (f := s11 5 k19) (35 + 15 * k19 + 0) (jd k_Room_accuse 23 rfl) (lkR_8 ad G s11 hk19 (w := 0) jlt0) (jin.vp h21) ?_
          obtain ⟨x22, e46, H⟩ := olet H
          refine j_topi e46 ?_
          refine j_istore_n (pc := 44) (lv' := [(0, .ref (ad 9)), (1, .int p0), (2, .int x10), (3, .int x22)]) (jd k_Room_accuse 24 rfl) rfl (Nat.le_of_ble_eq_true rfl) rfl ?_
          refine j_aload_n (pc := 45) 0 (jd k_Room_accuse 25 rfl) rfl ?_
          refine j_iload_n (pc := 46) 1 (jd k_Room_accuse 26 rfl) rfl ?_
          obtain ⟨k23, h24, H⟩ := obnd H
          have hk23 : k23 < 7 := jidx.lt h24
          refine jc_V (pc := 47) (st := []) (c_Room_party ad G p0 s11 k23 h24) L0_Room_party w401 w403 w1 9 rfl rfl (jd k_Room_accuse 27 rfl) rfl (Nat.le_of_ble_eq_true rfl) (by decide) (Nat.le_refl _) (Nat.le_refl _) rfl rfl ?_
          refine j_get (pc := 50) (fs := flPy ad s11 k23) (v := .ref (ad (34 + 15 * k23))) fl_Room_136_4 (26 + 15 * k23) (jd k_Room_accuse 28 rfl) (lkPy ad G s11 hk23) rfl ?_
          refine j_iconst (pc := 53) (v := 1) (jd k_Room_accuse 29 rfl) (by decide) ?_
          refine j_aald (pc := 54) (t0 := 6) (v := ad (35 + 15 * k23 + 1)) (34 + 15 * k23) (jd k_Room_accuse 30 rfl) (lkAA_8 ad G s11 hk23) rfl rfl (jidx.vp jidx1) (jidx.row jidx1 ad (jrow15 _ _)) ?_
          refine j_iload_n (pc := 55) 2 (jd k_Room_accuse 31 rfl) rfl ?_
          obtain ⟨h25, H⟩ := ochk H
          refine j_iald (pc := 56) (f := s11 6 k23) (35 + 15 * k23 + 1) (jd k_Room_accuse 32 rfl) (lkR_8 ad G s11 hk23 (w := 1) jlt1) (jin.vp h25) ?_
          obtain ⟨x26, e45, H⟩ := olet H
          refine j_topi e45 ?_
          refine j_istore (pc := 57) (lv' := [(0, .ref (ad 9)), (1, .int p0), (2, .int x10), (3, .int x22), (4, .int x26)]) (jd k_Room_accuse 33 rfl) rfl (Nat.le_of_ble_eq_true rfl) rfl ?_
          refine j_aload_n (pc := 59) 0 (jd k_Room_accuse 34 rfl) rfl ?_
          refine j_get (pc := 60) (fs := flRm ad s11) (v := .ref (ad (11 + (gnum (s11 50 0 0))))) fl_Room_34_7 9 (jd k_Room_accuse 35 rfl) rfl rfl ?_
          refine j_aload_n (pc := 63) 0 (jd k_Room_accuse 36 rfl) rfl ?_
          refine j_iload_n (pc := 64) 2 (jd k_Room_accuse 37 rfl) rfl ?_
          obtain ⟨k27, h28, H⟩ := obnd H
          have hk27 : k27 < 7 := jidx.lt h28
          refine jc_V (pc := 65) (st := [.ref (ad (11 + (gnum (s11 50 0 0))))]) (c_Room_party ad G x10 s11 k27 h28) L0_Room_party w401 w403 w1 9 rfl rfl (jd k_Room_accuse 38 rfl) rfl (Nat.le_of_ble_eq_true rfl) (by decide) (Nat.le_refl _) (Nat.le_refl _) rfl rfl ?_
          refine j_get (pc := 68) (fs := flPy ad s11 k27) (v := .ref (ad (31 + 15 * k27))) fl_Room_138_4 (26 + 15 * k27) (jd k_Room_accuse 39 rfl) (lkPy ad G s11 hk27) rfl ?_
          refine j_iconst (pc := 71) (v := 1) (jd k_Room_accuse 40 rfl) (by decide) ?_
          refine j_aald (pc := 72) (t0 := 6) (v := ad (32 + 15 * k27 + 1)) (31 + 15 * k27) (jd k_Room_accuse 41 rfl) (lkAA_5 ad G s11 hk27) rfl rfl (jidx.vp jidx1) (jidx.row jidx1 ad (jrow15 _ _)) ?_
          refine j_aload_n (pc := 73) 0 (jd k_Room_accuse 42 rfl) rfl ?_
          refine j_get (pc := 74) (fs := flRm ad s11) (v := .int (s11 21 0 0)) fl_Room_59_7 9 (jd k_Room_accuse 43 rfl) rfl rfl ?_
          refine j_iload_n (pc := 77) 1 (jd k_Room_accuse 44 rfl) rfl ?_
          obtain ⟨x30, h29, H⟩ := obnd H
          refine vG_polynomialInExponents (pc := 78) (st := []) (gnum (s11 50 0 0)) (gnum_lt _) 7 (s11 4 k27) (32 + 15 * k27 + 1) (ad (32 + 15 * k27 + 1)) (lkR_5 ad G s11 hk27 (w := 1) jlt1) (s11 21 0 0) p0 s11 _ h29 w785 (jd k_Room_accuse 45 rfl) (Nat.le_of_ble_eq_true rfl) (by decide) (Nat.le_refl _) (Nat.le_refl _) ?_
          refine j_istore (pc := 81) (lv' := [(0, .ref (ad 9)), (1, .int p0), (2, .int x10), (3, .int x22), (4, .int x26), (5, .int x30)]) (jd k_Room_accuse 46 rfl) rfl (Nat.le_of_ble_eq_true rfl) rfl ?_
          refine j_aload_n (pc := 83) 0 (jd k_Room_accuse 47 rfl) rfl ?_
          refine j_get (pc := 84) (fs := flRm ad s11) (v := .ref (ad (11 + (gnum (s11 50 0 0))))) fl_Room_34_7 9 (jd k_Room_accuse 48 rfl) rfl rfl ?_
          refine j_aload_n (pc := 87) 0 (jd k_Room_accuse 49 rfl) rfl ?_
          refine j_get (pc := 88) (fs := flRm ad s11) (v := .ref (ad (11 + (gnum (s11 50 0 0))))) fl_Room_34_7 9 (jd k_Room_accuse 50 rfl) rfl rfl ?_
          refine g_gen (pc := 91) fl_Room_237_9 fl_Room_237_3 (g := gnum (s11 50 0 0)) (gnum_lt _) (jd k_Room_accuse 51 rfl) ?_
          refine j_iload_n (pc := 94) 3 (jd k_Room_accuse 52 rfl) rfl ?_
          obtain ⟨x32, h31, H⟩ := obnd H
          refine vG_power (pc := 95) (st := []) (gnum (s11 50 0 0)) (gnum_lt _) (ggen (gnum (s11 50 0 0))) x22 s11 _ h31 w847 (jd k_Room_accuse 53 rfl) (Nat.le_of_ble_eq_true rfl) (by decide) (Nat.le_refl _) (Nat.le_refl _) ?_
          refine j_iload (pc := 98) 5 (jd k_Room_accuse 54 rfl) rfl ?_
          refine j_icmp_eq (pc := 100) (tgt := 146) (jd k_Room_accuse 55 rfl) rfl (fun h33 => ?_) (fun h33 => ?_)
          · rw [if_pos h33] at H
            cases H
            exact j_pick [0, 1, 2] rfl K49
          · rw [if_neg h33] at H
            refine j_aload_n (pc := 103) 0 (jd k_Room_accuse 56 rfl) rfl ?_
            refine j_iload_n (pc := 104) 2 (jd k_Room_accuse 57 rfl) rfl ?_
            refine j_iload_n (pc := 105) 1 (jd k_Room_accuse 58 rfl) rfl ?_
            refine j_iload_n (pc := 106) 3 (jd k_Room_accuse 59 rfl) rfl ?_
            refine j_iload (pc := 107) 4 (jd k_Room_accuse 60 rfl) rfl ?_
            obtain ⟨x35, h34, H⟩ := obnd H
            refine jc_V (pc := 109) (st := []) (c_Room_fits ad G x10 p0 x22 x26 s11 _ h34) L0_Room_fits w781 w783 w11 9 rfl rfl (jd k_Room_accuse 61 rfl) rfl (Nat.le_of_ble_eq_true rfl) (by decide) (Nat.le_refl _) (Nat.le_refl _) rfl rfl ?_
            refine j_if_eq (pc := 112) (tgt := 146) (jd k_Room_accuse 62 rfl) rfl (fun h36 => ?_) (fun h36 => ?_)
            · rw [if_pos h36] at H
              cases H
              exact j_pick [0, 1, 2] rfl K49
            · rw [if_neg h36] at H
              refine j_aload_n (pc := 115) 0 (jd k_Room_accuse 63 rfl) rfl ?_
              refine j_dup (pc := 116) (jd k_Room_accuse 64 rfl) rfl ?_
              refine j_get (pc := 117) (fs := flRm ad s11) (v := .int (s11 25 0 0)) fl_Room_81_7 9 (jd k_Room_accuse 65 rfl) rfl rfl ?_
              refine j_iload_n (pc := 120) 2 (jd k_Room_accuse 66 rfl) rfl ?_
              obtain ⟨x38, h37, H⟩ := obnd H
              refine jc_SN (pc := 121) (st := [.int (s11 25 0 0), .ref (ad 9)]) (c_SR_bit G _ x10 _ h37) L0_SR_bit wt413 w414 (jd k_Room_accuse 67 rfl) rfl (Nat.le_of_ble_eq_true rfl) (by decide) (Nat.le_refl _) (Nat.le_refl _) rfl rfl ?_
              refine j_ior (pc := 124) (jd k_Room_accuse 68 rfl) ?_
              obtain ⟨s39, e40, H⟩ := olet H
              refine j_put (pc := 125) (fs := flRm ad s11) (fp_Room_81_7 _) 9 (jd k_Room_accuse 69 rfl) rfl rfl rfl (Nat.le_of_ble_eq_true rfl) ((wrRm_12 ad G s11 _).trans (congrArg (mkC ad G) e40)) ?_
              refine j_aload_n (pc := 128) 0 (jd k_Room_accuse 70 rfl) rfl ?_
              refine j_get (pc := 129) (fs := flRm ad s39) (v := .ref (ad 15)) fl_Room_20_7 9 (jd k_Room_accuse 71 rfl) rfl rfl ?_
              refine j_bipush (pc := 132) (v := 6) (jd k_Room_accuse 72 rfl) (by decide) ?_
              refine j_iload_n (pc := 134) 1 (jd k_Room_accuse 73 rfl) rfl ?_
              obtain ⟨s42, h41, H⟩ := obnd H
              refine jc_V (pc := 135) (st := []) (c_Board_write ad G 6 p0 s39 _ h41) L0_Board_write w728 w729 w730 15 rfl rfl (jd k_Room_accuse 74 rfl) rfl (Nat.le_of_ble_eq_true rfl) (by decide) (Nat.le_refl _) (Nat.le_refl _) rfl rfl ?_
              refine j_aload_n (pc := 138) 0 (jd k_Room_accuse 75 rfl) rfl ?_
              refine j_iload_n (pc := 139) 2 (jd k_Room_accuse 76 rfl) rfl ?_
              refine j_iload_n (pc := 140) 3 (jd k_Room_accuse 77 rfl) rfl ?_
              refine j_iload (pc := 141) 4 (jd k_Room_accuse 78 rfl) rfl ?_
              obtain ⟨s44, h43, H⟩ := obnd H
              refine jc_V (pc := 143) (st := []) (c_Room_writeNumbers ad G x10 x22 x26 s42 _ h43) L0_Room_writeNumbers w805 w807 w14 9 rfl rfl (jd k_Room_accuse 79 rfl) rfl (Nat.le_of_ble_eq_true rfl) (by decide) (Nat.le_refl _) (Nat.le_refl _) rfl rfl ?_
              cases H
              exact j_pick [0, 1, 2] rfl K49
        · rw [if_neg (not_not_intro h18)] at H
          refine j_goto (pc := 29) (tgt := 146) (jd k_Room_accuse 15 rfl) rfl ?_
          cases H
          exact K49

set_option maxRecDepth 20000 in
theorem c_Room_accuse (ad : Nat → Nat) (G : jG) (p0 : Int32) (s : jU) (r : jU) (H : f_Room_accuse p0 s = some r) : jCon G m_Room_accuse y_Room_accuse 4 0 0 [.ref (ad 9), .int p0] (mkC ad G s) (jEq none (mkC ad G r)) := by
  refine jCon.of (by decide +kernel) rfl rfl rfl (Nat.le_of_ble_eq_true rfl) rfl ?_
  have H : (
  Option.bind (L_Room_accuse_2 p0 jF 1 s) fun (x52, s53) =>
  some s53) = some r := H
  generalize hP9 : jEq none (mkC ad G r) = P
  refine j_iconst (pc := 0) (v := 1) (jd k_Room_accuse 0 rfl) (by decide) ?_
  refine j_istore_n (pc := 1) (lv' := [(0, .ref (ad 9)), (1, .int p0), (2, .int 1)]) (jd k_Room_accuse 1 rfl) rfl (Nat.le_of_ble_eq_true rfl) rfl ?_
  obtain ⟨⟨x52, s53⟩, h54, H⟩ := obnd H
  try dsimp only at H
  refine lp_Room_accuse_2 p0 jF 1 s _ h54 ?_
  refine j_pick (lv' := []) [] rfl ?_
  cases H
  subst hP9
  exact j_vret (pc := 152) (jd k_Room_accuse 82 rfl) rfl ⟨rfl, rfl⟩

set_option maxRecDepth 20000 in
theorem lp_Room_accuseAll_2 {ad : Nat → Nat} {G : jG} {P : jR → va_W → Prop} : ∀ (n : Nat) (x10 : Int32) (s11 : jU) (r : Int32 × jU), L_Room_accuseAll_2 n x10 s11 = some r → J G m_Room_accuseAll 5 0 0 P 34 [(0, .ref (ad 9)), (1, .int r.1)] [] (mkC ad G r.2) 0 0 → J G m_Room_accuseAll 5 0 0 P 2 [(0, .ref (ad 9)), (1, .int x10)] [] (mkC ad G s11) 0 0 := by
  intro n
  induction n with
  | zero =>
    intro x10 s11 r H
    cases (show none = some r from H)
  | succ n ih =>
    intro x10 s11 r H kx
    have H : (
    if (s11 20 0 0) < x10 then
      some (x10, s11)
    else
      Option.bind (jidx (x10 - 1) 7) fun k13 =>
      Option.bind (f_Party_worksIn k13 6 s11) fun x16 =>
      Option.bind (α := jU) (
        if x16 = 0 then
          some s11
        else
          Option.bind (f_Room_accuse x10 s11) fun s19 =>
          some s19) fun s20 =>
      jlet (x10 + 1) fun x23 =>
      L_Room_accuseAll_2 n x23 s20) = some r := H
    refine j_iload_n (pc := 2) 1 (jd k_Room_accuseAll 2 rfl) rfl ?_
    refine j_aload_n (pc := 3) 0 (jd k_Room_accuseAll 3 rfl) rfl ?_
    refine j_get (pc := 4) (fs := flRm ad s11) (v := .int (s11 20 0 0)) fl_Room_55_7 9 (jd k_Room_accuseAll 4 rfl) rfl rfl ?_
    refine j_icmp_gt (pc := 7) (tgt := 34) (jd k_Room_accuseAll 5 rfl) rfl (fun h12 => ?_) (fun h12 => ?_)
    · rw [if_pos h12] at H
      cases H
      exact kx
    · rw [if_neg h12] at H
      refine j_aload_n (pc := 10) 0 (jd k_Room_accuseAll 6 rfl) rfl ?_
      refine j_iload_n (pc := 11) 1 (jd k_Room_accuseAll 7 rfl) rfl ?_
      obtain ⟨k13, h14, H⟩ := obnd H
      have hk13 : k13 < 7 := jidx.lt h14
      refine jc_V (pc := 12) (st := []) (c_Room_party ad G x10 s11 k13 h14) L0_Room_party w401 w403 w1 9 rfl rfl (jd k_Room_accuseAll 8 rfl) rfl (Nat.le_of_ble_eq_true rfl) (by decide) (Nat.le_refl _) (Nat.le_refl _) rfl rfl ?_
      refine j_bipush (pc := 15) (v := 6) (jd k_Room_accuseAll 9 rfl) (by decide) ?_
      obtain ⟨x16, h15, H⟩ := obnd H
      refine jc_V (pc := 17) (st := []) (c_Party_worksIn ad G k13 hk13 6 s11 _ h15) L0_Party_worksIn w405 w406 w407 (26 + 15 * k13) (lkPy ad G s11 hk13) rfl (jd k_Room_accuseAll 10 rfl) rfl (Nat.le_of_ble_eq_true rfl) (by decide) (Nat.le_refl _) (Nat.le_refl _) rfl rfl ?_
      obtain ⟨s20, h21, H⟩ := obnd H
      have K22 : J G m_Room_accuseAll 5 0 0 P 28 [(0, .ref (ad 9)), (1, .int x10)] [] (mkC ad G s20) 0 0 := by
        obtain ⟨x23, e24, H⟩ := olet H
        refine j_iinc (pc := 28) (lv' := [(0, .ref (ad 9)), (1, .int x23)]) 1 (jd k_Room_accuseAll 15 rfl) rfl e24 rfl (Nat.le_of_ble_eq_true rfl) rfl ?_
        refine j_goto (pc := 31) (tgt := 2) (jd k_Room_accuseAll 16 rfl) rfl ?_
        exact ih x23 s20 _ H kx
      have H := h21
      refine j_if_eq (pc := 20) (tgt := 28) (jd k_Room_accuseAll 11 rfl) rfl (fun h17 => ?_) (fun h17 => ?_)
      · rw [if_pos h17] at H
        cases H
        exact K22
      · rw [if_neg h17] at H
        refine j_aload_n (pc := 23) 0 (jd k_Room_accuseAll 12 rfl) rfl ?_
        refine j_iload_n (pc := 24) 1 (jd k_Room_accuseAll 13 rfl) rfl ?_
        obtain ⟨s19, h18, H⟩ := obnd H
        refine jc_V (pc := 25) (st := []) (c_Room_accuse ad G x10 s11 _ h18) L0_Room_accuse w852 w854 w23 9 rfl rfl (jd k_Room_accuseAll 14 rfl) rfl (Nat.le_of_ble_eq_true rfl) (by decide) (Nat.le_refl _) (Nat.le_refl _) rfl rfl ?_
        cases H
        exact K22

set_option maxRecDepth 20000 in
theorem c_Room_accuseAll (ad : Nat → Nat) (G : jG) (s : jU) (r : jU) (H : f_Room_accuseAll s = some r) : jCon G m_Room_accuseAll y_Room_accuseAll 5 0 0 [.ref (ad 9)] (mkC ad G s) (jEq none (mkC ad G r)) := by
  refine jCon.of (by decide +kernel) rfl rfl rfl (Nat.le_of_ble_eq_true rfl) rfl ?_
  have H : (
  Option.bind (L_Room_accuseAll_2 jF 1 s) fun (x25, s26) =>
  some s26) = some r := H
  generalize hP9 : jEq none (mkC ad G r) = P
  refine j_iconst (pc := 0) (v := 1) (jd k_Room_accuseAll 0 rfl) (by decide) ?_
  refine j_istore_n (pc := 1) (lv' := [(0, .ref (ad 9)), (1, .int 1)]) (jd k_Room_accuseAll 1 rfl) rfl (Nat.le_of_ble_eq_true rfl) rfl ?_
  obtain ⟨⟨x25, s26⟩, h27, H⟩ := obnd H
  try dsimp only at H
  refine lp_Room_accuseAll_2  jF 1 s _ h27 ?_
  refine j_pick (lv' := []) [] rfl ?_
  cases H
  subst hP9
  exact j_vret (pc := 34) (jd k_Room_accuseAll 17 rfl) rfl ⟨rfl, rfl⟩

set_option maxRecDepth 20000 in
theorem lp_Room_collectNumbers_13 {ad : Nat → Nat} {G : jG} {P : jR → va_W → Prop} (p0 : Int32) : ∀ (n : Nat) (x12 : Int32) (s13 : jU) (r : Int32 × jU), L_Room_collectNumbers_13 p0 n x12 s13 = some r → J G m_Room_collectNumbers 4 0 0 P 142 [(0, .ref (ad 9)), (1, .int p0), (2, .int r.1)] [] (mkC ad G r.2) 0 0 → J G m_Room_collectNumbers 4 0 0 P 13 [(0, .ref (ad 9)), (1, .int p0), (2, .int x12)] [] (mkC ad G s13) 0 0 := by
  intro n
  induction n with
  | zero =>
    intro x12 s13 r H
    cases (show none = some r from H)
  | succ n ih =>
    intro x12 s13 r H kx
    have H : (
    if (s13 20 0 0) < x12 then
      some (x12, s13)
    else
      Option.bind (jidx (x12 - 1) 7) fun k15 =>
      Option.bind (f_Party_worksIn k15 7 s13) fun x18 =>
      Option.bind (α := jU) (
        if ¬ x18 = 0 then
          if jin p0 8 then
          jlet (s13 5 k15 p0.toNatClampNeg) fun x21 =>
          Option.bind (f_Party_has k15 6 s13) fun x23 =>
          Option.bind (α := Int32) (
            if x23 = 0 then
              some x21
            else
              Option.bind (F_plus (fnum (s13 53 0 0)) x21 1) fun x26 =>
              some x26) fun x27 =>
          if jin p0 8 then
          jlet (s13 6 k15 p0.toNatClampNeg) fun x31 =>
          Option.bind (f_Board_write 7 x12 s13) fun s33 =>
          Option.bind (f_Room_writeNumbers p0 x27 x31 s33) fun s35 =>
          Option.bind (f_Points_size 1 s35) fun x37 =>
          if (s35 21 0 0) ≤ x37 then
            some s35
          else
            Option.bind (f_Room_fits p0 x12 x27 x31 s35) fun x40 =>
            if x40 = 0 then
              some s35
            else
              Option.bind (f_Points_add 1 x12 x27 s35) fun s43 =>
              some s43
          else none
          else none
        else
          some s13) fun s46 =>
      jlet (x12 + 1) fun x49 =>
      L_Room_collectNumbers_13 p0 n x49 s46) = some r := H
    refine j_iload_n (pc := 13) 2 (jd k_Room_collectNumbers 7 rfl) rfl ?_
    refine j_aload_n (pc := 14) 0 (jd k_Room_collectNumbers 8 rfl) rfl ?_
    refine j_get (pc := 15) (fs := flRm ad s13) (v := .int (s13 20 0 0)) fl_Room_55_7 9 (jd k_Room_collectNumbers 9 rfl) rfl rfl ?_
    refine j_icmp_gt (pc := 18) (tgt := 142) (jd k_Room_collectNumbers 10 rfl) rfl (fun h14 => ?_) (fun h14 => ?_)
    · rw [if_pos h14] at H
      cases H
      exact kx
    · rw [if_neg h14] at H
      refine j_aload_n (pc := 21) 0 (jd k_Room_collectNumbers 11 rfl) rfl ?_
      refine j_iload_n (pc := 22) 2 (jd k_Room_collectNumbers 12 rfl) rfl ?_
      obtain ⟨k15, h16, H⟩ := obnd H
      have hk15 : k15 < 7 := jidx.lt h16
      refine jc_V (pc := 23) (st := []) (c_Room_party ad G x12 s13 k15 h16) L0_Room_party w401 w403 w1 9 rfl rfl (jd k_Room_collectNumbers 13 rfl) rfl (Nat.le_of_ble_eq_true rfl) (by decide) (Nat.le_refl _) (Nat.le_refl _) rfl rfl ?_
      refine j_astore_n (pc := 26) (lv' := [(0, .ref (ad 9)), (1, .int p0), (2, .int x12), (3, .ref (ad (26 + 15 * k15)))]) (jd k_Room_collectNumbers 14 rfl) rfl (Nat.le_of_ble_eq_true rfl) rfl ?_
      refine j_aload_n (pc := 27) 3 (jd k_Room_collectNumbers 15 rfl) rfl ?_
      refine j_bipush (pc := 28) (v := 7) (jd k_Room_collectNumbers 16 rfl) (by decide) ?_
      obtain ⟨x18, h17, H⟩ := obnd H
      refine jc_V (pc := 30) (st := []) (c_Party_worksIn ad G k15 hk15 7 s13 _ h17) L0_Party_worksIn w405 w406 w407 (26 + 15 * k15) (lkPy ad G s13 hk15) rfl (jd k_Room_collectNumbers 17 rfl) rfl (Nat.le_of_ble_eq_true rfl) (by decide) (Nat.le_refl _) (Nat.le_refl _) rfl rfl ?_
      obtain ⟨s46, h47, H⟩ := obnd H
      have K48 : J G m_Room_collectNumbers 4 0 0 P 136 [(0, .ref (ad 9)), (1, .int p0), (2, .int x12)] [] (mkC ad G s46) 0 0 := by
        obtain ⟨x49, e50, H⟩ := olet H
        refine j_iinc (pc := 136) (lv' := [(0, .ref (ad 9)), (1, .int p0), (2, .int x49)]) 2 (jd k_Room_collectNumbers 72 rfl) rfl e50 rfl (Nat.le_of_ble_eq_true rfl) rfl ?_
        refine j_goto (pc := 139) (tgt := 13) (jd k_Room_collectNumbers 73 rfl) rfl ?_
        exact ih x49 s46 _ H kx
      have H := h47
      refine j_if_ne (pc := 33) (tgt := 39) (jd k_Room_collectNumbers 18 rfl) rfl (fun h19 => ?_) (fun h19 => ?_)
      · rw [if_pos h19] at H
        refine j_aload_n (pc := 39) 3 (jd k_Room_collectNumbers 20 rfl) rfl ?_
        refine j_get (pc := 40) (fs := flPy ad s13 k15) (v := .ref (ad (34 + 15 * k15))) fl_Room_136_4 (26 + 15 * k15) (jd k_Room_collectNumbers 21 rfl) (lkPy ad G s13 hk15) rfl ?_
        refine j_iconst (pc := 43) (v := 0) (jd k_Room_collectNumbers 22 rfl) (by decide) ?_
        refine j_aald (pc := 44) (t0 := 6) (v := ad (35 + 15 * k15 + 0)) (34 + 15 * k15) (jd k_Room_collectNumbers 23 rfl) (lkAA_8 ad G s13 hk15) rfl rfl (jidx.vp jidx0) (jidx.row jidx0 ad (jrow15 _ _)) ?_
        refine j_iload_n (pc := 45) 1 (jd k_Room_collectNumbers 24 rfl) rfl ?_
        obtain ⟨h20, H⟩ := ochk H
        refine j_iald (pc := 46) (f := s13 5 k15) (35 + 15 * k15 + 0) (jd k_Room_collectNumbers 25 rfl) (lkR_8 ad G s13 hk15 (w := 0) jlt0) (jin.vp h20) ?_
        obtain ⟨x21, e45, H⟩ := olet H
        refine j_topi e45 ?_
        refine j_istore (pc := 47) (lv' := [(0, .ref (ad 9)), (1, .int p0), (2, .int x12), (3, .ref (ad (26 + 15 * k15))), (4, .int x21)]) (jd k_Room_collectNumbers 26 rfl) rfl (Nat.le_of_ble_eq_true rfl) rfl ?_
        refine j_aload_n (pc := 49) 3 (jd k_Room_collectNumbers 27 rfl) rfl ?_
        refine j_bipush (pc := 50) (v := 6) (jd k_Room_collectNumbers 28 rfl) (by decide) ?_
        obtain ⟨x23, h22, H⟩ := obnd H
        refine jc_V (pc := 52) (st := []) (c_Party_has ad G k15 hk15 6 s13 _ h22) L0_Party_has w720 w721 w722 (26 + 15 * k15) (lkPy ad G s13 hk15) rfl (jd k_Room_collectNumbers 29 rfl) rfl (Nat.le_of_ble_eq_true rfl) (by decide) (Nat.le_refl _) (Nat.le_refl _) rfl rfl ?_
        obtain ⟨x27, h28, H⟩ := obnd H
        have K29 : J G m_Room_collectNumbers 4 0 0 P 70 [(0, .ref (ad 9)), (1, .int p0), (2, .int x12), (3, .ref (ad (26 + 15 * k15))), (4, .int x27)] [] (mkC ad G s13) 0 0 := by
          refine j_aload_n (pc := 70) 3 (jd k_Room_collectNumbers 37 rfl) rfl ?_
          refine j_get (pc := 71) (fs := flPy ad s13 k15) (v := .ref (ad (34 + 15 * k15))) fl_Room_136_4 (26 + 15 * k15) (jd k_Room_collectNumbers 38 rfl) (lkPy ad G s13 hk15) rfl ?_
          refine j_iconst (pc := 74) (v := 1) (jd k_Room_collectNumbers 39 rfl) (by decide) ?_
          refine j_aald (pc := 75) (t0 := 6) (v := ad (35 + 15 * k15 + 1)) (34 + 15 * k15) (jd k_Room_collectNumbers 40 rfl) (lkAA_8 ad G s13 hk15) rfl rfl (jidx.vp jidx1) (jidx.row jidx1 ad (jrow15 _ _)) ?_
          refine j_iload_n (pc := 76) 1 (jd k_Room_collectNumbers 41 rfl) rfl ?_
          obtain ⟨h30, H⟩ := ochk H
          refine j_iald (pc := 77) (f := s13 6 k15) (35 + 15 * k15 + 1) (jd k_Room_collectNumbers 42 rfl) (lkR_8 ad G s13 hk15 (w := 1) jlt1) (jin.vp h30) ?_
          obtain ⟨x31, e44, H⟩ := olet H
          refine j_topi e44 ?_
          refine j_istore (pc := 78) (lv' := [(0, .ref (ad 9)), (1, .int p0), (2, .int x12), (3, .ref (ad (26 + 15 * k15))), (4, .int x27), (5, .int x31)]) (jd k_Room_collectNumbers 43 rfl) rfl (Nat.le_of_ble_eq_true rfl) rfl ?_
          refine j_aload_n (pc := 80) 0 (jd k_Room_collectNumbers 44 rfl) rfl ?_
          refine j_get (pc := 81) (fs := flRm ad s13) (v := .ref (ad 15)) fl_Room_20_7 9 (jd k_Room_collectNumbers 45 rfl) rfl rfl ?_
          refine j_bipush (pc := 84) (v := 7) (jd k_Room_collectNumbers 46 rfl) (by decide) ?_
          refine j_iload_n (pc := 86) 2 (jd k_Room_collectNumbers 47 rfl) rfl ?_
          obtain ⟨s33, h32, H⟩ := obnd H
          refine jc_V (pc := 87) (st := []) (c_Board_write ad G 7 x12 s13 _ h32) L0_Board_write w728 w729 w730 15 rfl rfl (jd k_Room_collectNumbers 48 rfl) rfl (Nat.le_of_ble_eq_true rfl) (by decide) (Nat.le_refl _) (Nat.le_refl _) rfl rfl ?_
          refine j_aload_n (pc := 90) 0 (jd k_Room_collectNumbers 49 rfl) rfl ?_
          refine j_iload_n (pc := 91) 1 (jd k_Room_collectNumbers 50 rfl) rfl ?_
          refine j_iload (pc := 92) 4 (jd k_Room_collectNumbers 51 rfl) rfl ?_
          refine j_iload (pc := 94) 5 (jd k_Room_collectNumbers 52 rfl) rfl ?_
          obtain ⟨s35, h34, H⟩ := obnd H
          refine jc_V (pc := 96) (st := []) (c_Room_writeNumbers ad G p0 x27 x31 s33 _ h34) L0_Room_writeNumbers w805 w807 w14 9 rfl rfl (jd k_Room_collectNumbers 53 rfl) rfl (Nat.le_of_ble_eq_true rfl) (by decide) (Nat.le_refl _) (Nat.le_refl _) rfl rfl ?_
          refine j_aload_n (pc := 99) 0 (jd k_Room_collectNumbers 54 rfl) rfl ?_
          refine j_get (pc := 100) (fs := flRm ad s35) (v := .ref (ad (5 + 16 * 1))) fl_Room_50_7 9 (jd k_Room_collectNumbers 55 rfl) rfl rfl ?_
          obtain ⟨x37, h36, H⟩ := obnd H
          refine jc_V (pc := 103) (st := []) (c_Points_size ad G 1 (by decide) s35 _ h36) L0_Points_size w866 w563 w564 (5 + 16 * 1) (lkPt ad G s35 (by decide)) rfl (jd k_Room_collectNumbers 56 rfl) rfl (Nat.le_of_ble_eq_true rfl) (by decide) (Nat.le_refl _) (Nat.le_refl _) rfl rfl ?_
          refine j_aload_n (pc := 106) 0 (jd k_Room_collectNumbers 57 rfl) rfl ?_
          refine j_get (pc := 107) (fs := flRm ad s35) (v := .int (s35 21 0 0)) fl_Room_59_7 9 (jd k_Room_collectNumbers 58 rfl) rfl rfl ?_
          refine j_icmp_ge (pc := 110) (tgt := 136) (jd k_Room_collectNumbers 59 rfl) rfl (fun h38 => ?_) (fun h38 => ?_)
          · rw [if_pos h38] at H
            cases H
            exact j_pick [0, 1, 2] rfl K48
          · rw [if_neg h38] at H
            refine j_aload_n (pc := 113) 0 (jd k_Room_collectNumbers 60 rfl) rfl ?_
            refine j_iload_n (pc := 114) 1 (jd k_Room_collectNumbers 61 rfl) rfl ?_
            refine j_iload_n (pc := 115) 2 (jd k_Room_collectNumbers 62 rfl) rfl ?_
            refine j_iload (pc := 116) 4 (jd k_Room_collectNumbers 63 rfl) rfl ?_
            refine j_iload (pc := 118) 5 (jd k_Room_collectNumbers 64 rfl) rfl ?_
            obtain ⟨x40, h39, H⟩ := obnd H
            refine jc_V (pc := 120) (st := []) (c_Room_fits ad G p0 x12 x27 x31 s35 _ h39) L0_Room_fits w781 w783 w11 9 rfl rfl (jd k_Room_collectNumbers 65 rfl) rfl (Nat.le_of_ble_eq_true rfl) (by decide) (Nat.le_refl _) (Nat.le_refl _) rfl rfl ?_
            refine j_if_eq (pc := 123) (tgt := 136) (jd k_Room_collectNumbers 66 rfl) rfl (fun h41 => ?_) (fun h41 => ?_)
            · rw [if_pos h41] at H
              cases H
              exact j_pick [0, 1, 2] rfl K48
            · rw [if_neg h41] at H
              refine j_aload_n (pc := 126) 0 (jd k_Room_collectNumbers 67 rfl) rfl ?_
              refine j_get (pc := 127) (fs := flRm ad s35) (v := .ref (ad (5 + 16 * 1))) fl_Room_50_7 9 (jd k_Room_collectNumbers 68 rfl) rfl rfl ?_
              refine j_iload_n (pc := 130) 2 (jd k_Room_collectNumbers 69 rfl) rfl ?_
              refine j_iload (pc := 131) 4 (jd k_Room_collectNumbers 70 rfl) rfl ?_
              obtain ⟨s43, h42, H⟩ := obnd H
              refine jc_V (pc := 133) (st := []) (c_Points_add ad G 1 (by decide) x12 x27 s35 _ h42) L0_Points_add w867 w559 w560 (5 + 16 * 1) (lkPt ad G s35 (by decide)) rfl (jd k_Room_collectNumbers 71 rfl) rfl (Nat.le_of_ble_eq_true rfl) (by decide) (Nat.le_refl _) (Nat.le_refl _) rfl rfl ?_
              cases H
              exact j_pick [0, 1, 2] rfl K48
        have H := h28
        refine j_if_eq (pc := 55) (tgt := 70) (jd k_Room_collectNumbers 30 rfl) rfl (fun h24 => ?_) (fun h24 => ?_)
        · rw [if_pos h24] at H
          cases H
          exact K29
        · rw [if_neg h24] at H
          refine j_aload_n (pc := 58) 0 (jd k_Room_collectNumbers 31 rfl) rfl ?_
          refine j_get (pc := 59) (fs := flRm ad s13) (v := .ref (ad (2 + (fnum (s13 53 0 0))))) fl_Room_42_7 9 (jd k_Room_collectNumbers 32 rfl) rfl rfl ?_
          refine j_iload (pc := 62) 4 (jd k_Room_collectNumbers 33 rfl) rfl ?_
          refine j_iconst (pc := 64) (v := 1) (jd k_Room_collectNumbers 34 rfl) (by decide) ?_
          obtain ⟨x26, h25, H⟩ := obnd H
          refine vF_plus (pc := 65) (st := []) (fnum (s13 53 0 0)) (fnum_lt _) x21 1 s13 _ h25 w772 (jd k_Room_collectNumbers 35 rfl) (Nat.le_of_ble_eq_true rfl) (by decide) (Nat.le_refl _) (Nat.le_refl _) ?_
          refine j_istore (pc := 68) (lv' := [(0, .ref (ad 9)), (1, .int p0), (2, .int x12), (3, .ref (ad (26 + 15 * k15))), (4, .int x26)]) (jd k_Room_collectNumbers 36 rfl) rfl (Nat.le_of_ble_eq_true rfl) rfl ?_
          cases H
          exact K29
      · rw [if_neg (not_not_intro h19)] at H
        refine j_goto (pc := 36) (tgt := 136) (jd k_Room_collectNumbers 19 rfl) rfl ?_
        cases H
        exact j_pick [0, 1, 2] rfl K48

set_option maxRecDepth 20000 in
theorem c_Room_collectNumbers (ad : Nat → Nat) (G : jG) (p0 : Int32) (s : jU) (r : jU) (H : f_Room_collectNumbers p0 s = some r) : jCon G m_Room_collectNumbers y_Room_collectNumbers 4 0 0 [.ref (ad 9), .int p0] (mkC ad G s) (jEq none (mkC ad G r)) := by
  refine jCon.of (by decide +kernel) rfl rfl rfl (Nat.le_of_ble_eq_true rfl) rfl ?_
  have H : (
  Option.bind (f_Points_clear 1 (fnum (s 53 0 0)) s) fun s11 =>
  Option.bind (L_Room_collectNumbers_13 p0 jF 1 s11) fun (x51, s52) =>
  some s52) = some r := H
  generalize hP9 : jEq none (mkC ad G r) = P
  refine j_aload_n (pc := 0) 0 (jd k_Room_collectNumbers 0 rfl) rfl ?_
  refine j_get (pc := 1) (fs := flRm ad s) (v := .ref (ad (5 + 16 * 1))) fl_Room_50_7 9 (jd k_Room_collectNumbers 1 rfl) rfl rfl ?_
  refine j_aload_n (pc := 4) 0 (jd k_Room_collectNumbers 2 rfl) rfl ?_
  refine j_get (pc := 5) (fs := flRm ad s) (v := .ref (ad (2 + (fnum (s 53 0 0))))) fl_Room_42_7 9 (jd k_Room_collectNumbers 3 rfl) rfl rfl ?_
  obtain ⟨s11, h10, H⟩ := obnd H
  refine jc_V (pc := 8) (st := []) (c_Points_clear ad G 1 (by decide) (fnum (s 53 0 0)) (fnum_lt _) s _ h10) L0_Points_clear w865 w512 w513 (5 + 16 * 1) (lkPt ad G s (by decide)) rfl (jd k_Room_collectNumbers 4 rfl) rfl (Nat.le_of_ble_eq_true rfl) (by decide) (Nat.le_refl _) (Nat.le_refl _) rfl rfl ?_
  refine j_iconst (pc := 11) (v := 1) (jd k_Room_collectNumbers 5 rfl) (by decide) ?_
  refine j_istore_n (pc := 12) (lv' := [(0, .ref (ad 9)), (1, .int p0), (2, .int 1)]) (jd k_Room_collectNumbers 6 rfl) rfl (Nat.le_of_ble_eq_true rfl) rfl ?_
  obtain ⟨⟨x51, s52⟩, h53, H⟩ := obnd H
  try dsimp only at H
  refine lp_Room_collectNumbers_13 p0 jF 1 s11 _ h53 ?_
  refine j_pick (lv' := []) [] rfl ?_
  cases H
  subst hP9
  exact j_vret (pc := 142) (jd k_Room_collectNumbers 74 rfl) rfl ⟨rfl, rfl⟩

set_option maxRecDepth 20000 in
theorem lp_Room_openAll_4 {ad : Nat → Nat} {G : jG} {P : jR → va_W → Prop} : ∀ (n : Nat) (x10 : Int32) (x11 : Int32) (s12 : jU) (r : Int32 × Int32 × jU), L_Room_openAll_4 n x10 x11 s12 = some r → J G m_Room_openAll 5 0 0 P 156 [(0, .ref (ad 9)), (1, .int r.1), (2, .int r.2.1)] [] (mkC ad G r.2.2) 0 0 → J G m_Room_openAll 5 0 0 P 4 [(0, .ref (ad 9)), (1, .int x10), (2, .int x11)] [] (mkC ad G s12) 0 0 := by
  intro n
  induction n with
  | zero =>
    intro x10 x11 s12 r H
    cases (show none = some r from H)
  | succ n ih =>
    intro x10 x11 s12 r H kx
    have H : (
    if (s12 20 0 0) < x11 then
      some (x10, x11, s12)
    else
      Option.bind (f_Room_isQualified x11 s12) fun x15 =>
      Option.bind (α := Int32 × jU) (
        if ¬ x15 = 0 then
          Option.bind (jidx (x11 - 1) 7) fun k17 =>
          if (s12 13 k17 0) = 0 then
            Option.bind (f_Room_collectNumbers x11 s12) fun s21 =>
            Option.bind (f_Points_size 1 s21) fun x23 =>
            if (s21 21 0 0) ≤ x23 then
              Option.bind (f_SR_bit x11) fun x26 =>
              jlet (ups s21 26 0 (fun _ => (s21 26 0 0) ||| x26)) fun s27 =>
              Option.bind (f_Points_valueAt 1 0 s27) fun x30 =>
              Option.bind (f_Group_power (gnum (s27 50 0 0)) (ggen (gnum (s27 50 0 0))) x30) fun x32 =>
              Option.bind (G_product (gnum (s27 50 0 0)) (s27 27 0 0) x32) fun x34 =>
              jlet (ups s27 27 0 (fun _ => x34)) fun s35 =>
              some (x10, s35)
            else
              some (1, s21)
          else
            Option.bind (f_SR_bit x11) fun x38 =>
            if ¬ ((s12 25 0 0) &&& x38) = 0 then
              Option.bind (f_Room_collectNumbers x11 s12) fun s41 =>
              Option.bind (f_Points_size 1 s41) fun x43 =>
              if (s41 21 0 0) ≤ x43 then
                Option.bind (f_SR_bit x11) fun x46 =>
                jlet (ups s41 26 0 (fun _ => (s41 26 0 0) ||| x46)) fun s47 =>
                Option.bind (f_Points_valueAt 1 0 s47) fun x50 =>
                Option.bind (f_Group_power (gnum (s47 50 0 0)) (ggen (gnum (s47 50 0 0))) x50) fun x52 =>
                Option.bind (G_product (gnum (s47 50 0 0)) (s47 27 0 0) x52) fun x54 =>
                jlet (ups s47 27 0 (fun _ => x54)) fun s55 =>
                some (x10, s55)
              else
                some (1, s41)
            else
              Option.bind (jidx (x11 - 1) 7) fun k57 =>
              if jin 0 7 then
              Option.bind (G_product (gnum (s12 50 0 0)) (s12 27 0 0) (s12 4 k57 (0 : Int32).toNatClampNeg)) fun x61 =>
              jlet (ups s12 27 0 (fun _ => x61)) fun s62 =>
              some (x10, s62)
              else none
        else
          some (x10, s12)) fun (x64, s65) =>
      jlet (x11 + 1) fun x68 =>
      L_Room_openAll_4 n x64 x68 s65) = some r := H
    refine j_iload_n (pc := 4) 2 (jd k_Room_openAll 4 rfl) rfl ?_
    refine j_aload_n (pc := 5) 0 (jd k_Room_openAll 5 rfl) rfl ?_
    refine j_get (pc := 6) (fs := flRm ad s12) (v := .int (s12 20 0 0)) fl_Room_55_7 9 (jd k_Room_openAll 6 rfl) rfl rfl ?_
    refine j_icmp_gt (pc := 9) (tgt := 156) (jd k_Room_openAll 7 rfl) rfl (fun h13 => ?_) (fun h13 => ?_)
    · rw [if_pos h13] at H
      cases H
      exact kx
    · rw [if_neg h13] at H
      refine j_aload_n (pc := 12) 0 (jd k_Room_openAll 8 rfl) rfl ?_
      refine j_iload_n (pc := 13) 2 (jd k_Room_openAll 9 rfl) rfl ?_
      obtain ⟨x15, h14, H⟩ := obnd H
      refine jc_V (pc := 14) (st := []) (c_Room_isQualified ad G x11 s12 _ h14) L0_Room_isQualified w835 w837 w19 9 rfl rfl (jd k_Room_openAll 10 rfl) rfl (Nat.le_of_ble_eq_true rfl) (by decide) (Nat.le_refl _) (Nat.le_refl _) rfl rfl ?_
      obtain ⟨⟨x64, s65⟩, h66, H⟩ := obnd H
      try dsimp only at H
      have K67 : J G m_Room_openAll 5 0 0 P 150 [(0, .ref (ad 9)), (1, .int x64), (2, .int x11)] [] (mkC ad G s65) 0 0 := by
        obtain ⟨x68, e69, H⟩ := olet H
        refine j_iinc (pc := 150) (lv' := [(0, .ref (ad 9)), (1, .int x64), (2, .int x68)]) 2 (jd k_Room_openAll 76 rfl) rfl e69 rfl (Nat.le_of_ble_eq_true rfl) rfl ?_
        refine j_goto (pc := 153) (tgt := 4) (jd k_Room_openAll 77 rfl) rfl ?_
        exact ih x64 x68 s65 _ H kx
      have H := h66
      refine j_if_ne (pc := 17) (tgt := 23) (jd k_Room_openAll 11 rfl) rfl (fun h16 => ?_) (fun h16 => ?_)
      · rw [if_pos h16] at H
        refine j_aload_n (pc := 23) 0 (jd k_Room_openAll 13 rfl) rfl ?_
        refine j_iload_n (pc := 24) 2 (jd k_Room_openAll 14 rfl) rfl ?_
        obtain ⟨k17, h18, H⟩ := obnd H
        have hk17 : k17 < 7 := jidx.lt h18
        refine jc_V (pc := 25) (st := []) (c_Room_party ad G x11 s12 k17 h18) L0_Room_party w401 w403 w1 9 rfl rfl (jd k_Room_openAll 15 rfl) rfl (Nat.le_of_ble_eq_true rfl) (by decide) (Nat.le_refl _) (Nat.le_refl _) rfl rfl ?_
        refine j_get (pc := 28) (fs := flPy ad s12 k17) (v := .int (s12 13 k17 0)) fl_Room_234_4 (26 + 15 * k17) (jd k_Room_openAll 16 rfl) (lkPy ad G s12 hk17) rfl ?_
        refine j_if_eq (pc := 31) (tgt := 76) (jd k_Room_openAll 17 rfl) rfl (fun h19 => ?_) (fun h19 => ?_)
        · rw [if_pos h19] at H
          refine j_aload_n (pc := 76) 0 (jd k_Room_openAll 40 rfl) rfl ?_
          refine j_iload_n (pc := 77) 2 (jd k_Room_openAll 41 rfl) rfl ?_
          obtain ⟨s21, h20, H⟩ := obnd H
          refine jc_V (pc := 78) (st := []) (c_Room_collectNumbers ad G x11 s12 _ h20) L0_Room_collectNumbers w861 w863 w25 9 rfl rfl (jd k_Room_openAll 42 rfl) rfl (Nat.le_of_ble_eq_true rfl) (by decide) (Nat.le_refl _) (Nat.le_refl _) rfl rfl ?_
          refine j_aload_n (pc := 81) 0 (jd k_Room_openAll 43 rfl) rfl ?_
          refine j_get (pc := 82) (fs := flRm ad s21) (v := .ref (ad (5 + 16 * 1))) fl_Room_50_7 9 (jd k_Room_openAll 44 rfl) rfl rfl ?_
          obtain ⟨x23, h22, H⟩ := obnd H
          refine jc_V (pc := 85) (st := []) (c_Points_size ad G 1 (by decide) s21 _ h22) L0_Points_size w866 w563 w564 (5 + 16 * 1) (lkPt ad G s21 (by decide)) rfl (jd k_Room_openAll 45 rfl) rfl (Nat.le_of_ble_eq_true rfl) (by decide) (Nat.le_refl _) (Nat.le_refl _) rfl rfl ?_
          refine j_aload_n (pc := 88) 0 (jd k_Room_openAll 46 rfl) rfl ?_
          refine j_get (pc := 89) (fs := flRm ad s21) (v := .int (s21 21 0 0)) fl_Room_59_7 9 (jd k_Room_openAll 47 rfl) rfl rfl ?_
          refine j_icmp_ge (pc := 92) (tgt := 100) (jd k_Room_openAll 48 rfl) rfl (fun h24 => ?_) (fun h24 => ?_)
          · rw [if_pos h24] at H
            refine j_aload_n (pc := 100) 0 (jd k_Room_openAll 52 rfl) rfl ?_
            refine j_dup (pc := 101) (jd k_Room_openAll 53 rfl) rfl ?_
            refine j_get (pc := 102) (fs := flRm ad s21) (v := .int (s21 26 0 0)) fl_Room_84_7 9 (jd k_Room_openAll 54 rfl) rfl rfl ?_
            refine j_iload_n (pc := 105) 2 (jd k_Room_openAll 55 rfl) rfl ?_
            obtain ⟨x26, h25, H⟩ := obnd H
            refine jc_SN (pc := 106) (st := [.int (s21 26 0 0), .ref (ad 9)]) (c_SR_bit G _ x11 _ h25) L0_SR_bit wt413 w414 (jd k_Room_openAll 56 rfl) rfl (Nat.le_of_ble_eq_true rfl) (by decide) (Nat.le_refl _) (Nat.le_refl _) rfl rfl ?_
            refine j_ior (pc := 109) (jd k_Room_openAll 57 rfl) ?_
            obtain ⟨s27, e28, H⟩ := olet H
            refine j_put (pc := 110) (fs := flRm ad s21) (fp_Room_84_7 _) 9 (jd k_Room_openAll 58 rfl) rfl rfl rfl (Nat.le_of_ble_eq_true rfl) ((wrRm_13 ad G s21 _).trans (congrArg (mkC ad G) e28)) ?_
            refine j_aload_n (pc := 113) 0 (jd k_Room_openAll 59 rfl) rfl ?_
            refine j_aload_n (pc := 114) 0 (jd k_Room_openAll 60 rfl) rfl ?_
            refine j_get (pc := 115) (fs := flRm ad s27) (v := .ref (ad (11 + (gnum (s27 50 0 0))))) fl_Room_34_7 9 (jd k_Room_openAll 61 rfl) rfl rfl ?_
            refine j_aload_n (pc := 118) 0 (jd k_Room_openAll 62 rfl) rfl ?_
            refine j_get (pc := 119) (fs := flRm ad s27) (v := .int (s27 27 0 0)) fl_Room_90_7 9 (jd k_Room_openAll 63 rfl) rfl rfl ?_
            refine j_aload_n (pc := 122) 0 (jd k_Room_openAll 64 rfl) rfl ?_
            refine j_get (pc := 123) (fs := flRm ad s27) (v := .ref (ad (11 + (gnum (s27 50 0 0))))) fl_Room_34_7 9 (jd k_Room_openAll 65 rfl) rfl rfl ?_
            refine j_aload_n (pc := 126) 0 (jd k_Room_openAll 66 rfl) rfl ?_
            refine j_get (pc := 127) (fs := flRm ad s27) (v := .ref (ad (11 + (gnum (s27 50 0 0))))) fl_Room_34_7 9 (jd k_Room_openAll 67 rfl) rfl rfl ?_
            refine g_gen (pc := 130) fl_Room_237_9 fl_Room_237_3 (g := gnum (s27 50 0 0)) (gnum_lt _) (jd k_Room_openAll 68 rfl) ?_
            refine j_aload_n (pc := 133) 0 (jd k_Room_openAll 69 rfl) rfl ?_
            refine j_get (pc := 134) (fs := flRm ad s27) (v := .ref (ad (5 + 16 * 1))) fl_Room_50_7 9 (jd k_Room_openAll 70 rfl) rfl rfl ?_
            refine j_iconst (pc := 137) (v := 0) (jd k_Room_openAll 71 rfl) (by decide) ?_
            obtain ⟨x30, h29, H⟩ := obnd H
            refine jc_V (pc := 138) (st := [.int (ggen (gnum (s27 50 0 0))), .ref (ad (11 + (gnum (s27 50 0 0)))), .int (s27 27 0 0), .ref (ad (11 + (gnum (s27 50 0 0)))), .ref (ad 9)]) (c_Points_valueAt ad G 1 (by decide) 0 s27 _ h29) L0_Points_valueAt w868 w576 w577 (5 + 16 * 1) (lkPt ad G s27 (by decide)) rfl (jd k_Room_openAll 72 rfl) rfl (Nat.le_of_ble_eq_true rfl) (by decide) (Nat.le_refl _) (Nat.le_refl _) rfl rfl ?_
            obtain ⟨x32, h31, H⟩ := obnd H
            refine vG_power (pc := 141) (st := [.int (s27 27 0 0), .ref (ad (11 + (gnum (s27 50 0 0)))), .ref (ad 9)]) (gnum (s27 50 0 0)) (gnum_lt _) (ggen (gnum (s27 50 0 0))) x30 s27 _ h31 w847 (jd k_Room_openAll 73 rfl) (Nat.le_of_ble_eq_true rfl) (by decide) (Nat.le_refl _) (Nat.le_refl _) ?_
            obtain ⟨x34, h33, H⟩ := obnd H
            refine vG_product (pc := 144) (st := [.ref (ad 9)]) (gnum (s27 50 0 0)) (gnum_lt _) (s27 27 0 0) x32 s27 _ h33 w860 (jd k_Room_openAll 74 rfl) (Nat.le_of_ble_eq_true rfl) (by decide) (Nat.le_refl _) (Nat.le_refl _) ?_
            obtain ⟨s35, e36, H⟩ := olet H
            refine j_put (pc := 147) (fs := flRm ad s27) (fp_Room_90_7 _) 9 (jd k_Room_openAll 75 rfl) rfl rfl rfl (Nat.le_of_ble_eq_true rfl) ((wrRm_14 ad G s27 _).trans (congrArg (mkC ad G) e36)) ?_
            cases H
            exact K67
          · rw [if_neg h24] at H
            refine j_iconst (pc := 95) (v := 1) (jd k_Room_openAll 49 rfl) (by decide) ?_
            refine j_istore_n (pc := 96) (lv' := [(0, .ref (ad 9)), (1, .int 1), (2, .int x11)]) (jd k_Room_openAll 50 rfl) rfl (Nat.le_of_ble_eq_true rfl) rfl ?_
            refine j_goto (pc := 97) (tgt := 150) (jd k_Room_openAll 51 rfl) rfl ?_
            cases H
            exact K67
        · rw [if_neg h19] at H
          refine j_aload_n (pc := 34) 0 (jd k_Room_openAll 18 rfl) rfl ?_
          refine j_get (pc := 35) (fs := flRm ad s12) (v := .int (s12 25 0 0)) fl_Room_81_7 9 (jd k_Room_openAll 19 rfl) rfl rfl ?_
          refine j_iload_n (pc := 38) 2 (jd k_Room_openAll 20 rfl) rfl ?_
          obtain ⟨x38, h37, H⟩ := obnd H
          refine jc_SN (pc := 39) (st := [.int (s12 25 0 0)]) (c_SR_bit G _ x11 _ h37) L0_SR_bit wt413 w414 (jd k_Room_openAll 21 rfl) rfl (Nat.le_of_ble_eq_true rfl) (by decide) (Nat.le_refl _) (Nat.le_refl _) rfl rfl ?_
          refine j_iand (pc := 42) (jd k_Room_openAll 22 rfl) ?_
          refine j_if_ne (pc := 43) (tgt := 76) (jd k_Room_openAll 23 rfl) rfl (fun h39 => ?_) (fun h39 => ?_)
          · rw [if_pos h39] at H
            refine j_aload_n (pc := 76) 0 (jd k_Room_openAll 40 rfl) rfl ?_
            refine j_iload_n (pc := 77) 2 (jd k_Room_openAll 41 rfl) rfl ?_
            obtain ⟨s41, h40, H⟩ := obnd H
            refine jc_V (pc := 78) (st := []) (c_Room_collectNumbers ad G x11 s12 _ h40) L0_Room_collectNumbers w861 w863 w25 9 rfl rfl (jd k_Room_openAll 42 rfl) rfl (Nat.le_of_ble_eq_true rfl) (by decide) (Nat.le_refl _) (Nat.le_refl _) rfl rfl ?_
            refine j_aload_n (pc := 81) 0 (jd k_Room_openAll 43 rfl) rfl ?_
            refine j_get (pc := 82) (fs := flRm ad s41) (v := .ref (ad (5 + 16 * 1))) fl_Room_50_7 9 (jd k_Room_openAll 44 rfl) rfl rfl ?_
            obtain ⟨x43, h42, H⟩ := obnd H
            refine jc_V (pc := 85) (st := []) (c_Points_size ad G 1 (by decide) s41 _ h42) L0_Points_size w866 w563 w564 (5 + 16 * 1) (lkPt ad G s41 (by decide)) rfl (jd k_Room_openAll 45 rfl) rfl (Nat.le_of_ble_eq_true rfl) (by decide) (Nat.le_refl _) (Nat.le_refl _) rfl rfl ?_
            refine j_aload_n (pc := 88) 0 (jd k_Room_openAll 46 rfl) rfl ?_
            refine j_get (pc := 89) (fs := flRm ad s41) (v := .int (s41 21 0 0)) fl_Room_59_7 9 (jd k_Room_openAll 47 rfl) rfl rfl ?_
            refine j_icmp_ge (pc := 92) (tgt := 100) (jd k_Room_openAll 48 rfl) rfl (fun h44 => ?_) (fun h44 => ?_)
            · rw [if_pos h44] at H
              refine j_aload_n (pc := 100) 0 (jd k_Room_openAll 52 rfl) rfl ?_
              refine j_dup (pc := 101) (jd k_Room_openAll 53 rfl) rfl ?_
              refine j_get (pc := 102) (fs := flRm ad s41) (v := .int (s41 26 0 0)) fl_Room_84_7 9 (jd k_Room_openAll 54 rfl) rfl rfl ?_
              refine j_iload_n (pc := 105) 2 (jd k_Room_openAll 55 rfl) rfl ?_
              obtain ⟨x46, h45, H⟩ := obnd H
              refine jc_SN (pc := 106) (st := [.int (s41 26 0 0), .ref (ad 9)]) (c_SR_bit G _ x11 _ h45) L0_SR_bit wt413 w414 (jd k_Room_openAll 56 rfl) rfl (Nat.le_of_ble_eq_true rfl) (by decide) (Nat.le_refl _) (Nat.le_refl _) rfl rfl ?_
              refine j_ior (pc := 109) (jd k_Room_openAll 57 rfl) ?_
              obtain ⟨s47, e48, H⟩ := olet H
              refine j_put (pc := 110) (fs := flRm ad s41) (fp_Room_84_7 _) 9 (jd k_Room_openAll 58 rfl) rfl rfl rfl (Nat.le_of_ble_eq_true rfl) ((wrRm_13 ad G s41 _).trans (congrArg (mkC ad G) e48)) ?_
              refine j_aload_n (pc := 113) 0 (jd k_Room_openAll 59 rfl) rfl ?_
              refine j_aload_n (pc := 114) 0 (jd k_Room_openAll 60 rfl) rfl ?_
              refine j_get (pc := 115) (fs := flRm ad s47) (v := .ref (ad (11 + (gnum (s47 50 0 0))))) fl_Room_34_7 9 (jd k_Room_openAll 61 rfl) rfl rfl ?_
              refine j_aload_n (pc := 118) 0 (jd k_Room_openAll 62 rfl) rfl ?_
              refine j_get (pc := 119) (fs := flRm ad s47) (v := .int (s47 27 0 0)) fl_Room_90_7 9 (jd k_Room_openAll 63 rfl) rfl rfl ?_
              refine j_aload_n (pc := 122) 0 (jd k_Room_openAll 64 rfl) rfl ?_
              refine j_get (pc := 123) (fs := flRm ad s47) (v := .ref (ad (11 + (gnum (s47 50 0 0))))) fl_Room_34_7 9 (jd k_Room_openAll 65 rfl) rfl rfl ?_
              refine j_aload_n (pc := 126) 0 (jd k_Room_openAll 66 rfl) rfl ?_
              refine j_get (pc := 127) (fs := flRm ad s47) (v := .ref (ad (11 + (gnum (s47 50 0 0))))) fl_Room_34_7 9 (jd k_Room_openAll 67 rfl) rfl rfl ?_
              refine g_gen (pc := 130) fl_Room_237_9 fl_Room_237_3 (g := gnum (s47 50 0 0)) (gnum_lt _) (jd k_Room_openAll 68 rfl) ?_
              refine j_aload_n (pc := 133) 0 (jd k_Room_openAll 69 rfl) rfl ?_
              refine j_get (pc := 134) (fs := flRm ad s47) (v := .ref (ad (5 + 16 * 1))) fl_Room_50_7 9 (jd k_Room_openAll 70 rfl) rfl rfl ?_
              refine j_iconst (pc := 137) (v := 0) (jd k_Room_openAll 71 rfl) (by decide) ?_
              obtain ⟨x50, h49, H⟩ := obnd H
              refine jc_V (pc := 138) (st := [.int (ggen (gnum (s47 50 0 0))), .ref (ad (11 + (gnum (s47 50 0 0)))), .int (s47 27 0 0), .ref (ad (11 + (gnum (s47 50 0 0)))), .ref (ad 9)]) (c_Points_valueAt ad G 1 (by decide) 0 s47 _ h49) L0_Points_valueAt w868 w576 w577 (5 + 16 * 1) (lkPt ad G s47 (by decide)) rfl (jd k_Room_openAll 72 rfl) rfl (Nat.le_of_ble_eq_true rfl) (by decide) (Nat.le_refl _) (Nat.le_refl _) rfl rfl ?_
              obtain ⟨x52, h51, H⟩ := obnd H
              refine vG_power (pc := 141) (st := [.int (s47 27 0 0), .ref (ad (11 + (gnum (s47 50 0 0)))), .ref (ad 9)]) (gnum (s47 50 0 0)) (gnum_lt _) (ggen (gnum (s47 50 0 0))) x50 s47 _ h51 w847 (jd k_Room_openAll 73 rfl) (Nat.le_of_ble_eq_true rfl) (by decide) (Nat.le_refl _) (Nat.le_refl _) ?_
              obtain ⟨x54, h53, H⟩ := obnd H
              refine vG_product (pc := 144) (st := [.ref (ad 9)]) (gnum (s47 50 0 0)) (gnum_lt _) (s47 27 0 0) x52 s47 _ h53 w860 (jd k_Room_openAll 74 rfl) (Nat.le_of_ble_eq_true rfl) (by decide) (Nat.le_refl _) (Nat.le_refl _) ?_
              obtain ⟨s55, e56, H⟩ := olet H
              refine j_put (pc := 147) (fs := flRm ad s47) (fp_Room_90_7 _) 9 (jd k_Room_openAll 75 rfl) rfl rfl rfl (Nat.le_of_ble_eq_true rfl) ((wrRm_14 ad G s47 _).trans (congrArg (mkC ad G) e56)) ?_
              cases H
              exact K67
            · rw [if_neg h44] at H
              refine j_iconst (pc := 95) (v := 1) (jd k_Room_openAll 49 rfl) (by decide) ?_
              refine j_istore_n (pc := 96) (lv' := [(0, .ref (ad 9)), (1, .int 1), (2, .int x11)]) (jd k_Room_openAll 50 rfl) rfl (Nat.le_of_ble_eq_true rfl) rfl ?_
              refine j_goto (pc := 97) (tgt := 150) (jd k_Room_openAll 51 rfl) rfl ?_
              cases H
              exact K67
          · rw [if_neg (not_not_intro h39)] at H
            refine j_aload_n (pc := 46) 0 (jd k_Room_openAll 24 rfl) rfl ?_
            refine j_aload_n (pc := 47) 0 (jd k_Room_openAll 25 rfl) rfl ?_
            refine j_get (pc := 48) (fs := flRm ad s12) (v := .ref (ad (11 + (gnum (s12 50 0 0))))) fl_Room_34_7 9 (jd k_Room_openAll 26 rfl) rfl rfl ?_
            refine j_aload_n (pc := 51) 0 (jd k_Room_openAll 27 rfl) rfl ?_
            refine j_get (pc := 52) (fs := flRm ad s12) (v := .int (s12 27 0 0)) fl_Room_90_7 9 (jd k_Room_openAll 28 rfl) rfl rfl ?_
            refine j_aload_n (pc := 55) 0 (jd k_Room_openAll 29 rfl) rfl ?_
            refine j_iload_n (pc := 56) 2 (jd k_Room_openAll 30 rfl) rfl ?_
            obtain ⟨k57, h58, H⟩ := obnd H
            have hk57 : k57 < 7 := jidx.lt h58
            refine jc_V (pc := 57) (st := [.int (s12 27 0 0), .ref (ad (11 + (gnum (s12 50 0 0)))), .ref (ad 9)]) (c_Room_party ad G x11 s12 k57 h58) L0_Room_party w401 w403 w1 9 rfl rfl (jd k_Room_openAll 31 rfl) rfl (Nat.le_of_ble_eq_true rfl) (by decide) (Nat.le_refl _) (Nat.le_refl _) rfl rfl ?_
            refine j_get (pc := 60) (fs := flPy ad s12 k57) (v := .ref (ad (31 + 15 * k57))) fl_Room_138_4 (26 + 15 * k57) (jd k_Room_openAll 32 rfl) (lkPy ad G s12 hk57) rfl ?_
            refine j_iconst (pc := 63) (v := 1) (jd k_Room_openAll 33 rfl) (by decide) ?_
            refine j_aald (pc := 64) (t0 := 6) (v := ad (32 + 15 * k57 + 1)) (31 + 15 * k57) (jd k_Room_openAll 34 rfl) (lkAA_5 ad G s12 hk57) rfl rfl (jidx.vp jidx1) (jidx.row jidx1 ad (jrow15 _ _)) ?_
            refine j_iconst (pc := 65) (v := 0) (jd k_Room_openAll 35 rfl) (by decide) ?_
            obtain ⟨h59, H⟩ := ochk H
            refine j_iald (pc := 66) (f := s12 4 k57) (32 + 15 * k57 + 1) (jd k_Room_openAll 36 rfl) (lkR_5 ad G s12 hk57 (w := 1) jlt1) (jin.vp h59) ?_
            obtain ⟨x61, h60, H⟩ := obnd H
            refine vG_product (pc := 67) (st := [.ref (ad 9)]) (gnum (s12 50 0 0)) (gnum_lt _) (s12 27 0 0) (s12 4 k57 (0 : Int32).toNatClampNeg) s12 _ h60 w860 (jd k_Room_openAll 37 rfl) (Nat.le_of_ble_eq_true rfl) (by decide) (Nat.le_refl _) (Nat.le_refl _) ?_
            obtain ⟨s62, e63, H⟩ := olet H
            refine j_put (pc := 70) (fs := flRm ad s12) (fp_Room_90_7 _) 9 (jd k_Room_openAll 38 rfl) rfl rfl rfl (Nat.le_of_ble_eq_true rfl) ((wrRm_14 ad G s12 _).trans (congrArg (mkC ad G) e63)) ?_
            refine j_goto (pc := 73) (tgt := 150) (jd k_Room_openAll 39 rfl) rfl ?_
            cases H
            exact K67
      · rw [if_neg (not_not_intro h16)] at H
        refine j_goto (pc := 20) (tgt := 150) (jd k_Room_openAll 12 rfl) rfl ?_
        cases H
        exact K67

set_option maxRecDepth 20000 in
theorem c_Room_openAll (ad : Nat → Nat) (G : jG) (s : jU) (r : jU) (H : f_Room_openAll s = some r) : jCon G m_Room_openAll y_Room_openAll 5 0 0 [.ref (ad 9)] (mkC ad G s) (jEq none (mkC ad G r)) := by
  refine jCon.of (by decide +kernel) rfl rfl rfl (Nat.le_of_ble_eq_true rfl) rfl ?_
  have H : (
  Option.bind (L_Room_openAll_4 jF 0 1 s) fun (x70, x71, s72) =>
  Option.bind (α := Int32) (
    if x70 = 0 then
      some 2
    else
      some 3) fun x75 =>
  jlet (ups s72 22 0 (fun _ => x75)) fun s78 =>
  some s78) = some r := H
  generalize hP9 : jEq none (mkC ad G r) = P
  refine j_iconst (pc := 0) (v := 0) (jd k_Room_openAll 0 rfl) (by decide) ?_
  refine j_istore_n (pc := 1) (lv' := [(0, .ref (ad 9)), (1, .int 0)]) (jd k_Room_openAll 1 rfl) rfl (Nat.le_of_ble_eq_true rfl) rfl ?_
  refine j_iconst (pc := 2) (v := 1) (jd k_Room_openAll 2 rfl) (by decide) ?_
  refine j_istore_n (pc := 3) (lv' := [(0, .ref (ad 9)), (1, .int 0), (2, .int 1)]) (jd k_Room_openAll 3 rfl) rfl (Nat.le_of_ble_eq_true rfl) rfl ?_
  obtain ⟨⟨x70, x71, s72⟩, h73, H⟩ := obnd H
  try dsimp only at H
  refine lp_Room_openAll_4  jF 0 1 s _ h73 ?_
  refine j_pick (lv' := [(0, .ref (ad 9)), (1, .int x70)]) [0, 1] rfl ?_
  refine j_aload_n (pc := 156) 0 (jd k_Room_openAll 78 rfl) rfl ?_
  refine j_iload_n (pc := 157) 1 (jd k_Room_openAll 79 rfl) rfl ?_
  obtain ⟨x75, h76, H⟩ := obnd H
  have K77 : J G m_Room_openAll 5 0 0 P 166 [] [.int x75, .ref (ad 9)] (mkC ad G s72) 0 0 := by
    obtain ⟨s78, e79, H⟩ := olet H
    refine j_put (pc := 166) (fs := flRm ad s72) (fp_Room_72_7 _) 9 (jd k_Room_openAll 84 rfl) rfl rfl rfl (Nat.le_of_ble_eq_true rfl) ((wrRm_9 ad G s72 _).trans (congrArg (mkC ad G) e79)) ?_
    cases H
    subst hP9
    exact j_vret (pc := 169) (jd k_Room_openAll 85 rfl) rfl ⟨rfl, rfl⟩
  have H := h76
  refine j_if_eq (pc := 158) (tgt := 165) (jd k_Room_openAll 80 rfl) rfl (fun h74 => ?_) (fun h74 => ?_)
  · rw [if_pos h74] at H
    refine j_iconst (pc := 165) (v := 2) (jd k_Room_openAll 83 rfl) (by decide) ?_
    cases H
    exact j_pick [] rfl K77
  · rw [if_neg h74] at H
    refine j_iconst (pc := 161) (v := 3) (jd k_Room_openAll 81 rfl) (by decide) ?_
    refine j_goto (pc := 162) (tgt := 166) (jd k_Room_openAll 82 rfl) rfl ?_
    cases H
    exact j_pick [] rfl K77

set_option maxRecDepth 20000 in
theorem c_Room_advance (ad : Nat → Nat) (G : jG) (s : jU) (r : Int32 × jU) (H : f_Room_advance s = some r) : jCon G m_Room_advance y_Room_advance 6 0 0 [.ref (ad 9)] (mkC ad G s) (jEq (some (.int r.1)) (mkC ad G r.2)) := by
  refine jCon.of (by decide +kernel) rfl rfl rfl (Nat.le_of_ble_eq_true rfl) rfl ?_
  have H : (
  jlet (ups s 23 0 (fun _ => (s 23 0 0) + 1)) fun s10 =>
  Option.bind (α := jU) (
    if (s10 23 0 0) = 1 then
      Option.bind (f_Room_dealAll s10) fun s19 =>
      some s19
    else
      if (s10 23 0 0) = 2 then
        Option.bind (f_Room_complainAll s10) fun s21 =>
        some s21
      else
        if (s10 23 0 0) = 3 then
          Option.bind (f_Room_answerAll s10) fun s23 =>
          some s23
        else
          if (s10 23 0 0) = 4 then
            Option.bind (f_Room_judgeAll s10) fun s25 =>
            some s25
          else
            if (s10 23 0 0) = 5 then
              Option.bind (f_Room_extractAll s10) fun s27 =>
              some s27
            else
              if (s10 23 0 0) = 6 then
                Option.bind (f_Room_accuseAll s10) fun s29 =>
                some s29
              else
                Option.bind (f_Room_openAll s10) fun s31 =>
                some s31) fun s32 =>
  some (s32 23 0 0, s32)) = some r := H
  generalize hP9 : jEq (some (.int r.1)) (mkC ad G r.2) = P
  refine j_aload_n (pc := 0) 0 (jd k_Room_advance 0 rfl) rfl ?_
  refine j_dup (pc := 1) (jd k_Room_advance 1 rfl) rfl ?_
  refine j_get (pc := 2) (fs := flRm ad s) (v := .int (s 23 0 0)) fl_Room_75_7 9 (jd k_Room_advance 2 rfl) rfl rfl ?_
  refine j_iconst (pc := 5) (v := 1) (jd k_Room_advance 3 rfl) (by decide) ?_
  refine j_iadd (pc := 6) (jd k_Room_advance 4 rfl) ?_
  obtain ⟨s10, e11, H⟩ := olet H
  refine j_put (pc := 7) (fs := flRm ad s) (fp_Room_75_7 _) 9 (jd k_Room_advance 5 rfl) rfl rfl rfl (Nat.le_of_ble_eq_true rfl) ((wrRm_10 ad G s _).trans (congrArg (mkC ad G) e11)) ?_
  refine j_aload_n (pc := 10) 0 (jd k_Room_advance 6 rfl) rfl ?_
  refine j_get (pc := 11) (fs := flRm ad s10) (v := .int (s10 23 0 0)) fl_Room_75_7 9 (jd k_Room_advance 7 rfl) rfl rfl ?_
  obtain ⟨s32, h33, H⟩ := obnd H
  have K34 : J G m_Room_advance 6 0 0 P 98 [(0, .ref (ad 9))] [] (mkC ad G s32) 0 0 := by
    refine j_aload_n (pc := 98) 0 (jd k_Room_advance 29 rfl) rfl ?_
    refine j_get (pc := 99) (fs := flRm ad s32) (v := .int (s32 23 0 0)) fl_Room_75_7 9 (jd k_Room_advance 30 rfl) rfl rfl ?_
    cases H
    subst hP9
    exact j_iret (pc := 102) (jd k_Room_advance 31 rfl) rfl rfl ⟨rfl, rfl⟩
  have H := h33
  by_cases h12 : (s10 23 0 0) = 1
  · rw [if_pos h12] at H
    refine j_tabIn (pc := 14) (tgt := 52) (jd k_Room_advance 8 rfl) (by rw [h12]; decide) (by rw [h12]; decide) (by rw [h12]; rfl) rfl ?_
    refine j_aload_n (pc := 52) 0 (jd k_Room_advance 9 rfl) rfl ?_
    obtain ⟨s19, h18, H⟩ := obnd H
    refine jc_V (pc := 53) (st := []) (c_Room_dealAll ad G s10 _ h18) L0_Room_dealAll w716 w718 w6 9 rfl rfl (jd k_Room_advance 10 rfl) rfl (Nat.le_of_ble_eq_true rfl) (by decide) (Nat.le_refl _) (Nat.le_refl _) rfl rfl ?_
    refine j_goto (pc := 56) (tgt := 98) (jd k_Room_advance 11 rfl) rfl ?_
    cases H
    exact K34
  · rw [if_neg h12] at H
    by_cases h13 : (s10 23 0 0) = 2
    · rw [if_pos h13] at H
      refine j_tabIn (pc := 14) (tgt := 59) (jd k_Room_advance 8 rfl) (by rw [h13]; decide) (by rw [h13]; decide) (by rw [h13]; rfl) rfl ?_
      refine j_aload_n (pc := 59) 0 (jd k_Room_advance 12 rfl) rfl ?_
      obtain ⟨s21, h20, H⟩ := obnd H
      refine jc_V (pc := 60) (st := []) (c_Room_complainAll ad G s10 _ h20) L0_Room_complainAll w773 w775 w9 9 rfl rfl (jd k_Room_advance 13 rfl) rfl (Nat.le_of_ble_eq_true rfl) (by decide) (Nat.le_refl _) (Nat.le_refl _) rfl rfl ?_
      refine j_goto (pc := 63) (tgt := 98) (jd k_Room_advance 14 rfl) rfl ?_
      cases H
      exact K34
    · rw [if_neg h13] at H
      by_cases h14 : (s10 23 0 0) = 3
      · rw [if_pos h14] at H
        refine j_tabIn (pc := 14) (tgt := 66) (jd k_Room_advance 8 rfl) (by rw [h14]; decide) (by rw [h14]; decide) (by rw [h14]; rfl) rfl ?_
        refine j_aload_n (pc := 66) 0 (jd k_Room_advance 15 rfl) rfl ?_
        obtain ⟨s23, h22, H⟩ := obnd H
        refine jc_V (pc := 67) (st := []) (c_Room_answerAll ad G s10 _ h22) L0_Room_answerAll w792 w794 w12 9 rfl rfl (jd k_Room_advance 16 rfl) rfl (Nat.le_of_ble_eq_true rfl) (by decide) (Nat.le_refl _) (Nat.le_refl _) rfl rfl ?_
        refine j_goto (pc := 70) (tgt := 98) (jd k_Room_advance 17 rfl) rfl ?_
        cases H
        exact K34
      · rw [if_neg h14] at H
        by_cases h15 : (s10 23 0 0) = 4
        · rw [if_pos h15] at H
          refine j_tabIn (pc := 14) (tgt := 73) (jd k_Room_advance 8 rfl) (by rw [h15]; decide) (by rw [h15]; decide) (by rw [h15]; rfl) rfl ?_
          refine j_aload_n (pc := 73) 0 (jd k_Room_advance 18 rfl) rfl ?_
          obtain ⟨s25, h24, H⟩ := obnd H
          refine jc_V (pc := 74) (st := []) (c_Room_judgeAll ad G s10 _ h24) L0_Room_judgeAll w809 w811 w15 9 rfl rfl (jd k_Room_advance 19 rfl) rfl (Nat.le_of_ble_eq_true rfl) (by decide) (Nat.le_refl _) (Nat.le_refl _) rfl rfl ?_
          refine j_goto (pc := 77) (tgt := 98) (jd k_Room_advance 20 rfl) rfl ?_
          cases H
          exact K34
        · rw [if_neg h15] at H
          by_cases h16 : (s10 23 0 0) = 5
          · rw [if_pos h16] at H
            refine j_tabIn (pc := 14) (tgt := 80) (jd k_Room_advance 8 rfl) (by rw [h16]; decide) (by rw [h16]; decide) (by rw [h16]; rfl) rfl ?_
            refine j_aload_n (pc := 80) 0 (jd k_Room_advance 21 rfl) rfl ?_
            obtain ⟨s27, h26, H⟩ := obnd H
            refine jc_V (pc := 81) (st := []) (c_Room_extractAll ad G s10 _ h26) L0_Room_extractAll w839 w841 w20 9 rfl rfl (jd k_Room_advance 22 rfl) rfl (Nat.le_of_ble_eq_true rfl) (by decide) (Nat.le_refl _) (Nat.le_refl _) rfl rfl ?_
            refine j_goto (pc := 84) (tgt := 98) (jd k_Room_advance 23 rfl) rfl ?_
            cases H
            exact K34
          · rw [if_neg h16] at H
            by_cases h17 : (s10 23 0 0) = 6
            · rw [if_pos h17] at H
              refine j_tabIn (pc := 14) (tgt := 87) (jd k_Room_advance 8 rfl) (by rw [h17]; decide) (by rw [h17]; decide) (by rw [h17]; rfl) rfl ?_
              refine j_aload_n (pc := 87) 0 (jd k_Room_advance 24 rfl) rfl ?_
              obtain ⟨s29, h28, H⟩ := obnd H
              refine jc_V (pc := 88) (st := []) (c_Room_accuseAll ad G s10 _ h28) L0_Room_accuseAll w848 w850 w22 9 rfl rfl (jd k_Room_advance 25 rfl) rfl (Nat.le_of_ble_eq_true rfl) (by decide) (Nat.le_refl _) (Nat.le_refl _) rfl rfl ?_
              refine j_goto (pc := 91) (tgt := 98) (jd k_Room_advance 26 rfl) rfl ?_
              cases H
              exact K34
            · rw [if_neg h17] at H
              refine j_tabOut (pc := 14) (tgt := 94) (jd k_Room_advance 8 rfl) (by have z0 := lv_neT h12 (show (1 : Int32).toInt = 1 from by decide); have z1 := lv_neT h13 (show (2 : Int32).toInt = 2 from by decide); have z2 := lv_neT h14 (show (3 : Int32).toInt = 3 from by decide); have z3 := lv_neT h15 (show (4 : Int32).toInt = 4 from by decide); have z4 := lv_neT h16 (show (5 : Int32).toInt = 5 from by decide); have z5 := lv_neT h17 (show (6 : Int32).toInt = 6 from by decide); omega) rfl ?_
              refine j_aload_n (pc := 94) 0 (jd k_Room_advance 27 rfl) rfl ?_
              obtain ⟨s31, h30, H⟩ := obnd H
              refine jc_V (pc := 95) (st := []) (c_Room_openAll ad G s10 _ h30) L0_Room_openAll w856 w858 w24 9 rfl rfl (jd k_Room_advance 28 rfl) rfl (Nat.le_of_ble_eq_true rfl) (by decide) (Nat.le_refl _) (Nat.le_refl _) rfl rfl ?_
              cases H
              exact K34

set_option maxRecDepth 20000 in
theorem c_SR_next (ad : Nat → Nat) (G : jG) (s : jU) (r : String ⊕ (Int32 × jU)) (H : f_SR_next s = some r) : jCon G m_SR_next y_SR_next 7 1 6 [.ref (ad 0)] (mkC ad G s) (jRs (mkC ad G s) (fun a => some (.int a.1)) (fun a => mkC ad G a.2) r) := by
  refine jCon.of (by decide +kernel) rfl rfl rfl (Nat.le_of_ble_eq_true rfl) rfl ?_
  have H : (
  Option.bind (f_Room_stage s) fun x11 =>
  if x11 = 1 then
    Option.bind (f_Room_advance s) fun (x14, s15) =>
    some (.inr (x14, s15))
  else
    some (.inl "java/lang/IllegalStateException")) = some r := H
  generalize hP9 : jRs (mkC ad G s) (fun a => some (.int a.1)) (fun a => mkC ad G a.2) r = P
  refine j_aload_n (pc := 0) 0 (jd k_SR_next 0 rfl) rfl ?_
  refine j_get (pc := 1) (fs := [.ref (ad 1), .ref (ad 5), .ref (ad 9)]) (v := .ref (ad 9)) fl_SR_43_0 0 (jd k_SR_next 1 rfl) rfl rfl ?_
  obtain ⟨x11, h10, H⟩ := obnd H
  refine jc_V (pc := 4) (st := []) (c_Room_stage ad G s _ h10) L0_Room_stage w373 w374 w375 9 rfl rfl (jd k_SR_next 2 rfl) rfl (Nat.le_of_ble_eq_true rfl) (by decide) (by decide) (by decide) rfl rfl ?_
  refine j_iconst (pc := 7) (v := 1) (jd k_SR_next 3 rfl) (by decide) ?_
  refine j_icmp_eq (pc := 8) (tgt := 21) (jd k_SR_next 4 rfl) rfl (fun h12 => ?_) (fun h12 => ?_)
  · rw [if_pos h12] at H
    refine j_aload_n (pc := 21) 0 (jd k_SR_next 10 rfl) rfl ?_
    refine j_get (pc := 22) (fs := [.ref (ad 1), .ref (ad 5), .ref (ad 9)]) (v := .ref (ad 9)) fl_SR_43_0 0 (jd k_SR_next 11 rfl) rfl rfl ?_
    obtain ⟨⟨x14, s15⟩, h13, H⟩ := obnd H
    try dsimp only at H
    refine jc_V (pc := 25) (st := []) (c_Room_advance ad G s _ h13) L0_Room_advance w712 w713 w714 9 rfl rfl (jd k_SR_next 12 rfl) rfl (Nat.le_of_ble_eq_true rfl) (by decide) (by decide) (by decide) rfl rfl ?_
    cases H
    subst hP9
    refine j_widen (k' := 1) (n' := 6) (by decide) (by decide) ?_
    exact j_iret (pc := 28) (jd k_SR_next 13 rfl) rfl rfl ⟨rfl, rfl⟩
  · rw [if_neg h12] at H
    cases H
    subst hP9
    exact j_throw (pc := 11) fit_IllegalStateException ex_SR_74 wt542 wt543 wt80 wt711 (jd k_SR_next 5 rfl) (jd k_SR_next 6 rfl) (jd k_SR_next 7 rfl) (jd k_SR_next 8 rfl) (jd k_SR_next 9 rfl) rfl (by decide) (Nat.le_of_ble_eq_true rfl) (by decide) (by decide) ⟨rfl, rfl⟩

set_option maxRecDepth 20000 in
theorem c_Room_complaintBits (ad : Nat → Nat) (G : jG) (p0 : Int32) (s : jU) (r : Int32) (H : f_Room_complaintBits p0 s = some r) : jCon G m_Room_complaintBits y_Room_complaintBits 1 0 0 [.ref (ad 9), .int p0] (mkC ad G s) (jEq (some (.int r)) (mkC ad G s)) := by
  refine jCon.of (by decide +kernel) rfl rfl rfl (Nat.le_of_ble_eq_true rfl) rfl ?_
  have H : (
  Option.bind (jidx (p0 - 1) 7) fun k10 =>
  Option.bind (f_Room_everybody s) fun x13 =>
  some ((s 11 k10 0) &&& x13)) = some r := H
  generalize hP9 : jEq (some (.int r)) (mkC ad G s) = P
  refine j_aload_n (pc := 0) 0 (jd k_Room_complaintBits 0 rfl) rfl ?_
  refine j_iload_n (pc := 1) 1 (jd k_Room_complaintBits 1 rfl) rfl ?_
  obtain ⟨k10, h11, H⟩ := obnd H
  have hk10 : k10 < 7 := jidx.lt h11
  refine jc_V (pc := 2) (st := []) (c_Room_party ad G p0 s k10 h11) L0_Room_party w401 w403 w1 9 rfl rfl (jd k_Room_complaintBits 2 rfl) rfl (Nat.le_of_ble_eq_true rfl) (by decide) (Nat.le_refl _) (Nat.le_refl _) rfl rfl ?_
  refine j_get (pc := 5) (fs := flPy ad s k10) (v := .int (s 11 k10 0)) fl_Room_133_4 (26 + 15 * k10) (jd k_Room_complaintBits 3 rfl) (lkPy ad G s hk10) rfl ?_
  refine j_aload_n (pc := 8) 0 (jd k_Room_complaintBits 4 rfl) rfl ?_
  obtain ⟨x13, h12, H⟩ := obnd H
  refine jc_V (pc := 9) (st := [.int (s 11 k10 0)]) (c_Room_everybody ad G s _ h12) L0_Room_everybody w385 w387 w0 9 rfl rfl (jd k_Room_complaintBits 5 rfl) rfl (Nat.le_of_ble_eq_true rfl) (by decide) (Nat.le_refl _) (Nat.le_refl _) rfl rfl ?_
  refine j_iand (pc := 12) (jd k_Room_complaintBits 6 rfl) ?_
  cases H
  subst hP9
  exact j_iret (pc := 13) (jd k_Room_complaintBits 7 rfl) rfl rfl ⟨rfl, rfl⟩

set_option maxRecDepth 20000 in
theorem c_SR_complaints (ad : Nat → Nat) (G : jG) (p0 : Int32) (s : jU) (r : String ⊕ (Int32)) (H : f_SR_complaints p0 s = some r) : jCon G m_SR_complaints y_SR_complaints 5 1 6 [.ref (ad 0), .int p0] (mkC ad G s) (jRs (mkC ad G s) (fun a => some (.int a)) (fun _ => (mkC ad G s)) r) := by
  refine jCon.of (by decide +kernel) rfl rfl rfl (Nat.le_of_ble_eq_true rfl) rfl ?_
  have H : (
  jtry (f_SR_needParty p0 s) fun _ =>
  Option.bind (f_Room_complaintBits p0 s) fun x12 =>
  some (.inr x12)) = some r := H
  generalize hP9 : jRs (mkC ad G s) (fun a => some (.int a)) (fun _ => (mkC ad G s)) r = P
  refine j_aload_n (pc := 0) 0 (jd k_SR_complaints 0 rfl) rfl ?_
  refine j_iload_n (pc := 1) 1 (jd k_SR_complaints 1 rfl) rfl ?_
  rcases otry H with ⟨E9, h10, H⟩ | ⟨a9, h10, H⟩
  · subst H
    subst hP9
    exact j_thrV (pc := 2) (st := []) (c_SR_needParty ad G p0 s (.inl E9) h10) L0_SR_needParty (fun v w q => by cases q.1) w638 w640 w3 0 rfl rfl (jd k_SR_complaints 2 rfl) rfl (Nat.le_of_ble_eq_true rfl) (by decide) (by decide) (by decide) rfl rfl (fun E w q => q)
  · refine jt_V (pc := 2) (st := []) (c_SR_needParty ad G p0 s (.inr a9) h10) L0_SR_needParty w638 w640 w3 0 rfl rfl (jd k_SR_complaints 2 rfl) rfl (Nat.le_of_ble_eq_true rfl) (by decide) (by decide) (by decide) rfl rfl rfl ?_
    refine j_aload_n (pc := 5) 0 (jd k_SR_complaints 3 rfl) rfl ?_
    refine j_get (pc := 6) (fs := [.ref (ad 1), .ref (ad 5), .ref (ad 9)]) (v := .ref (ad 9)) fl_SR_43_0 0 (jd k_SR_complaints 4 rfl) rfl rfl ?_
    refine j_iload_n (pc := 9) 1 (jd k_SR_complaints 5 rfl) rfl ?_
    obtain ⟨x12, h11, H⟩ := obnd H
    refine jc_V (pc := 10) (st := []) (c_Room_complaintBits ad G p0 s _ h11) L0_Room_complaintBits w876 w877 w878 9 rfl rfl (jd k_SR_complaints 6 rfl) rfl (Nat.le_of_ble_eq_true rfl) (by decide) (by decide) (by decide) rfl rfl ?_
    cases H
    subst hP9
    exact j_iret (pc := 13) (jd k_SR_complaints 7 rfl) rfl rfl ⟨rfl, rfl⟩

set_option maxRecDepth 20000 in
theorem c_Room_numberOf (ad : Nat → Nat) (G : jG) (p0 : Int32) (p1 : Int32) (p2 : Int32) (s : jU) (r : Int32) (H : f_Room_numberOf p0 p1 p2 s = some r) : jCon G m_Room_numberOf y_Room_numberOf 1 0 0 [.ref (ad 9), .int p0, .int p1, .int p2] (mkC ad G s) (jEq (some (.int r)) (mkC ad G s)) := by
  refine jCon.of (by decide +kernel) rfl rfl rfl (Nat.le_of_ble_eq_true rfl) rfl ?_
  have H : (
  Option.bind (jidx (p1 - 1) 7) fun k10 =>
  Option.bind (jidx p2 2) fun k12 =>
  if jin p0 8 then
  some (s (5 + k12) k10 p0.toNatClampNeg)
  else none) = some r := H
  generalize hP9 : jEq (some (.int r)) (mkC ad G s) = P
  refine j_aload_n (pc := 0) 0 (jd k_Room_numberOf 0 rfl) rfl ?_
  refine j_iload_n (pc := 1) 2 (jd k_Room_numberOf 1 rfl) rfl ?_
  obtain ⟨k10, h11, H⟩ := obnd H
  have hk10 : k10 < 7 := jidx.lt h11
  refine jc_V (pc := 2) (st := []) (c_Room_party ad G p1 s k10 h11) L0_Room_party w401 w403 w1 9 rfl rfl (jd k_Room_numberOf 2 rfl) rfl (Nat.le_of_ble_eq_true rfl) (by decide) (Nat.le_refl _) (Nat.le_refl _) rfl rfl ?_
  refine j_get (pc := 5) (fs := flPy ad s k10) (v := .ref (ad (34 + 15 * k10))) fl_Room_136_4 (26 + 15 * k10) (jd k_Room_numberOf 3 rfl) (lkPy ad G s hk10) rfl ?_
  refine j_iload_n (pc := 8) 3 (jd k_Room_numberOf 4 rfl) rfl ?_
  obtain ⟨k12, h13, H⟩ := obnd H
  have hk12 : k12 < 2 := jidx.lt h13
  refine j_aald (pc := 9) (t0 := 6) (v := ad (35 + 15 * k10 + k12)) (34 + 15 * k10) (jd k_Room_numberOf 5 rfl) (lkAA_8 ad G s hk10) rfl rfl (jidx.vp h13) (jidx.row h13 ad (jrow15 _ _)) ?_
  refine j_iload_n (pc := 10) 1 (jd k_Room_numberOf 6 rfl) rfl ?_
  obtain ⟨h14, H⟩ := ochk H
  refine j_iald (pc := 11) (f := s (5 + k12) k10) (35 + 15 * k10 + k12) (jd k_Room_numberOf 7 rfl) (lkR_8 ad G s hk10 (w := k12) hk12) (jin.vp h14) ?_
  cases H
  subst hP9
  exact j_iret (pc := 12) (jd k_Room_numberOf 8 rfl) rfl rfl ⟨rfl, rfl⟩

set_option maxRecDepth 20000 in
theorem c_SR_received (ad : Nat → Nat) (G : jG) (p0 : Int32) (p1 : Int32) (p2 : Int32) (s : jU) (r : String ⊕ (Int32)) (H : f_SR_received p0 p1 p2 s = some r) : jCon G m_SR_received y_SR_received 5 3 18 [.ref (ad 0), .int p0, .int p1, .int p2] (mkC ad G s) (jRs (mkC ad G s) (fun a => some (.int a)) (fun _ => (mkC ad G s)) r) := by
  refine jCon.of (by decide +kernel) rfl rfl rfl (Nat.le_of_ble_eq_true rfl) rfl ?_
  have H : (
  jtry (f_SR_needParty p0 s) fun _ =>
  jtry (f_SR_needParty p1 s) fun _ =>
  jtry (f_SR_needWhich p2) fun _ =>
  Option.bind (f_Room_numberOf p0 p1 p2 s) fun x14 =>
  some (.inr x14)) = some r := H
  generalize hP9 : jRs (mkC ad G s) (fun a => some (.int a)) (fun _ => (mkC ad G s)) r = P
  refine j_aload_n (pc := 0) 0 (jd k_SR_received 0 rfl) rfl ?_
  refine j_iload_n (pc := 1) 1 (jd k_SR_received 1 rfl) rfl ?_
  rcases otry H with ⟨E9, h10, H⟩ | ⟨a9, h10, H⟩
  · subst H
    subst hP9
    exact j_thrV (pc := 2) (st := []) (c_SR_needParty ad G p0 s (.inl E9) h10) L0_SR_needParty (fun v w q => by cases q.1) w638 w640 w3 0 rfl rfl (jd k_SR_received 2 rfl) rfl (Nat.le_of_ble_eq_true rfl) (by decide) (by decide) (by decide) rfl rfl (fun E w q => q)
  · refine jt_V (pc := 2) (st := []) (c_SR_needParty ad G p0 s (.inr a9) h10) L0_SR_needParty w638 w640 w3 0 rfl rfl (jd k_SR_received 2 rfl) rfl (Nat.le_of_ble_eq_true rfl) (by decide) (by decide) (by decide) rfl rfl rfl ?_
    refine j_aload_n (pc := 5) 0 (jd k_SR_received 3 rfl) rfl ?_
    refine j_iload_n (pc := 6) 2 (jd k_SR_received 4 rfl) rfl ?_
    rcases otry H with ⟨E9, h11, H⟩ | ⟨a9, h11, H⟩
    · subst H
      subst hP9
      exact j_thrV (pc := 7) (st := []) (c_SR_needParty ad G p1 s (.inl E9) h11) L0_SR_needParty (fun v w q => by cases q.1) w638 w640 w3 0 rfl rfl (jd k_SR_received 5 rfl) rfl (Nat.le_of_ble_eq_true rfl) (by decide) (by decide) (by decide) rfl rfl (fun E w q => q)
    · refine jt_V (pc := 7) (st := []) (c_SR_needParty ad G p1 s (.inr a9) h11) L0_SR_needParty w638 w640 w3 0 rfl rfl (jd k_SR_received 5 rfl) rfl (Nat.le_of_ble_eq_true rfl) (by decide) (by decide) (by decide) rfl rfl rfl ?_
      refine j_iload_n (pc := 10) 3 (jd k_SR_received 6 rfl) rfl ?_
      rcases otry H with ⟨E9, h12, H⟩ | ⟨a9, h12, H⟩
      · subst H
        subst hP9
        exact j_thrS (pc := 11) (st := []) (c_SR_needWhich ad G p2 s (.inl E9) h12) L0_SR_needWhich (fun v w q => by cases q.1) w656 w657 (jd k_SR_received 7 rfl) rfl (Nat.le_of_ble_eq_true rfl) (by decide) (by decide) (by decide) rfl rfl (fun E w q => q)
      · refine jt_S (pc := 11) (st := []) (c_SR_needWhich ad G p2 s (.inr a9) h12) L0_SR_needWhich w656 w657 (jd k_SR_received 7 rfl) rfl (Nat.le_of_ble_eq_true rfl) (by decide) (by decide) (by decide) rfl rfl rfl ?_
        refine j_aload_n (pc := 14) 0 (jd k_SR_received 8 rfl) rfl ?_
        refine j_get (pc := 15) (fs := [.ref (ad 1), .ref (ad 5), .ref (ad 9)]) (v := .ref (ad 9)) fl_SR_43_0 0 (jd k_SR_received 9 rfl) rfl rfl ?_
        refine j_iload_n (pc := 18) 1 (jd k_SR_received 10 rfl) rfl ?_
        refine j_iload_n (pc := 19) 2 (jd k_SR_received 11 rfl) rfl ?_
        refine j_iload_n (pc := 20) 3 (jd k_SR_received 12 rfl) rfl ?_
        obtain ⟨x14, h13, H⟩ := obnd H
        refine jc_V (pc := 21) (st := []) (c_Room_numberOf ad G p0 p1 p2 s _ h13) L0_Room_numberOf w887 w888 w889 9 rfl rfl (jd k_SR_received 13 rfl) rfl (Nat.le_of_ble_eq_true rfl) (by decide) (by decide) (by decide) rfl rfl ?_
        cases H
        subst hP9
        exact j_iret (pc := 24) (jd k_SR_received 14 rfl) rfl rfl ⟨rfl, rfl⟩

set_option maxRecDepth 20000 in
theorem c_Room_elementOf (ad : Nat → Nat) (G : jG) (p0 : Int32) (p1 : Int32) (p2 : Int32) (s : jU) (r : Int32) (H : f_Room_elementOf p0 p1 p2 s = some r) : jCon G m_Room_elementOf y_Room_elementOf 1 0 0 [.ref (ad 9), .int p0, .int p1, .int p2] (mkC ad G s) (jEq (some (.int r)) (mkC ad G s)) := by
  refine jCon.of (by decide +kernel) rfl rfl rfl (Nat.le_of_ble_eq_true rfl) rfl ?_
  have H : (
  Option.bind (jidx (p0 - 1) 7) fun k10 =>
  Option.bind (jidx p2 2) fun k12 =>
  if jin p1 7 then
  some (s (3 + k12) k10 p1.toNatClampNeg)
  else none) = some r := H
  generalize hP9 : jEq (some (.int r)) (mkC ad G s) = P
  refine j_aload_n (pc := 0) 0 (jd k_Room_elementOf 0 rfl) rfl ?_
  refine j_iload_n (pc := 1) 1 (jd k_Room_elementOf 1 rfl) rfl ?_
  obtain ⟨k10, h11, H⟩ := obnd H
  have hk10 : k10 < 7 := jidx.lt h11
  refine jc_V (pc := 2) (st := []) (c_Room_party ad G p0 s k10 h11) L0_Room_party w401 w403 w1 9 rfl rfl (jd k_Room_elementOf 2 rfl) rfl (Nat.le_of_ble_eq_true rfl) (by decide) (Nat.le_refl _) (Nat.le_refl _) rfl rfl ?_
  refine j_get (pc := 5) (fs := flPy ad s k10) (v := .ref (ad (31 + 15 * k10))) fl_Room_138_4 (26 + 15 * k10) (jd k_Room_elementOf 3 rfl) (lkPy ad G s hk10) rfl ?_
  refine j_iload_n (pc := 8) 3 (jd k_Room_elementOf 4 rfl) rfl ?_
  obtain ⟨k12, h13, H⟩ := obnd H
  have hk12 : k12 < 2 := jidx.lt h13
  refine j_aald (pc := 9) (t0 := 6) (v := ad (32 + 15 * k10 + k12)) (31 + 15 * k10) (jd k_Room_elementOf 5 rfl) (lkAA_5 ad G s hk10) rfl rfl (jidx.vp h13) (jidx.row h13 ad (jrow15 _ _)) ?_
  refine j_iload_n (pc := 10) 2 (jd k_Room_elementOf 6 rfl) rfl ?_
  obtain ⟨h14, H⟩ := ochk H
  refine j_iald (pc := 11) (f := s (3 + k12) k10) (32 + 15 * k10 + k12) (jd k_Room_elementOf 7 rfl) (lkR_5 ad G s hk10 (w := k12) hk12) (jin.vp h14) ?_
  cases H
  subst hP9
  exact j_iret (pc := 12) (jd k_Room_elementOf 8 rfl) rfl rfl ⟨rfl, rfl⟩

set_option maxRecDepth 20000 in
theorem c_SR_commitment (ad : Nat → Nat) (G : jG) (p0 : Int32) (p1 : Int32) (p2 : Int32) (s : jU) (r : String ⊕ (Int32)) (H : f_SR_commitment p0 p1 p2 s = some r) : jCon G m_SR_commitment y_SR_commitment 5 3 18 [.ref (ad 0), .int p0, .int p1, .int p2] (mkC ad G s) (jRs (mkC ad G s) (fun a => some (.int a)) (fun _ => (mkC ad G s)) r) := by
  refine jCon.of (by decide +kernel) rfl rfl rfl (Nat.le_of_ble_eq_true rfl) rfl ?_
  have H : (
  jtry (f_SR_needParty p0 s) fun _ =>
  jtry (f_SR_needCoefficient p1 s) fun _ =>
  jtry (f_SR_needWhich p2) fun _ =>
  Option.bind (f_Room_elementOf p0 p1 p2 s) fun x14 =>
  some (.inr x14)) = some r := H
  generalize hP9 : jRs (mkC ad G s) (fun a => some (.int a)) (fun _ => (mkC ad G s)) r = P
  refine j_aload_n (pc := 0) 0 (jd k_SR_commitment 0 rfl) rfl ?_
  refine j_iload_n (pc := 1) 1 (jd k_SR_commitment 1 rfl) rfl ?_
  rcases otry H with ⟨E9, h10, H⟩ | ⟨a9, h10, H⟩
  · subst H
    subst hP9
    exact j_thrV (pc := 2) (st := []) (c_SR_needParty ad G p0 s (.inl E9) h10) L0_SR_needParty (fun v w q => by cases q.1) w638 w640 w3 0 rfl rfl (jd k_SR_commitment 2 rfl) rfl (Nat.le_of_ble_eq_true rfl) (by decide) (by decide) (by decide) rfl rfl (fun E w q => q)
  · refine jt_V (pc := 2) (st := []) (c_SR_needParty ad G p0 s (.inr a9) h10) L0_SR_needParty w638 w640 w3 0 rfl rfl (jd k_SR_commitment 2 rfl) rfl (Nat.le_of_ble_eq_true rfl) (by decide) (by decide) (by decide) rfl rfl rfl ?_
    refine j_aload_n (pc := 5) 0 (jd k_SR_commitment 3 rfl) rfl ?_
    refine j_iload_n (pc := 6) 2 (jd k_SR_commitment 4 rfl) rfl ?_
    rcases otry H with ⟨E9, h11, H⟩ | ⟨a9, h11, H⟩
    · subst H
      subst hP9
      exact j_thrV (pc := 7) (st := []) (c_SR_needCoefficient ad G p1 s (.inl E9) h11) L0_SR_needCoefficient (fun v w q => by cases q.1) w647 w649 w4 0 rfl rfl (jd k_SR_commitment 5 rfl) rfl (Nat.le_of_ble_eq_true rfl) (by decide) (by decide) (by decide) rfl rfl (fun E w q => q)
    · refine jt_V (pc := 7) (st := []) (c_SR_needCoefficient ad G p1 s (.inr a9) h11) L0_SR_needCoefficient w647 w649 w4 0 rfl rfl (jd k_SR_commitment 5 rfl) rfl (Nat.le_of_ble_eq_true rfl) (by decide) (by decide) (by decide) rfl rfl rfl ?_
      refine j_iload_n (pc := 10) 3 (jd k_SR_commitment 6 rfl) rfl ?_
      rcases otry H with ⟨E9, h12, H⟩ | ⟨a9, h12, H⟩
      · subst H
        subst hP9
        exact j_thrS (pc := 11) (st := []) (c_SR_needWhich ad G p2 s (.inl E9) h12) L0_SR_needWhich (fun v w q => by cases q.1) w656 w657 (jd k_SR_commitment 7 rfl) rfl (Nat.le_of_ble_eq_true rfl) (by decide) (by decide) (by decide) rfl rfl (fun E w q => q)
      · refine jt_S (pc := 11) (st := []) (c_SR_needWhich ad G p2 s (.inr a9) h12) L0_SR_needWhich w656 w657 (jd k_SR_commitment 7 rfl) rfl (Nat.le_of_ble_eq_true rfl) (by decide) (by decide) (by decide) rfl rfl rfl ?_
        refine j_aload_n (pc := 14) 0 (jd k_SR_commitment 8 rfl) rfl ?_
        refine j_get (pc := 15) (fs := [.ref (ad 1), .ref (ad 5), .ref (ad 9)]) (v := .ref (ad 9)) fl_SR_43_0 0 (jd k_SR_commitment 9 rfl) rfl rfl ?_
        refine j_iload_n (pc := 18) 1 (jd k_SR_commitment 10 rfl) rfl ?_
        refine j_iload_n (pc := 19) 2 (jd k_SR_commitment 11 rfl) rfl ?_
        refine j_iload_n (pc := 20) 3 (jd k_SR_commitment 12 rfl) rfl ?_
        obtain ⟨x14, h13, H⟩ := obnd H
        refine jc_V (pc := 21) (st := []) (c_Room_elementOf ad G p0 p1 p2 s _ h13) L0_Room_elementOf w898 w899 w900 9 rfl rfl (jd k_SR_commitment 13 rfl) rfl (Nat.le_of_ble_eq_true rfl) (by decide) (by decide) (by decide) rfl rfl ?_
        cases H
        subst hP9
        exact j_iret (pc := 24) (jd k_SR_commitment 14 rfl) rfl rfl ⟨rfl, rfl⟩

set_option maxRecDepth 20000 in
theorem c_Room_shareOf (ad : Nat → Nat) (G : jG) (p0 : Int32) (p1 : Int32) (s : jU) (r : Int32) (H : f_Room_shareOf p0 p1 s = some r) : jCon G m_Room_shareOf y_Room_shareOf 1 0 0 [.ref (ad 9), .int p0, .int p1] (mkC ad G s) (jEq (some (.int r)) (mkC ad G s)) := by
  refine jCon.of (by decide +kernel) rfl rfl rfl (Nat.le_of_ble_eq_true rfl) rfl ?_
  have H : (
  Option.bind (jidx (p0 - 1) 7) fun k10 =>
  if jin p1 2 then
  some (s 9 k10 p1.toNatClampNeg)
  else none) = some r := H
  generalize hP9 : jEq (some (.int r)) (mkC ad G s) = P
  refine j_aload_n (pc := 0) 0 (jd k_Room_shareOf 0 rfl) rfl ?_
  refine j_iload_n (pc := 1) 1 (jd k_Room_shareOf 1 rfl) rfl ?_
  obtain ⟨k10, h11, H⟩ := obnd H
  have hk10 : k10 < 7 := jidx.lt h11
  refine jc_V (pc := 2) (st := []) (c_Room_party ad G p0 s k10 h11) L0_Room_party w401 w403 w1 9 rfl rfl (jd k_Room_shareOf 2 rfl) rfl (Nat.le_of_ble_eq_true rfl) (by decide) (Nat.le_refl _) (Nat.le_refl _) rfl rfl ?_
  refine j_get (pc := 5) (fs := flPy ad s k10) (v := .ref (ad (40 + 15 * k10))) fl_Room_141_4 (26 + 15 * k10) (jd k_Room_shareOf 3 rfl) (lkPy ad G s hk10) rfl ?_
  refine j_iload_n (pc := 8) 2 (jd k_Room_shareOf 4 rfl) rfl ?_
  obtain ⟨h12, H⟩ := ochk H
  refine j_iald (pc := 9) (f := s 9 k10) (40 + 15 * k10) (jd k_Room_shareOf 5 rfl) (lkA_14 ad G s hk10) (jin.vp h12) ?_
  cases H
  subst hP9
  exact j_iret (pc := 10) (jd k_Room_shareOf 6 rfl) rfl rfl ⟨rfl, rfl⟩

set_option maxRecDepth 20000 in
theorem c_SR_share (ad : Nat → Nat) (G : jG) (p0 : Int32) (p1 : Int32) (s : jU) (r : String ⊕ (Int32)) (H : f_SR_share p0 p1 s = some r) : jCon G m_SR_share y_SR_share 5 2 12 [.ref (ad 0), .int p0, .int p1] (mkC ad G s) (jRs (mkC ad G s) (fun a => some (.int a)) (fun _ => (mkC ad G s)) r) := by
  refine jCon.of (by decide +kernel) rfl rfl rfl (Nat.le_of_ble_eq_true rfl) rfl ?_
  have H : (
  jtry (f_SR_needParty p0 s) fun _ =>
  jtry (f_SR_needWhich p1) fun _ =>
  Option.bind (f_Room_shareOf p0 p1 s) fun x13 =>
  some (.inr x13)) = some r := H
  generalize hP9 : jRs (mkC ad G s) (fun a => some (.int a)) (fun _ => (mkC ad G s)) r = P
  refine j_aload_n (pc := 0) 0 (jd k_SR_share 0 rfl) rfl ?_
  refine j_iload_n (pc := 1) 1 (jd k_SR_share 1 rfl) rfl ?_
  rcases otry H with ⟨E9, h10, H⟩ | ⟨a9, h10, H⟩
  · subst H
    subst hP9
    exact j_thrV (pc := 2) (st := []) (c_SR_needParty ad G p0 s (.inl E9) h10) L0_SR_needParty (fun v w q => by cases q.1) w638 w640 w3 0 rfl rfl (jd k_SR_share 2 rfl) rfl (Nat.le_of_ble_eq_true rfl) (by decide) (by decide) (by decide) rfl rfl (fun E w q => q)
  · refine jt_V (pc := 2) (st := []) (c_SR_needParty ad G p0 s (.inr a9) h10) L0_SR_needParty w638 w640 w3 0 rfl rfl (jd k_SR_share 2 rfl) rfl (Nat.le_of_ble_eq_true rfl) (by decide) (by decide) (by decide) rfl rfl rfl ?_
    refine j_iload_n (pc := 5) 2 (jd k_SR_share 3 rfl) rfl ?_
    rcases otry H with ⟨E9, h11, H⟩ | ⟨a9, h11, H⟩
    · subst H
      subst hP9
      exact j_thrS (pc := 6) (st := []) (c_SR_needWhich ad G p1 s (.inl E9) h11) L0_SR_needWhich (fun v w q => by cases q.1) w656 w657 (jd k_SR_share 4 rfl) rfl (Nat.le_of_ble_eq_true rfl) (by decide) (by decide) (by decide) rfl rfl (fun E w q => q)
    · refine jt_S (pc := 6) (st := []) (c_SR_needWhich ad G p1 s (.inr a9) h11) L0_SR_needWhich w656 w657 (jd k_SR_share 4 rfl) rfl (Nat.le_of_ble_eq_true rfl) (by decide) (by decide) (by decide) rfl rfl rfl ?_
      refine j_aload_n (pc := 9) 0 (jd k_SR_share 5 rfl) rfl ?_
      refine j_get (pc := 10) (fs := [.ref (ad 1), .ref (ad 5), .ref (ad 9)]) (v := .ref (ad 9)) fl_SR_43_0 0 (jd k_SR_share 6 rfl) rfl rfl ?_
      refine j_iload_n (pc := 13) 1 (jd k_SR_share 7 rfl) rfl ?_
      refine j_iload_n (pc := 14) 2 (jd k_SR_share 8 rfl) rfl ?_
      obtain ⟨x13, h12, H⟩ := obnd H
      refine jc_V (pc := 15) (st := []) (c_Room_shareOf ad G p0 p1 s _ h12) L0_Room_shareOf w909 w910 w911 9 rfl rfl (jd k_SR_share 9 rfl) rfl (Nat.le_of_ble_eq_true rfl) (by decide) (by decide) (by decide) rfl rfl ?_
      cases H
      subst hP9
      exact j_iret (pc := 18) (jd k_SR_share 10 rfl) rfl rfl ⟨rfl, rfl⟩

set_option maxRecDepth 20000 in
theorem c_Board_byteAt (ad : Nat → Nat) (G : jG) (p0 : Int32) (s : jU) (r : Int32) (H : f_Board_byteAt p0 s = some r) : jCon G m_Board_byteAt y_Board_byteAt 0 0 0 [.ref (ad 15), .int p0] (mkC ad G s) (jEq (some (.int r)) (mkC ad G s)) := by
  refine jCon.of (by decide +kernel) rfl rfl rfl (Nat.le_of_ble_eq_true rfl) rfl ?_
  have H : (
  if jin p0 1050 then
  some ((s 40 0 p0.toNatClampNeg) &&& 255)
  else none) = some r := H
  generalize hP9 : jEq (some (.int r)) (mkC ad G s) = P
  refine j_aload_n (pc := 0) 0 (jd k_Board_byteAt 0 rfl) rfl ?_
  refine j_get (pc := 1) (fs := flBd ad s) (v := .ref (ad 16)) fl_Board_9_1 15 (jd k_Board_byteAt 1 rfl) rfl rfl ?_
  refine j_iload_n (pc := 4) 1 (jd k_Board_byteAt 2 rfl) rfl ?_
  obtain ⟨h10, H⟩ := ochk H
  refine j_bald (pc := 5) (f := s 40 0) 16 (jd k_Board_byteAt 3 rfl) rfl (jin.vp h10) ?_
  refine j_sipush (pc := 6) (v := 255) (jd k_Board_byteAt 4 rfl) (by decide) ?_
  refine j_iand (pc := 9) (jd k_Board_byteAt 5 rfl) ?_
  cases H
  subst hP9
  exact j_iret (pc := 10) (jd k_Board_byteAt 6 rfl) rfl rfl ⟨rfl, rfl⟩

set_option maxRecDepth 20000 in
theorem c_SR_told (ad : Nat → Nat) (G : jG) (p0 : Int32) (s : jU) (r : String ⊕ (Int32)) (H : f_SR_told p0 s = some r) : jCon G m_SR_told y_SR_told 4 1 6 [.ref (ad 0), .int p0] (mkC ad G s) (jRs (mkC ad G s) (fun a => some (.int a)) (fun _ => (mkC ad G s)) r) := by
  refine jCon.of (by decide +kernel) rfl rfl rfl (Nat.le_of_ble_eq_true rfl) rfl ?_
  have H : (
  if p0 < 0 then
    some (.inl "java/lang/IndexOutOfBoundsException")
  else
    Option.bind (f_Board_size s) fun x12 =>
    if p0 < x12 then
      Option.bind (f_Board_byteAt p0 s) fun x15 =>
      some (.inr x15)
    else
      some (.inl "java/lang/IndexOutOfBoundsException")) = some r := H
  generalize hP9 : jRs (mkC ad G s) (fun a => some (.int a)) (fun _ => (mkC ad G s)) r = P
  refine j_iload_n (pc := 0) 1 (jd k_SR_told 0 rfl) rfl ?_
  refine j_if_lt (pc := 1) (tgt := 18) (jd k_SR_told 1 rfl) rfl (fun h10 => ?_) (fun h10 => ?_)
  · rw [if_pos h10] at H
    cases H
    subst hP9
    exact j_throw (pc := 18) fit_IndexOutOfBoundsException ex_SR_190 wt921 wt922 wt85 wt930 (jd k_SR_told 8 rfl) (jd k_SR_told 9 rfl) (jd k_SR_told 10 rfl) (jd k_SR_told 11 rfl) (jd k_SR_told 12 rfl) rfl (by decide) (Nat.le_of_ble_eq_true rfl) (by decide) (by decide) ⟨rfl, rfl⟩
  · rw [if_neg h10] at H
    refine j_iload_n (pc := 4) 1 (jd k_SR_told 2 rfl) rfl ?_
    refine j_aload_n (pc := 5) 0 (jd k_SR_told 3 rfl) rfl ?_
    refine j_get (pc := 6) (fs := [.ref (ad 1), .ref (ad 5), .ref (ad 9)]) (v := .ref (ad 9)) fl_SR_43_0 0 (jd k_SR_told 4 rfl) rfl rfl ?_
    refine jc_V (pc := 9) (st := [.int p0]) (c_Room_shownToAll ad G s) L0_Room_shownToAll w420 w421 w422 9 rfl rfl (jd k_SR_told 5 rfl) rfl (Nat.le_of_ble_eq_true rfl) (by decide) (by decide) (by decide) rfl rfl ?_
    obtain ⟨x12, h11, H⟩ := obnd H
    refine jc_V (pc := 12) (st := [.int p0]) (c_Board_size ad G s _ h11) L0_Board_size w424 w425 w426 15 rfl rfl (jd k_SR_told 6 rfl) rfl (Nat.le_of_ble_eq_true rfl) (by decide) (by decide) (by decide) rfl rfl ?_
    refine j_icmp_lt (pc := 15) (tgt := 28) (jd k_SR_told 7 rfl) rfl (fun h13 => ?_) (fun h13 => ?_)
    · rw [if_pos h13] at H
      refine j_aload_n (pc := 28) 0 (jd k_SR_told 13 rfl) rfl ?_
      refine j_get (pc := 29) (fs := [.ref (ad 1), .ref (ad 5), .ref (ad 9)]) (v := .ref (ad 9)) fl_SR_43_0 0 (jd k_SR_told 14 rfl) rfl rfl ?_
      refine jc_V (pc := 32) (st := []) (c_Room_shownToAll ad G s) L0_Room_shownToAll w420 w421 w422 9 rfl rfl (jd k_SR_told 15 rfl) rfl (Nat.le_of_ble_eq_true rfl) (by decide) (by decide) (by decide) rfl rfl ?_
      refine j_iload_n (pc := 35) 1 (jd k_SR_told 16 rfl) rfl ?_
      obtain ⟨x15, h14, H⟩ := obnd H
      refine jc_V (pc := 36) (st := []) (c_Board_byteAt ad G p0 s _ h14) L0_Board_byteAt w937 w938 w939 15 rfl rfl (jd k_SR_told 17 rfl) rfl (Nat.le_of_ble_eq_true rfl) (by decide) (by decide) (by decide) rfl rfl ?_
      cases H
      subst hP9
      refine j_widen (k' := 1) (n' := 6) (by decide) (by decide) ?_
      exact j_iret (pc := 39) (jd k_SR_told 18 rfl) rfl rfl ⟨rfl, rfl⟩
    · rw [if_neg h13] at H
      cases H
      subst hP9
      exact j_throw (pc := 18) fit_IndexOutOfBoundsException ex_SR_190 wt921 wt922 wt85 wt930 (jd k_SR_told 8 rfl) (jd k_SR_told 9 rfl) (jd k_SR_told 10 rfl) (jd k_SR_told 11 rfl) (jd k_SR_told 12 rfl) rfl (by decide) (Nat.le_of_ble_eq_true rfl) (by decide) (by decide) ⟨rfl, rfl⟩

set_option maxRecDepth 20000 in
theorem c_Sha_padded (ad : Nat → Nat) (G : jG) (p1 : Int32) (p2 : Int32) (s : jU) (r : Int32) (H : f_Sha_padded p1 p2 s = some r) : jCon G m_Sha_padded y_Sha_padded 0 0 0 [.ref (ad 16), .int p1, .int p2] (mkC ad G s) (jEq (some (.int r)) (mkC ad G s)) := by
  refine jCon.of (by decide +kernel) rfl rfl rfl (Nat.le_of_ble_eq_true rfl) rfl ?_
  have H : (
  if p1 ≤ p2 then
    Option.bind (α := Int32) (
      if ¬ p2 = p1 then
        some 0
      else
        some 128) fun x12 =>
    some x12
  else
    if 1050 ≤ p2 then
      Option.bind (α := Int32) (
        if ¬ p2 = p1 then
          some 0
        else
          some 128) fun x17 =>
      some x17
    else
      if jin p2 1050 then
      some ((s 40 0 p2.toNatClampNeg) &&& 255)
      else none) = some r := H
  generalize hP9 : jEq (some (.int r)) (mkC ad G s) = P
  refine j_iload_n (pc := 0) 2 (jd k_Sha_padded 0 rfl) rfl ?_
  refine j_iload_n (pc := 1) 1 (jd k_Sha_padded 1 rfl) rfl ?_
  refine j_icmp_ge (pc := 2) (tgt := 19) (jd k_Sha_padded 2 rfl) rfl (fun h10 => ?_) (fun h10 => ?_)
  · rw [if_pos h10] at H
    refine j_iload_n (pc := 19) 2 (jd k_Sha_padded 13 rfl) rfl ?_
    refine j_iload_n (pc := 20) 1 (jd k_Sha_padded 14 rfl) rfl ?_
    obtain ⟨x12, h13, H⟩ := obnd H
    have K14 : J G m_Sha_padded 0 0 0 P 31 [] [.int x12] (mkC ad G s) 0 0 := by
      cases H
      subst hP9
      exact j_iret (pc := 31) (jd k_Sha_padded 19 rfl) rfl rfl ⟨rfl, rfl⟩
    have H := h13
    refine j_icmp_ne (pc := 21) (tgt := 30) (jd k_Sha_padded 15 rfl) rfl (fun h11 => ?_) (fun h11 => ?_)
    · rw [if_pos h11] at H
      refine j_iconst (pc := 30) (v := 0) (jd k_Sha_padded 18 rfl) (by decide) ?_
      cases H
      exact j_pick [] rfl K14
    · rw [if_neg (not_not_intro h11)] at H
      refine j_sipush (pc := 24) (v := 128) (jd k_Sha_padded 16 rfl) (by decide) ?_
      refine j_goto (pc := 27) (tgt := 31) (jd k_Sha_padded 17 rfl) rfl ?_
      cases H
      exact j_pick [] rfl K14
  · rw [if_neg h10] at H
    refine j_iload_n (pc := 5) 2 (jd k_Sha_padded 3 rfl) rfl ?_
    refine j_aload_n (pc := 6) 0 (jd k_Sha_padded 4 rfl) rfl ?_
    refine j_alen (pc := 7) (t0 := 1) (v := 1050) 16 (jd k_Sha_padded 5 rfl) rfl rfl rfl ?_
    refine j_icmp_ge (pc := 8) (tgt := 19) (jd k_Sha_padded 6 rfl) rfl (fun h15 => ?_) (fun h15 => ?_)
    · rw [if_pos h15] at H
      refine j_iload_n (pc := 19) 2 (jd k_Sha_padded 13 rfl) rfl ?_
      refine j_iload_n (pc := 20) 1 (jd k_Sha_padded 14 rfl) rfl ?_
      obtain ⟨x17, h18, H⟩ := obnd H
      have K19 : J G m_Sha_padded 0 0 0 P 31 [] [.int x17] (mkC ad G s) 0 0 := by
        cases H
        subst hP9
        exact j_iret (pc := 31) (jd k_Sha_padded 19 rfl) rfl rfl ⟨rfl, rfl⟩
      have H := h18
      refine j_icmp_ne (pc := 21) (tgt := 30) (jd k_Sha_padded 15 rfl) rfl (fun h16 => ?_) (fun h16 => ?_)
      · rw [if_pos h16] at H
        refine j_iconst (pc := 30) (v := 0) (jd k_Sha_padded 18 rfl) (by decide) ?_
        cases H
        exact j_pick [] rfl K19
      · rw [if_neg (not_not_intro h16)] at H
        refine j_sipush (pc := 24) (v := 128) (jd k_Sha_padded 16 rfl) (by decide) ?_
        refine j_goto (pc := 27) (tgt := 31) (jd k_Sha_padded 17 rfl) rfl ?_
        cases H
        exact j_pick [] rfl K19
    · rw [if_neg h15] at H
      refine j_aload_n (pc := 11) 0 (jd k_Sha_padded 7 rfl) rfl ?_
      refine j_iload_n (pc := 12) 2 (jd k_Sha_padded 8 rfl) rfl ?_
      obtain ⟨h20, H⟩ := ochk H
      refine j_bald (pc := 13) (f := s 40 0) 16 (jd k_Sha_padded 9 rfl) rfl (jin.vp h20) ?_
      refine j_sipush (pc := 14) (v := 255) (jd k_Sha_padded 10 rfl) (by decide) ?_
      refine j_iand (pc := 17) (jd k_Sha_padded 11 rfl) ?_
      cases H
      subst hP9
      exact j_iret (pc := 18) (jd k_Sha_padded 12 rfl) rfl rfl ⟨rfl, rfl⟩

set_option maxRecDepth 20000 in
theorem c_Sha_turn (G : jG) (ws : va_W) (p0 : Int32) (p1 : Int32) (r : Int32) (H : f_Sha_turn p0 p1 = some r) : jCon G m_Sha_turn y_Sha_turn 0 0 0 [.int p0, .int p1] ws (jEq (some (.int r)) ws) := by
  refine jCon.of (by decide +kernel) rfl rfl rfl (Nat.le_of_ble_eq_true rfl) rfl ?_
  have H : (
  some ((jushr p0 p1) ||| (p0 <<< ((32 - p1) &&& 31)))) = some r := H
  generalize hP9 : jEq (some (.int r)) ws = P
  refine j_iload_n (pc := 0) 0 (jd k_Sha_turn 0 rfl) rfl ?_
  refine j_iload_n (pc := 1) 1 (jd k_Sha_turn 1 rfl) rfl ?_
  refine j_iushr (pc := 2) (jd k_Sha_turn 2 rfl) ?_
  refine j_iload_n (pc := 3) 0 (jd k_Sha_turn 3 rfl) rfl ?_
  refine j_bipush (pc := 4) (v := 32) (jd k_Sha_turn 4 rfl) (by decide) ?_
  refine j_iload_n (pc := 6) 1 (jd k_Sha_turn 5 rfl) rfl ?_
  refine j_isub (pc := 7) (jd k_Sha_turn 6 rfl) ?_
  refine j_ishl (pc := 8) (jd k_Sha_turn 7 rfl) ?_
  refine j_ior (pc := 9) (jd k_Sha_turn 8 rfl) ?_
  cases H
  subst hP9
  exact j_iret (pc := 10) (jd k_Sha_turn 9 rfl) rfl rfl ⟨rfl, rfl⟩

set_option maxRecDepth 20000 in
theorem lp_Sha_fillSchedule_103 {ad : Nat → Nat} {G : jG} {P : jR → va_W → Prop} : ∀ (n : Nat) (x38 : Int32) (s39 : jU) (r : Int32 × jU), L_Sha_fillSchedule_103 n x38 s39 = some r → J G m_Sha_fillSchedule 1 0 0 P 218 [(0, .ref (ad 17)), (5, .int r.1)] [] (mkC ad G r.2) 0 0 → J G m_Sha_fillSchedule 1 0 0 P 103 [(0, .ref (ad 17)), (5, .int x38)] [] (mkC ad G s39) 0 0 := by
  intro n
  induction n with
  | zero =>
    intro x38 s39 r H
    cases (show none = some r from H)
  | succ n ih =>
    intro x38 s39 r H kx
    have H : (
    if 64 ≤ x38 then
      some (x38, s39)
    else
      if jin (x38 - 15) 64 then
      jlet (s39 42 0 (x38 - 15).toNatClampNeg) fun x42 =>
      if jin (x38 - 2) 64 then
      jlet (s39 42 0 (x38 - 2).toNatClampNeg) fun x44 =>
      Option.bind (f_Sha_turn x42 7) fun x46 =>
      Option.bind (f_Sha_turn x42 18) fun x48 =>
      jlet ((x46 ^^^ x48) ^^^ (jushr x42 3)) fun x49 =>
      Option.bind (f_Sha_turn x44 17) fun x51 =>
      Option.bind (f_Sha_turn x44 19) fun x53 =>
      jlet ((x51 ^^^ x53) ^^^ (jushr x44 10)) fun x54 =>
      if jin (x38 - 16) 64 then
      if jin (x38 - 7) 64 then
      if jin x38 64 then
      jlet (ups s39 42 0 (upd (s39 42 0) x38.toNatClampNeg ((((s39 42 0 (x38 - 16).toNatClampNeg) + x49) + (s39 42 0 (x38 - 7).toNatClampNeg)) + x54))) fun s57 =>
      jlet (x38 + 1) fun x60 =>
      L_Sha_fillSchedule_103 n x60 s57
      else none
      else none
      else none
      else none
      else none) = some r := H
    refine j_iload (pc := 103) 1 (jd k_Sha_fillSchedule 64 rfl) rfl ?_
    refine j_bipush (pc := 105) (v := 64) (jd k_Sha_fillSchedule 65 rfl) (by decide) ?_
    refine j_icmp_ge (pc := 107) (tgt := 218) (jd k_Sha_fillSchedule 66 rfl) rfl (fun h40 => ?_) (fun h40 => ?_)
    · rw [if_pos h40] at H
      cases H
      exact kx
    · rw [if_neg h40] at H
      refine j_aload_n (pc := 110) 0 (jd k_Sha_fillSchedule 67 rfl) rfl ?_
      refine j_get (pc := 111) (fs := [.ref (ad 18), .ref (ad 19), .ref (ad 20)]) (v := .ref (ad 18)) fl_Sha_9_8 17 (jd k_Sha_fillSchedule 68 rfl) rfl rfl ?_
      refine j_iload (pc := 114) 1 (jd k_Sha_fillSchedule 69 rfl) rfl ?_
      refine j_bipush (pc := 116) (v := 15) (jd k_Sha_fillSchedule 70 rfl) (by decide) ?_
      refine j_isub (pc := 118) (jd k_Sha_fillSchedule 71 rfl) ?_
      obtain ⟨h41, H⟩ := ochk H
      refine j_iald (pc := 119) (f := s39 42 0) 18 (jd k_Sha_fillSchedule 72 rfl) rfl (jin.vp h41) ?_
      obtain ⟨x42, e65, H⟩ := olet H
      refine j_topi e65 ?_
      refine j_istore (pc := 120) (lv' := [(0, .ref (ad 17)), (5, .int x38), (6, .int x42)]) (jd k_Sha_fillSchedule 73 rfl) rfl (Nat.le_of_ble_eq_true rfl) rfl ?_
      refine j_aload_n (pc := 122) 0 (jd k_Sha_fillSchedule 74 rfl) rfl ?_
      refine j_get (pc := 123) (fs := [.ref (ad 18), .ref (ad 19), .ref (ad 20)]) (v := .ref (ad 18)) fl_Sha_9_8 17 (jd k_Sha_fillSchedule 75 rfl) rfl rfl ?_
      refine j_iload (pc := 126) 1 (jd k_Sha_fillSchedule 76 rfl) rfl ?_
      refine j_iconst (pc := 128) (v := 2) (jd k_Sha_fillSchedule 77 rfl) (by decide) ?_
      refine j_isub (pc := 129) (jd k_Sha_fillSchedule 78 rfl) ?_
      obtain ⟨h43, H⟩ := ochk H
      refine j_iald (pc := 130) (f := s39 42 0) 18 (jd k_Sha_fillSchedule 79 rfl) rfl (jin.vp h43) ?_
      obtain ⟨x44, e64, H⟩ := olet H
      refine j_topi e64 ?_
      refine j_istore (pc := 131) (lv' := [(0, .ref (ad 17)), (5, .int x38), (6, .int x42), (7, .int x44)]) (jd k_Sha_fillSchedule 80 rfl) rfl (Nat.le_of_ble_eq_true rfl) rfl ?_
      refine j_iload (pc := 133) 2 (jd k_Sha_fillSchedule 81 rfl) rfl ?_
      refine j_bipush (pc := 135) (v := 7) (jd k_Sha_fillSchedule 82 rfl) (by decide) ?_
      obtain ⟨x46, h45, H⟩ := obnd H
      refine jc_S (pc := 137) (st := []) (c_Sha_turn G _ x42 7 _ h45) L0_Sha_turn w967 w968 (jd k_Sha_fillSchedule 83 rfl) rfl (Nat.le_of_ble_eq_true rfl) (by decide) (Nat.le_refl _) (Nat.le_refl _) rfl rfl ?_
      refine j_iload (pc := 140) 2 (jd k_Sha_fillSchedule 84 rfl) rfl ?_
      refine j_bipush (pc := 142) (v := 18) (jd k_Sha_fillSchedule 85 rfl) (by decide) ?_
      obtain ⟨x48, h47, H⟩ := obnd H
      refine jc_S (pc := 144) (st := [.int x46]) (c_Sha_turn G _ x42 18 _ h47) L0_Sha_turn w967 w968 (jd k_Sha_fillSchedule 86 rfl) rfl (Nat.le_of_ble_eq_true rfl) (by decide) (Nat.le_refl _) (Nat.le_refl _) rfl rfl ?_
      refine j_ixor (pc := 147) (jd k_Sha_fillSchedule 87 rfl) ?_
      refine j_iload (pc := 148) 2 (jd k_Sha_fillSchedule 88 rfl) rfl ?_
      refine j_iconst (pc := 150) (v := 3) (jd k_Sha_fillSchedule 89 rfl) (by decide) ?_
      refine j_iushr (pc := 151) (jd k_Sha_fillSchedule 90 rfl) ?_
      refine j_ixor (pc := 152) (jd k_Sha_fillSchedule 91 rfl) ?_
      obtain ⟨x49, e63, H⟩ := olet H
      refine j_topi e63 ?_
      refine j_istore (pc := 153) (lv' := [(0, .ref (ad 17)), (5, .int x38), (6, .int x42), (7, .int x44), (8, .int x49)]) (jd k_Sha_fillSchedule 92 rfl) rfl (Nat.le_of_ble_eq_true rfl) rfl ?_
      refine j_iload (pc := 155) 3 (jd k_Sha_fillSchedule 93 rfl) rfl ?_
      refine j_bipush (pc := 157) (v := 17) (jd k_Sha_fillSchedule 94 rfl) (by decide) ?_
      obtain ⟨x51, h50, H⟩ := obnd H
      refine jc_S (pc := 159) (st := []) (c_Sha_turn G _ x44 17 _ h50) L0_Sha_turn w967 w968 (jd k_Sha_fillSchedule 95 rfl) rfl (Nat.le_of_ble_eq_true rfl) (by decide) (Nat.le_refl _) (Nat.le_refl _) rfl rfl ?_
      refine j_iload (pc := 162) 3 (jd k_Sha_fillSchedule 96 rfl) rfl ?_
      refine j_bipush (pc := 164) (v := 19) (jd k_Sha_fillSchedule 97 rfl) (by decide) ?_
      obtain ⟨x53, h52, H⟩ := obnd H
      refine jc_S (pc := 166) (st := [.int x51]) (c_Sha_turn G _ x44 19 _ h52) L0_Sha_turn w967 w968 (jd k_Sha_fillSchedule 98 rfl) rfl (Nat.le_of_ble_eq_true rfl) (by decide) (Nat.le_refl _) (Nat.le_refl _) rfl rfl ?_
      refine j_ixor (pc := 169) (jd k_Sha_fillSchedule 99 rfl) ?_
      refine j_iload (pc := 170) 3 (jd k_Sha_fillSchedule 100 rfl) rfl ?_
      refine j_bipush (pc := 172) (v := 10) (jd k_Sha_fillSchedule 101 rfl) (by decide) ?_
      refine j_iushr (pc := 174) (jd k_Sha_fillSchedule 102 rfl) ?_
      refine j_ixor (pc := 175) (jd k_Sha_fillSchedule 103 rfl) ?_
      obtain ⟨x54, e62, H⟩ := olet H
      refine j_topi e62 ?_
      refine j_istore (pc := 176) (lv' := [(0, .ref (ad 17)), (5, .int x38), (6, .int x42), (7, .int x44), (8, .int x49), (9, .int x54)]) (jd k_Sha_fillSchedule 104 rfl) rfl (Nat.le_of_ble_eq_true rfl) rfl ?_
      refine j_aload_n (pc := 178) 0 (jd k_Sha_fillSchedule 105 rfl) rfl ?_
      refine j_get (pc := 179) (fs := [.ref (ad 18), .ref (ad 19), .ref (ad 20)]) (v := .ref (ad 18)) fl_Sha_9_8 17 (jd k_Sha_fillSchedule 106 rfl) rfl rfl ?_
      refine j_iload (pc := 182) 1 (jd k_Sha_fillSchedule 107 rfl) rfl ?_
      refine j_aload_n (pc := 184) 0 (jd k_Sha_fillSchedule 108 rfl) rfl ?_
      refine j_get (pc := 185) (fs := [.ref (ad 18), .ref (ad 19), .ref (ad 20)]) (v := .ref (ad 18)) fl_Sha_9_8 17 (jd k_Sha_fillSchedule 109 rfl) rfl rfl ?_
      refine j_iload (pc := 188) 1 (jd k_Sha_fillSchedule 110 rfl) rfl ?_
      refine j_bipush (pc := 190) (v := 16) (jd k_Sha_fillSchedule 111 rfl) (by decide) ?_
      refine j_isub (pc := 192) (jd k_Sha_fillSchedule 112 rfl) ?_
      obtain ⟨h55, H⟩ := ochk H
      refine j_iald (pc := 193) (f := s39 42 0) 18 (jd k_Sha_fillSchedule 113 rfl) rfl (jin.vp h55) ?_
      refine j_iload (pc := 194) 4 (jd k_Sha_fillSchedule 114 rfl) rfl ?_
      refine j_iadd (pc := 196) (jd k_Sha_fillSchedule 115 rfl) ?_
      refine j_aload_n (pc := 197) 0 (jd k_Sha_fillSchedule 116 rfl) rfl ?_
      refine j_get (pc := 198) (fs := [.ref (ad 18), .ref (ad 19), .ref (ad 20)]) (v := .ref (ad 18)) fl_Sha_9_8 17 (jd k_Sha_fillSchedule 117 rfl) rfl rfl ?_
      refine j_iload (pc := 201) 1 (jd k_Sha_fillSchedule 118 rfl) rfl ?_
      refine j_bipush (pc := 203) (v := 7) (jd k_Sha_fillSchedule 119 rfl) (by decide) ?_
      refine j_isub (pc := 205) (jd k_Sha_fillSchedule 120 rfl) ?_
      obtain ⟨h56, H⟩ := ochk H
      refine j_iald (pc := 206) (f := s39 42 0) 18 (jd k_Sha_fillSchedule 121 rfl) rfl (jin.vp h56) ?_
      refine j_iadd (pc := 207) (jd k_Sha_fillSchedule 122 rfl) ?_
      refine j_iload (pc := 208) 5 (jd k_Sha_fillSchedule 123 rfl) rfl ?_
      refine j_iadd (pc := 210) (jd k_Sha_fillSchedule 124 rfl) ?_
      obtain ⟨h59, H⟩ := ochk H
      obtain ⟨s57, e58, H⟩ := olet H
      refine j_iast (pc := 211) (f := s39 42 0) 18 (jd k_Sha_fillSchedule 125 rfl) rfl (jin.vp h59) ((wrF_18 ad G s39 _).trans (congrArg (mkC ad G) e58)) ?_
      obtain ⟨x60, e61, H⟩ := olet H
      refine j_iinc (pc := 212) (lv' := [(0, .ref (ad 17)), (5, .int x60), (6, .int x42), (7, .int x44), (8, .int x49), (9, .int x54)]) 1 (jd k_Sha_fillSchedule 126 rfl) rfl e61 rfl (Nat.le_of_ble_eq_true rfl) rfl ?_
      refine j_goto (pc := 215) (tgt := 103) (jd k_Sha_fillSchedule 127 rfl) rfl ?_
      refine j_pick (lv' := [(0, .ref (ad 17)), (5, .int x60)]) [0, 1] rfl ?_
      exact ih x60 s57 _ H kx

set_option maxRecDepth 20000 in
theorem lp_Sha_fillSchedule_3 {ad : Nat → Nat} {G : jG} {P : jR → va_W → Prop} (p1 : Int32) (p2 : Int32) (p3 : Int32) : ∀ (n : Nat) (x10 : Int32) (s11 : jU) (r : Int32 × jU), L_Sha_fillSchedule_3 p1 p2 n x10 s11 = some r → J G m_Sha_fillSchedule 1 0 0 P 80 [(0, .ref (ad 17)), (1, .ref (ad 16)), (2, .int p1), (3, .int p2), (4, .int p3), (5, .int r.1)] [] (mkC ad G r.2) 0 0 → J G m_Sha_fillSchedule 1 0 0 P 3 [(0, .ref (ad 17)), (1, .ref (ad 16)), (2, .int p1), (3, .int p2), (4, .int p3), (5, .int x10)] [] (mkC ad G s11) 0 0 := by
  intro n
  induction n with
  | zero =>
    intro x10 s11 r H
    cases (show none = some r from H)
  | succ n ih =>
    intro x10 s11 r H kx
    have H : (
    if 16 ≤ x10 then
      some (x10, s11)
    else
      jlet ((p2 * 64) + (4 * x10)) fun x13 =>
      Option.bind (f_Sha_padded p1 x13 s11) fun x15 =>
      Option.bind (f_Sha_padded p1 (x13 + 1) s11) fun x17 =>
      Option.bind (f_Sha_padded p1 (x13 + 2) s11) fun x19 =>
      Option.bind (f_Sha_padded p1 (x13 + 3) s11) fun x21 =>
      if jin x10 64 then
      jlet (ups s11 42 0 (upd (s11 42 0) x10.toNatClampNeg ((((x15 <<< (24 &&& 31)) ||| (x17 <<< (16 &&& 31))) ||| (x19 <<< (8 &&& 31))) ||| x21))) fun s22 =>
      jlet (x10 + 1) fun x25 =>
      L_Sha_fillSchedule_3 p1 p2 n x25 s22
      else none) = some r := H
    refine j_iload (pc := 3) 5 (jd k_Sha_fillSchedule 2 rfl) rfl ?_
    refine j_bipush (pc := 5) (v := 16) (jd k_Sha_fillSchedule 3 rfl) (by decide) ?_
    refine j_icmp_ge (pc := 7) (tgt := 80) (jd k_Sha_fillSchedule 4 rfl) rfl (fun h12 => ?_) (fun h12 => ?_)
    · rw [if_pos h12] at H
      cases H
      exact kx
    · rw [if_neg h12] at H
      refine j_iload_n (pc := 10) 3 (jd k_Sha_fillSchedule 5 rfl) rfl ?_
      refine j_bipush (pc := 11) (v := 64) (jd k_Sha_fillSchedule 6 rfl) (by decide) ?_
      refine j_imul (pc := 13) (jd k_Sha_fillSchedule 7 rfl) ?_
      refine j_iconst (pc := 14) (v := 4) (jd k_Sha_fillSchedule 8 rfl) (by decide) ?_
      refine j_iload (pc := 15) 5 (jd k_Sha_fillSchedule 9 rfl) rfl ?_
      refine j_imul (pc := 17) (jd k_Sha_fillSchedule 10 rfl) ?_
      refine j_iadd (pc := 18) (jd k_Sha_fillSchedule 11 rfl) ?_
      obtain ⟨x13, e27, H⟩ := olet H
      refine j_topi e27 ?_
      refine j_istore (pc := 19) (lv' := [(0, .ref (ad 17)), (1, .ref (ad 16)), (2, .int p1), (3, .int p2), (4, .int p3), (5, .int x10), (6, .int x13)]) (jd k_Sha_fillSchedule 12 rfl) rfl (Nat.le_of_ble_eq_true rfl) rfl ?_
      refine j_aload_n (pc := 21) 0 (jd k_Sha_fillSchedule 13 rfl) rfl ?_
      refine j_get (pc := 22) (fs := [.ref (ad 18), .ref (ad 19), .ref (ad 20)]) (v := .ref (ad 18)) fl_Sha_9_8 17 (jd k_Sha_fillSchedule 14 rfl) rfl rfl ?_
      refine j_iload (pc := 25) 5 (jd k_Sha_fillSchedule 15 rfl) rfl ?_
      refine j_aload_n (pc := 27) 1 (jd k_Sha_fillSchedule 16 rfl) rfl ?_
      refine j_iload_n (pc := 28) 2 (jd k_Sha_fillSchedule 17 rfl) rfl ?_
      refine j_iload (pc := 29) 6 (jd k_Sha_fillSchedule 18 rfl) rfl ?_
      obtain ⟨x15, h14, H⟩ := obnd H
      refine jc_S (pc := 31) (st := [.int x10, .ref (ad 18)]) (c_Sha_padded ad G p1 x13 s11 _ h14) L0_Sha_padded w964 w965 (jd k_Sha_fillSchedule 19 rfl) rfl (Nat.le_of_ble_eq_true rfl) (by decide) (Nat.le_refl _) (Nat.le_refl _) rfl rfl ?_
      refine j_bipush (pc := 34) (v := 24) (jd k_Sha_fillSchedule 20 rfl) (by decide) ?_
      refine j_ishl (pc := 36) (jd k_Sha_fillSchedule 21 rfl) ?_
      refine j_aload_n (pc := 37) 1 (jd k_Sha_fillSchedule 22 rfl) rfl ?_
      refine j_iload_n (pc := 38) 2 (jd k_Sha_fillSchedule 23 rfl) rfl ?_
      refine j_iload (pc := 39) 6 (jd k_Sha_fillSchedule 24 rfl) rfl ?_
      refine j_iconst (pc := 41) (v := 1) (jd k_Sha_fillSchedule 25 rfl) (by decide) ?_
      refine j_iadd (pc := 42) (jd k_Sha_fillSchedule 26 rfl) ?_
      obtain ⟨x17, h16, H⟩ := obnd H
      refine jc_S (pc := 43) (st := [.int (x15 <<< (24 &&& 31)), .int x10, .ref (ad 18)]) (c_Sha_padded ad G p1 (x13 + 1) s11 _ h16) L0_Sha_padded w964 w965 (jd k_Sha_fillSchedule 27 rfl) rfl (Nat.le_of_ble_eq_true rfl) (by decide) (Nat.le_refl _) (Nat.le_refl _) rfl rfl ?_
      refine j_bipush (pc := 46) (v := 16) (jd k_Sha_fillSchedule 28 rfl) (by decide) ?_
      refine j_ishl (pc := 48) (jd k_Sha_fillSchedule 29 rfl) ?_
      refine j_ior (pc := 49) (jd k_Sha_fillSchedule 30 rfl) ?_
      refine j_aload_n (pc := 50) 1 (jd k_Sha_fillSchedule 31 rfl) rfl ?_
      refine j_iload_n (pc := 51) 2 (jd k_Sha_fillSchedule 32 rfl) rfl ?_
      refine j_iload (pc := 52) 6 (jd k_Sha_fillSchedule 33 rfl) rfl ?_
      refine j_iconst (pc := 54) (v := 2) (jd k_Sha_fillSchedule 34 rfl) (by decide) ?_
      refine j_iadd (pc := 55) (jd k_Sha_fillSchedule 35 rfl) ?_
      obtain ⟨x19, h18, H⟩ := obnd H
      refine jc_S (pc := 56) (st := [.int ((x15 <<< (24 &&& 31)) ||| (x17 <<< (16 &&& 31))), .int x10, .ref (ad 18)]) (c_Sha_padded ad G p1 (x13 + 2) s11 _ h18) L0_Sha_padded w964 w965 (jd k_Sha_fillSchedule 36 rfl) rfl (Nat.le_of_ble_eq_true rfl) (by decide) (Nat.le_refl _) (Nat.le_refl _) rfl rfl ?_
      refine j_bipush (pc := 59) (v := 8) (jd k_Sha_fillSchedule 37 rfl) (by decide) ?_
      refine j_ishl (pc := 61) (jd k_Sha_fillSchedule 38 rfl) ?_
      refine j_ior (pc := 62) (jd k_Sha_fillSchedule 39 rfl) ?_
      refine j_aload_n (pc := 63) 1 (jd k_Sha_fillSchedule 40 rfl) rfl ?_
      refine j_iload_n (pc := 64) 2 (jd k_Sha_fillSchedule 41 rfl) rfl ?_
      refine j_iload (pc := 65) 6 (jd k_Sha_fillSchedule 42 rfl) rfl ?_
      refine j_iconst (pc := 67) (v := 3) (jd k_Sha_fillSchedule 43 rfl) (by decide) ?_
      refine j_iadd (pc := 68) (jd k_Sha_fillSchedule 44 rfl) ?_
      obtain ⟨x21, h20, H⟩ := obnd H
      refine jc_S (pc := 69) (st := [.int (((x15 <<< (24 &&& 31)) ||| (x17 <<< (16 &&& 31))) ||| (x19 <<< (8 &&& 31))), .int x10, .ref (ad 18)]) (c_Sha_padded ad G p1 (x13 + 3) s11 _ h20) L0_Sha_padded w964 w965 (jd k_Sha_fillSchedule 45 rfl) rfl (Nat.le_of_ble_eq_true rfl) (by decide) (Nat.le_refl _) (Nat.le_refl _) rfl rfl ?_
      refine j_ior (pc := 72) (jd k_Sha_fillSchedule 46 rfl) ?_
      obtain ⟨h24, H⟩ := ochk H
      obtain ⟨s22, e23, H⟩ := olet H
      refine j_iast (pc := 73) (f := s11 42 0) 18 (jd k_Sha_fillSchedule 47 rfl) rfl (jin.vp h24) ((wrF_18 ad G s11 _).trans (congrArg (mkC ad G) e23)) ?_
      obtain ⟨x25, e26, H⟩ := olet H
      refine j_iinc (pc := 74) (lv' := [(0, .ref (ad 17)), (1, .ref (ad 16)), (2, .int p1), (3, .int p2), (4, .int p3), (5, .int x25), (6, .int x13)]) 5 (jd k_Sha_fillSchedule 48 rfl) rfl e26 rfl (Nat.le_of_ble_eq_true rfl) rfl ?_
      refine j_goto (pc := 77) (tgt := 3) (jd k_Sha_fillSchedule 49 rfl) rfl ?_
      refine j_pick (lv' := [(0, .ref (ad 17)), (1, .ref (ad 16)), (2, .int p1), (3, .int p2), (4, .int p3), (5, .int x25)]) [0, 1, 2, 3, 4, 5] rfl ?_
      exact ih x25 s22 _ H kx

set_option maxRecDepth 20000 in
theorem c_Sha_fillSchedule (ad : Nat → Nat) (G : jG) (p1 : Int32) (p2 : Int32) (p3 : Int32) (s : jU) (r : jU) (H : f_Sha_fillSchedule p1 p2 p3 s = some r) : jCon G m_Sha_fillSchedule y_Sha_fillSchedule 1 0 0 [.ref (ad 17), .ref (ad 16), .int p1, .int p2, .int p3] (mkC ad G s) (jEq none (mkC ad G r)) := by
  refine jCon.of (by decide +kernel) rfl rfl rfl (Nat.le_of_ble_eq_true rfl) rfl ?_
  have H : (
  Option.bind (L_Sha_fillSchedule_3 p1 p2 jF 0 s) fun (x28, s29) =>
  Option.bind (α := jU) (
    if ¬ p2 = (p3 - 1) then
      some s29
    else
      if jin 15 64 then
      jlet (ups s29 42 0 (upd (s29 42 0) (15 : Int32).toNatClampNeg (p1 * 8))) fun s32 =>
      some s32
      else none) fun s35 =>
  Option.bind (L_Sha_fillSchedule_103 jF 16 s35) fun (x66, s67) =>
  some s67) = some r := H
  generalize hP9 : jEq none (mkC ad G r) = P
  refine j_iconst (pc := 0) (v := 0) (jd k_Sha_fillSchedule 0 rfl) (by decide) ?_
  refine j_istore (pc := 1) (lv' := [(0, .ref (ad 17)), (1, .ref (ad 16)), (2, .int p1), (3, .int p2), (4, .int p3), (5, .int 0)]) (jd k_Sha_fillSchedule 1 rfl) rfl (Nat.le_of_ble_eq_true rfl) rfl ?_
  obtain ⟨⟨x28, s29⟩, h30, H⟩ := obnd H
  try dsimp only at H
  refine lp_Sha_fillSchedule_3 p1 p2 p3 jF 0 s _ h30 ?_
  refine j_pick (lv' := [(0, .ref (ad 17)), (2, .int p1), (3, .int p2), (4, .int p3)]) [0, 2, 3, 4] rfl ?_
  refine j_iload_n (pc := 80) 2 (jd k_Sha_fillSchedule 50 rfl) rfl ?_
  refine j_iload (pc := 81) 3 (jd k_Sha_fillSchedule 51 rfl) rfl ?_
  refine j_iconst (pc := 83) (v := 1) (jd k_Sha_fillSchedule 52 rfl) (by decide) ?_
  refine j_isub (pc := 84) (jd k_Sha_fillSchedule 53 rfl) ?_
  obtain ⟨s35, h36, H⟩ := obnd H
  have K37 : J G m_Sha_fillSchedule 1 0 0 P 99 [(0, .ref (ad 17))] [] (mkC ad G s35) 0 0 := by
    refine j_bipush (pc := 99) (v := 16) (jd k_Sha_fillSchedule 62 rfl) (by decide) ?_
    refine j_istore (pc := 101) (lv' := [(0, .ref (ad 17)), (5, .int 16)]) (jd k_Sha_fillSchedule 63 rfl) rfl (Nat.le_of_ble_eq_true rfl) rfl ?_
    obtain ⟨⟨x66, s67⟩, h68, H⟩ := obnd H
    try dsimp only at H
    refine lp_Sha_fillSchedule_103  jF 16 s35 _ h68 ?_
    refine j_pick (lv' := []) [] rfl ?_
    cases H
    subst hP9
    exact j_vret (pc := 218) (jd k_Sha_fillSchedule 128 rfl) rfl ⟨rfl, rfl⟩
  have H := h36
  refine j_icmp_ne (pc := 85) (tgt := 99) (jd k_Sha_fillSchedule 54 rfl) rfl (fun h31 => ?_) (fun h31 => ?_)
  · rw [if_pos h31] at H
    cases H
    exact j_pick [0] rfl K37
  · rw [if_neg (not_not_intro h31)] at H
    refine j_aload_n (pc := 88) 0 (jd k_Sha_fillSchedule 55 rfl) rfl ?_
    refine j_get (pc := 89) (fs := [.ref (ad 18), .ref (ad 19), .ref (ad 20)]) (v := .ref (ad 18)) fl_Sha_9_8 17 (jd k_Sha_fillSchedule 56 rfl) rfl rfl ?_
    refine j_bipush (pc := 92) (v := 15) (jd k_Sha_fillSchedule 57 rfl) (by decide) ?_
    refine j_iload_n (pc := 94) 1 (jd k_Sha_fillSchedule 58 rfl) rfl ?_
    refine j_bipush (pc := 95) (v := 8) (jd k_Sha_fillSchedule 59 rfl) (by decide) ?_
    refine j_imul (pc := 97) (jd k_Sha_fillSchedule 60 rfl) ?_
    obtain ⟨h34, H⟩ := ochk H
    obtain ⟨s32, e33, H⟩ := olet H
    refine j_iast (pc := 98) (f := s29 42 0) 18 (jd k_Sha_fillSchedule 61 rfl) rfl (jin.vp h34) ((wrF_18 ad G s29 _).trans (congrArg (mkC ad G) e33)) ?_
    cases H
    exact j_pick [0] rfl K37

set_option maxRecDepth 20000 in
theorem lp_Sha_mix_227 {ad : Nat → Nat} {G : jG} {P : jR → va_W → Prop} : ∀ (n : Nat) (x77 : Int32) (s78 : jU) (r : Int32 × jU), L_Sha_mix_227 n x77 s78 = some r → J G m_Sha_mix 1 0 0 P 254 [(0, .ref (ad 17)), (1, .int r.1)] [] (mkC ad G r.2) 0 0 → J G m_Sha_mix 1 0 0 P 227 [(0, .ref (ad 17)), (1, .int x77)] [] (mkC ad G s78) 0 0 := by
  intro n
  induction n with
  | zero =>
    intro x77 s78 r H
    cases (show none = some r from H)
  | succ n ih =>
    intro x77 s78 r H kx
    have H : (
    if 8 ≤ x77 then
      some (x77, s78)
    else
      if jin x77 8 then
      if jin x77 8 then
      if jin x77 8 then
      jlet (ups s78 43 0 (upd (s78 43 0) x77.toNatClampNeg ((s78 43 0 x77.toNatClampNeg) + (s78 44 0 x77.toNatClampNeg)))) fun s82 =>
      jlet (x77 + 1) fun x85 =>
      L_Sha_mix_227 n x85 s82
      else none
      else none
      else none) = some r := H
    refine j_iload_n (pc := 227) 1 (jd k_Sha_mix 142 rfl) rfl ?_
    refine j_bipush (pc := 228) (v := 8) (jd k_Sha_mix 143 rfl) (by decide) ?_
    refine j_icmp_ge (pc := 230) (tgt := 254) (jd k_Sha_mix 144 rfl) rfl (fun h79 => ?_) (fun h79 => ?_)
    · rw [if_pos h79] at H
      cases H
      exact kx
    · rw [if_neg h79] at H
      refine j_aload_n (pc := 233) 0 (jd k_Sha_mix 145 rfl) rfl ?_
      refine j_get (pc := 234) (fs := [.ref (ad 18), .ref (ad 19), .ref (ad 20)]) (v := .ref (ad 19)) fl_Sha_13_8 17 (jd k_Sha_mix 146 rfl) rfl rfl ?_
      refine j_iload_n (pc := 237) 1 (jd k_Sha_mix 147 rfl) rfl ?_
      refine j_dup2 (pc := 238) (jd k_Sha_mix 148 rfl) rfl rfl ?_
      obtain ⟨h80, H⟩ := ochk H
      refine j_iald (pc := 239) (f := s78 43 0) 19 (jd k_Sha_mix 149 rfl) rfl (jin.vp h80) ?_
      refine j_aload_n (pc := 240) 0 (jd k_Sha_mix 150 rfl) rfl ?_
      refine j_get (pc := 241) (fs := [.ref (ad 18), .ref (ad 19), .ref (ad 20)]) (v := .ref (ad 20)) fl_Sha_16_8 17 (jd k_Sha_mix 151 rfl) rfl rfl ?_
      refine j_iload_n (pc := 244) 1 (jd k_Sha_mix 152 rfl) rfl ?_
      obtain ⟨h81, H⟩ := ochk H
      refine j_iald (pc := 245) (f := s78 44 0) 20 (jd k_Sha_mix 153 rfl) rfl (jin.vp h81) ?_
      refine j_iadd (pc := 246) (jd k_Sha_mix 154 rfl) ?_
      obtain ⟨h84, H⟩ := ochk H
      obtain ⟨s82, e83, H⟩ := olet H
      refine j_iast (pc := 247) (f := s78 43 0) 19 (jd k_Sha_mix 155 rfl) rfl (jin.vp h84) ((wrF_19 ad G s78 _).trans (congrArg (mkC ad G) e83)) ?_
      obtain ⟨x85, e86, H⟩ := olet H
      refine j_iinc (pc := 248) (lv' := [(0, .ref (ad 17)), (1, .int x85)]) 1 (jd k_Sha_mix 156 rfl) rfl e86 rfl (Nat.le_of_ble_eq_true rfl) rfl ?_
      refine j_goto (pc := 251) (tgt := 227) (jd k_Sha_mix 157 rfl) rfl ?_
      exact ih x85 s82 _ H kx

set_option maxRecDepth 20000 in
theorem lp_Sha_mix_167 {ad : Nat → Nat} {G : jG} {P : jR → va_W → Prop} (x13 : Int32) (x27 : Int32) (x34 : Int32) (x45 : Int32) : ∀ (n : Nat) (x46 : Int32) (s47 : jU) (r : Int32 × jU), L_Sha_mix_167 n x46 s47 = some r → J G m_Sha_mix 1 0 0 P 194 [(0, .ref (ad 17)), (1, .int x13), (5, .int x27), (6, .int x34), (8, .int x45), (9, .int r.1)] [] (mkC ad G r.2) 0 0 → J G m_Sha_mix 1 0 0 P 167 [(0, .ref (ad 17)), (1, .int x13), (5, .int x27), (6, .int x34), (8, .int x45), (9, .int x46)] [] (mkC ad G s47) 0 0 := by
  intro n
  induction n with
  | zero =>
    intro x46 s47 r H
    cases (show none = some r from H)
  | succ n ih =>
    intro x46 s47 r H kx
    have H : (
    if x46 ≤ 0 then
      some (x46, s47)
    else
      if jin (x46 - 1) 8 then
      if jin x46 8 then
      jlet (ups s47 44 0 (upd (s47 44 0) x46.toNatClampNeg (s47 44 0 (x46 - 1).toNatClampNeg))) fun s50 =>
      jlet (x46 + (-1)) fun x53 =>
      L_Sha_mix_167 n x53 s50
      else none
      else none) = some r := H
    refine j_iload (pc := 167) 5 (jd k_Sha_mix 107 rfl) rfl ?_
    refine j_if_le (pc := 169) (tgt := 194) (jd k_Sha_mix 108 rfl) rfl (fun h48 => ?_) (fun h48 => ?_)
    · rw [if_pos h48] at H
      cases H
      exact kx
    · rw [if_neg h48] at H
      refine j_aload_n (pc := 172) 0 (jd k_Sha_mix 109 rfl) rfl ?_
      refine j_get (pc := 173) (fs := [.ref (ad 18), .ref (ad 19), .ref (ad 20)]) (v := .ref (ad 20)) fl_Sha_16_8 17 (jd k_Sha_mix 110 rfl) rfl rfl ?_
      refine j_iload (pc := 176) 5 (jd k_Sha_mix 111 rfl) rfl ?_
      refine j_aload_n (pc := 178) 0 (jd k_Sha_mix 112 rfl) rfl ?_
      refine j_get (pc := 179) (fs := [.ref (ad 18), .ref (ad 19), .ref (ad 20)]) (v := .ref (ad 20)) fl_Sha_16_8 17 (jd k_Sha_mix 113 rfl) rfl rfl ?_
      refine j_iload (pc := 182) 5 (jd k_Sha_mix 114 rfl) rfl ?_
      refine j_iconst (pc := 184) (v := 1) (jd k_Sha_mix 115 rfl) (by decide) ?_
      refine j_isub (pc := 185) (jd k_Sha_mix 116 rfl) ?_
      obtain ⟨h49, H⟩ := ochk H
      refine j_iald (pc := 186) (f := s47 44 0) 20 (jd k_Sha_mix 117 rfl) rfl (jin.vp h49) ?_
      obtain ⟨h52, H⟩ := ochk H
      obtain ⟨s50, e51, H⟩ := olet H
      refine j_iast (pc := 187) (f := s47 44 0) 20 (jd k_Sha_mix 118 rfl) rfl (jin.vp h52) ((wrF_20 ad G s47 _).trans (congrArg (mkC ad G) e51)) ?_
      obtain ⟨x53, e54, H⟩ := olet H
      refine j_iinc (pc := 188) (lv' := [(0, .ref (ad 17)), (1, .int x13), (5, .int x27), (6, .int x34), (8, .int x45), (9, .int x53)]) 5 (jd k_Sha_mix 119 rfl) rfl e54 rfl (Nat.le_of_ble_eq_true rfl) rfl ?_
      refine j_goto (pc := 191) (tgt := 167) (jd k_Sha_mix 120 rfl) rfl ?_
      exact ih x53 s50 _ H kx

set_option maxRecDepth 20000 in
theorem lp_Sha_mix_17 {ad : Nat → Nat} {G : jG} {P : jR → va_W → Prop} : ∀ (n : Nat) (x13 : Int32) (s14 : jU) (r : Int32 × jU), L_Sha_mix_17 n x13 s14 = some r → J G m_Sha_mix 1 0 0 P 225 [(0, .ref (ad 17)), (1, .int r.1)] [] (mkC ad G r.2) 0 0 → J G m_Sha_mix 1 0 0 P 17 [(0, .ref (ad 17)), (1, .int x13)] [] (mkC ad G s14) 0 0 := by
  intro n
  induction n with
  | zero =>
    intro x13 s14 r H
    cases (show none = some r from H)
  | succ n ih =>
    intro x13 s14 r H kx
    have H : (
    if 64 ≤ x13 then
      some (x13, s14)
    else
      if jin 0 8 then
      jlet (s14 44 0 (0 : Int32).toNatClampNeg) fun x17 =>
      if jin 4 8 then
      jlet (s14 44 0 (4 : Int32).toNatClampNeg) fun x19 =>
      if jin 5 8 then
      if jin 6 8 then
      jlet ((x19 &&& (s14 44 0 (5 : Int32).toNatClampNeg)) ^^^ ((x19 ^^^ (-1)) &&& (s14 44 0 (6 : Int32).toNatClampNeg))) fun x22 =>
      if jin 1 8 then
      if jin 2 8 then
      if jin 1 8 then
      if jin 2 8 then
      jlet (((x17 &&& (s14 44 0 (1 : Int32).toNatClampNeg)) ^^^ (x17 &&& (s14 44 0 (2 : Int32).toNatClampNeg))) ^^^ ((s14 44 0 (1 : Int32).toNatClampNeg) &&& (s14 44 0 (2 : Int32).toNatClampNeg))) fun x27 =>
      Option.bind (f_Sha_turn x17 2) fun x29 =>
      Option.bind (f_Sha_turn x17 13) fun x31 =>
      Option.bind (f_Sha_turn x17 22) fun x33 =>
      jlet ((x29 ^^^ x31) ^^^ x33) fun x34 =>
      Option.bind (f_Sha_turn x19 6) fun x36 =>
      Option.bind (f_Sha_turn x19 11) fun x38 =>
      Option.bind (f_Sha_turn x19 25) fun x40 =>
      jlet ((x36 ^^^ x38) ^^^ x40) fun x41 =>
      if jin 7 8 then
      if jin x13 64 then
      if jin x13 64 then
      jlet (((((s14 44 0 (7 : Int32).toNatClampNeg) + x41) + x22) + (jTabK x13.toNatClampNeg)) + (s14 42 0 x13.toNatClampNeg)) fun x45 =>
      Option.bind (L_Sha_mix_167 jF 7 s14) fun (x55, s56) =>
      if jin 4 8 then
      if jin 4 8 then
      jlet (ups s56 44 0 (upd (s56 44 0) (4 : Int32).toNatClampNeg ((s56 44 0 (4 : Int32).toNatClampNeg) + x45))) fun s59 =>
      if jin 0 8 then
      jlet (ups s59 44 0 (upd (s59 44 0) (0 : Int32).toNatClampNeg ((x45 + x34) + x27))) fun s62 =>
      jlet (x13 + 1) fun x65 =>
      L_Sha_mix_17 n x65 s62
      else none
      else none
      else none
      else none
      else none
      else none
      else none
      else none
      else none
      else none
      else none
      else none
      else none
      else none) = some r := H
    refine j_iload_n (pc := 17) 1 (jd k_Sha_mix 10 rfl) rfl ?_
    refine j_bipush (pc := 18) (v := 64) (jd k_Sha_mix 11 rfl) (by decide) ?_
    refine j_icmp_ge (pc := 20) (tgt := 225) (jd k_Sha_mix 12 rfl) rfl (fun h15 => ?_) (fun h15 => ?_)
    · rw [if_pos h15] at H
      cases H
      exact kx
    · rw [if_neg h15] at H
      refine j_aload_n (pc := 23) 0 (jd k_Sha_mix 13 rfl) rfl ?_
      refine j_get (pc := 24) (fs := [.ref (ad 18), .ref (ad 19), .ref (ad 20)]) (v := .ref (ad 20)) fl_Sha_16_8 17 (jd k_Sha_mix 14 rfl) rfl rfl ?_
      refine j_iconst (pc := 27) (v := 0) (jd k_Sha_mix 15 rfl) (by decide) ?_
      obtain ⟨h16, H⟩ := ochk H
      refine j_iald (pc := 28) (f := s14 44 0) 20 (jd k_Sha_mix 16 rfl) rfl (jin.vp h16) ?_
      obtain ⟨x17, e73, H⟩ := olet H
      refine j_topi e73 ?_
      refine j_istore_n (pc := 29) (lv' := [(0, .ref (ad 17)), (1, .int x13), (2, .int x17)]) (jd k_Sha_mix 17 rfl) rfl (Nat.le_of_ble_eq_true rfl) rfl ?_
      refine j_aload_n (pc := 30) 0 (jd k_Sha_mix 18 rfl) rfl ?_
      refine j_get (pc := 31) (fs := [.ref (ad 18), .ref (ad 19), .ref (ad 20)]) (v := .ref (ad 20)) fl_Sha_16_8 17 (jd k_Sha_mix 19 rfl) rfl rfl ?_
      refine j_iconst (pc := 34) (v := 4) (jd k_Sha_mix 20 rfl) (by decide) ?_
      obtain ⟨h18, H⟩ := ochk H
      refine j_iald (pc := 35) (f := s14 44 0) 20 (jd k_Sha_mix 21 rfl) rfl (jin.vp h18) ?_
      obtain ⟨x19, e72, H⟩ := olet H
      refine j_topi e72 ?_
      refine j_istore_n (pc := 36) (lv' := [(0, .ref (ad 17)), (1, .int x13), (2, .int x17), (3, .int x19)]) (jd k_Sha_mix 22 rfl) rfl (Nat.le_of_ble_eq_true rfl) rfl ?_
      refine j_iload_n (pc := 37) 3 (jd k_Sha_mix 23 rfl) rfl ?_
      refine j_aload_n (pc := 38) 0 (jd k_Sha_mix 24 rfl) rfl ?_
      refine j_get (pc := 39) (fs := [.ref (ad 18), .ref (ad 19), .ref (ad 20)]) (v := .ref (ad 20)) fl_Sha_16_8 17 (jd k_Sha_mix 25 rfl) rfl rfl ?_
      refine j_iconst (pc := 42) (v := 5) (jd k_Sha_mix 26 rfl) (by decide) ?_
      obtain ⟨h20, H⟩ := ochk H
      refine j_iald (pc := 43) (f := s14 44 0) 20 (jd k_Sha_mix 27 rfl) rfl (jin.vp h20) ?_
      refine j_iand (pc := 44) (jd k_Sha_mix 28 rfl) ?_
      refine j_iload_n (pc := 45) 3 (jd k_Sha_mix 29 rfl) rfl ?_
      refine j_iconst (pc := 46) (v := (-1)) (jd k_Sha_mix 30 rfl) (by decide) ?_
      refine j_ixor (pc := 47) (jd k_Sha_mix 31 rfl) ?_
      refine j_aload_n (pc := 48) 0 (jd k_Sha_mix 32 rfl) rfl ?_
      refine j_get (pc := 49) (fs := [.ref (ad 18), .ref (ad 19), .ref (ad 20)]) (v := .ref (ad 20)) fl_Sha_16_8 17 (jd k_Sha_mix 33 rfl) rfl rfl ?_
      refine j_bipush (pc := 52) (v := 6) (jd k_Sha_mix 34 rfl) (by decide) ?_
      obtain ⟨h21, H⟩ := ochk H
      refine j_iald (pc := 54) (f := s14 44 0) 20 (jd k_Sha_mix 35 rfl) rfl (jin.vp h21) ?_
      refine j_iand (pc := 55) (jd k_Sha_mix 36 rfl) ?_
      refine j_ixor (pc := 56) (jd k_Sha_mix 37 rfl) ?_
      obtain ⟨x22, e71, H⟩ := olet H
      refine j_topi e71 ?_
      refine j_istore (pc := 57) (lv' := [(0, .ref (ad 17)), (1, .int x13), (2, .int x17), (3, .int x19), (4, .int x22)]) (jd k_Sha_mix 38 rfl) rfl (Nat.le_of_ble_eq_true rfl) rfl ?_
      refine j_iload_n (pc := 59) 2 (jd k_Sha_mix 39 rfl) rfl ?_
      refine j_aload_n (pc := 60) 0 (jd k_Sha_mix 40 rfl) rfl ?_
      refine j_get (pc := 61) (fs := [.ref (ad 18), .ref (ad 19), .ref (ad 20)]) (v := .ref (ad 20)) fl_Sha_16_8 17 (jd k_Sha_mix 41 rfl) rfl rfl ?_
      refine j_iconst (pc := 64) (v := 1) (jd k_Sha_mix 42 rfl) (by decide) ?_
      obtain ⟨h23, H⟩ := ochk H
      refine j_iald (pc := 65) (f := s14 44 0) 20 (jd k_Sha_mix 43 rfl) rfl (jin.vp h23) ?_
      refine j_iand (pc := 66) (jd k_Sha_mix 44 rfl) ?_
      refine j_iload_n (pc := 67) 2 (jd k_Sha_mix 45 rfl) rfl ?_
      refine j_aload_n (pc := 68) 0 (jd k_Sha_mix 46 rfl) rfl ?_
      refine j_get (pc := 69) (fs := [.ref (ad 18), .ref (ad 19), .ref (ad 20)]) (v := .ref (ad 20)) fl_Sha_16_8 17 (jd k_Sha_mix 47 rfl) rfl rfl ?_
      refine j_iconst (pc := 72) (v := 2) (jd k_Sha_mix 48 rfl) (by decide) ?_
      obtain ⟨h24, H⟩ := ochk H
      refine j_iald (pc := 73) (f := s14 44 0) 20 (jd k_Sha_mix 49 rfl) rfl (jin.vp h24) ?_
      refine j_iand (pc := 74) (jd k_Sha_mix 50 rfl) ?_
      refine j_ixor (pc := 75) (jd k_Sha_mix 51 rfl) ?_
      refine j_aload_n (pc := 76) 0 (jd k_Sha_mix 52 rfl) rfl ?_
      refine j_get (pc := 77) (fs := [.ref (ad 18), .ref (ad 19), .ref (ad 20)]) (v := .ref (ad 20)) fl_Sha_16_8 17 (jd k_Sha_mix 53 rfl) rfl rfl ?_
      refine j_iconst (pc := 80) (v := 1) (jd k_Sha_mix 54 rfl) (by decide) ?_
      obtain ⟨h25, H⟩ := ochk H
      refine j_iald (pc := 81) (f := s14 44 0) 20 (jd k_Sha_mix 55 rfl) rfl (jin.vp h25) ?_
      refine j_aload_n (pc := 82) 0 (jd k_Sha_mix 56 rfl) rfl ?_
      refine j_get (pc := 83) (fs := [.ref (ad 18), .ref (ad 19), .ref (ad 20)]) (v := .ref (ad 20)) fl_Sha_16_8 17 (jd k_Sha_mix 57 rfl) rfl rfl ?_
      refine j_iconst (pc := 86) (v := 2) (jd k_Sha_mix 58 rfl) (by decide) ?_
      obtain ⟨h26, H⟩ := ochk H
      refine j_iald (pc := 87) (f := s14 44 0) 20 (jd k_Sha_mix 59 rfl) rfl (jin.vp h26) ?_
      refine j_iand (pc := 88) (jd k_Sha_mix 60 rfl) ?_
      refine j_ixor (pc := 89) (jd k_Sha_mix 61 rfl) ?_
      obtain ⟨x27, e70, H⟩ := olet H
      refine j_topi e70 ?_
      refine j_istore (pc := 90) (lv' := [(0, .ref (ad 17)), (1, .int x13), (2, .int x17), (3, .int x19), (4, .int x22), (5, .int x27)]) (jd k_Sha_mix 62 rfl) rfl (Nat.le_of_ble_eq_true rfl) rfl ?_
      refine j_iload_n (pc := 92) 2 (jd k_Sha_mix 63 rfl) rfl ?_
      refine j_iconst (pc := 93) (v := 2) (jd k_Sha_mix 64 rfl) (by decide) ?_
      obtain ⟨x29, h28, H⟩ := obnd H
      refine jc_S (pc := 94) (st := []) (c_Sha_turn G _ x17 2 _ h28) L0_Sha_turn w967 w968 (jd k_Sha_mix 65 rfl) rfl (Nat.le_of_ble_eq_true rfl) (by decide) (Nat.le_refl _) (Nat.le_refl _) rfl rfl ?_
      refine j_iload_n (pc := 97) 2 (jd k_Sha_mix 66 rfl) rfl ?_
      refine j_bipush (pc := 98) (v := 13) (jd k_Sha_mix 67 rfl) (by decide) ?_
      obtain ⟨x31, h30, H⟩ := obnd H
      refine jc_S (pc := 100) (st := [.int x29]) (c_Sha_turn G _ x17 13 _ h30) L0_Sha_turn w967 w968 (jd k_Sha_mix 68 rfl) rfl (Nat.le_of_ble_eq_true rfl) (by decide) (Nat.le_refl _) (Nat.le_refl _) rfl rfl ?_
      refine j_ixor (pc := 103) (jd k_Sha_mix 69 rfl) ?_
      refine j_iload_n (pc := 104) 2 (jd k_Sha_mix 70 rfl) rfl ?_
      refine j_bipush (pc := 105) (v := 22) (jd k_Sha_mix 71 rfl) (by decide) ?_
      obtain ⟨x33, h32, H⟩ := obnd H
      refine jc_S (pc := 107) (st := [.int (x29 ^^^ x31)]) (c_Sha_turn G _ x17 22 _ h32) L0_Sha_turn w967 w968 (jd k_Sha_mix 72 rfl) rfl (Nat.le_of_ble_eq_true rfl) (by decide) (Nat.le_refl _) (Nat.le_refl _) rfl rfl ?_
      refine j_ixor (pc := 110) (jd k_Sha_mix 73 rfl) ?_
      obtain ⟨x34, e69, H⟩ := olet H
      refine j_topi e69 ?_
      refine j_istore (pc := 111) (lv' := [(0, .ref (ad 17)), (1, .int x13), (2, .int x17), (3, .int x19), (4, .int x22), (5, .int x27), (6, .int x34)]) (jd k_Sha_mix 74 rfl) rfl (Nat.le_of_ble_eq_true rfl) rfl ?_
      refine j_iload_n (pc := 113) 3 (jd k_Sha_mix 75 rfl) rfl ?_
      refine j_bipush (pc := 114) (v := 6) (jd k_Sha_mix 76 rfl) (by decide) ?_
      obtain ⟨x36, h35, H⟩ := obnd H
      refine jc_S (pc := 116) (st := []) (c_Sha_turn G _ x19 6 _ h35) L0_Sha_turn w967 w968 (jd k_Sha_mix 77 rfl) rfl (Nat.le_of_ble_eq_true rfl) (by decide) (Nat.le_refl _) (Nat.le_refl _) rfl rfl ?_
      refine j_iload_n (pc := 119) 3 (jd k_Sha_mix 78 rfl) rfl ?_
      refine j_bipush (pc := 120) (v := 11) (jd k_Sha_mix 79 rfl) (by decide) ?_
      obtain ⟨x38, h37, H⟩ := obnd H
      refine jc_S (pc := 122) (st := [.int x36]) (c_Sha_turn G _ x19 11 _ h37) L0_Sha_turn w967 w968 (jd k_Sha_mix 80 rfl) rfl (Nat.le_of_ble_eq_true rfl) (by decide) (Nat.le_refl _) (Nat.le_refl _) rfl rfl ?_
      refine j_ixor (pc := 125) (jd k_Sha_mix 81 rfl) ?_
      refine j_iload_n (pc := 126) 3 (jd k_Sha_mix 82 rfl) rfl ?_
      refine j_bipush (pc := 127) (v := 25) (jd k_Sha_mix 83 rfl) (by decide) ?_
      obtain ⟨x40, h39, H⟩ := obnd H
      refine jc_S (pc := 129) (st := [.int (x36 ^^^ x38)]) (c_Sha_turn G _ x19 25 _ h39) L0_Sha_turn w967 w968 (jd k_Sha_mix 84 rfl) rfl (Nat.le_of_ble_eq_true rfl) (by decide) (Nat.le_refl _) (Nat.le_refl _) rfl rfl ?_
      refine j_ixor (pc := 132) (jd k_Sha_mix 85 rfl) ?_
      obtain ⟨x41, e68, H⟩ := olet H
      refine j_topi e68 ?_
      refine j_istore (pc := 133) (lv' := [(0, .ref (ad 17)), (1, .int x13), (2, .int x17), (3, .int x19), (4, .int x22), (5, .int x27), (6, .int x34), (7, .int x41)]) (jd k_Sha_mix 86 rfl) rfl (Nat.le_of_ble_eq_true rfl) rfl ?_
      refine j_aload_n (pc := 135) 0 (jd k_Sha_mix 87 rfl) rfl ?_
      refine j_get (pc := 136) (fs := [.ref (ad 18), .ref (ad 19), .ref (ad 20)]) (v := .ref (ad 20)) fl_Sha_16_8 17 (jd k_Sha_mix 88 rfl) rfl rfl ?_
      refine j_bipush (pc := 139) (v := 7) (jd k_Sha_mix 89 rfl) (by decide) ?_
      obtain ⟨h42, H⟩ := ochk H
      refine j_iald (pc := 141) (f := s14 44 0) 20 (jd k_Sha_mix 90 rfl) rfl (jin.vp h42) ?_
      refine j_iload (pc := 142) 7 (jd k_Sha_mix 91 rfl) rfl ?_
      refine j_iadd (pc := 144) (jd k_Sha_mix 92 rfl) ?_
      refine j_iload (pc := 145) 4 (jd k_Sha_mix 93 rfl) rfl ?_
      refine j_iadd (pc := 147) (jd k_Sha_mix 94 rfl) ?_
      refine j_getsK (pc := 148) w974 (jd k_Sha_mix 95 rfl) ?_
      refine j_iload_n (pc := 151) 1 (jd k_Sha_mix 96 rfl) rfl ?_
      obtain ⟨h43, H⟩ := ochk H
      refine j_xald (pc := 152) (f := jTabK) 1 (jd k_Sha_mix 97 rfl) rfl (jin.vp h43) ?_
      refine j_iadd (pc := 153) (jd k_Sha_mix 98 rfl) ?_
      refine j_aload_n (pc := 154) 0 (jd k_Sha_mix 99 rfl) rfl ?_
      refine j_get (pc := 155) (fs := [.ref (ad 18), .ref (ad 19), .ref (ad 20)]) (v := .ref (ad 18)) fl_Sha_9_8 17 (jd k_Sha_mix 100 rfl) rfl rfl ?_
      refine j_iload_n (pc := 158) 1 (jd k_Sha_mix 101 rfl) rfl ?_
      obtain ⟨h44, H⟩ := ochk H
      refine j_iald (pc := 159) (f := s14 42 0) 18 (jd k_Sha_mix 102 rfl) rfl (jin.vp h44) ?_
      refine j_iadd (pc := 160) (jd k_Sha_mix 103 rfl) ?_
      obtain ⟨x45, e67, H⟩ := olet H
      refine j_topi e67 ?_
      refine j_istore (pc := 161) (lv' := [(0, .ref (ad 17)), (1, .int x13), (2, .int x17), (3, .int x19), (4, .int x22), (5, .int x27), (6, .int x34), (7, .int x41), (8, .int x45)]) (jd k_Sha_mix 104 rfl) rfl (Nat.le_of_ble_eq_true rfl) rfl ?_
      refine j_bipush (pc := 163) (v := 7) (jd k_Sha_mix 105 rfl) (by decide) ?_
      refine j_istore (pc := 165) (lv' := [(0, .ref (ad 17)), (1, .int x13), (2, .int x17), (3, .int x19), (4, .int x22), (5, .int x27), (6, .int x34), (7, .int x41), (8, .int x45), (9, .int 7)]) (jd k_Sha_mix 106 rfl) rfl (Nat.le_of_ble_eq_true rfl) rfl ?_
      obtain ⟨⟨x55, s56⟩, h57, H⟩ := obnd H
      try dsimp only at H
      refine j_pick (lv' := [(0, .ref (ad 17)), (1, .int x13), (5, .int x27), (6, .int x34), (8, .int x45), (9, .int 7)]) [0, 1, 5, 6, 8, 9] rfl ?_
      refine lp_Sha_mix_167 x13 x27 x34 x45 jF 7 s14 _ h57 ?_
      refine j_pick (lv' := [(0, .ref (ad 17)), (1, .int x13), (5, .int x27), (6, .int x34), (8, .int x45)]) [0, 1, 2, 3, 4] rfl ?_
      refine j_aload_n (pc := 194) 0 (jd k_Sha_mix 121 rfl) rfl ?_
      refine j_get (pc := 195) (fs := [.ref (ad 18), .ref (ad 19), .ref (ad 20)]) (v := .ref (ad 20)) fl_Sha_16_8 17 (jd k_Sha_mix 122 rfl) rfl rfl ?_
      refine j_iconst (pc := 198) (v := 4) (jd k_Sha_mix 123 rfl) (by decide) ?_
      refine j_dup2 (pc := 199) (jd k_Sha_mix 124 rfl) rfl rfl ?_
      obtain ⟨h58, H⟩ := ochk H
      refine j_iald (pc := 200) (f := s56 44 0) 20 (jd k_Sha_mix 125 rfl) rfl (jin.vp h58) ?_
      refine j_iload (pc := 201) 4 (jd k_Sha_mix 126 rfl) rfl ?_
      refine j_iadd (pc := 203) (jd k_Sha_mix 127 rfl) ?_
      obtain ⟨h61, H⟩ := ochk H
      obtain ⟨s59, e60, H⟩ := olet H
      refine j_iast (pc := 204) (f := s56 44 0) 20 (jd k_Sha_mix 128 rfl) rfl (jin.vp h61) ((wrF_20 ad G s56 _).trans (congrArg (mkC ad G) e60)) ?_
      refine j_aload_n (pc := 205) 0 (jd k_Sha_mix 129 rfl) rfl ?_
      refine j_get (pc := 206) (fs := [.ref (ad 18), .ref (ad 19), .ref (ad 20)]) (v := .ref (ad 20)) fl_Sha_16_8 17 (jd k_Sha_mix 130 rfl) rfl rfl ?_
      refine j_iconst (pc := 209) (v := 0) (jd k_Sha_mix 131 rfl) (by decide) ?_
      refine j_iload (pc := 210) 4 (jd k_Sha_mix 132 rfl) rfl ?_
      refine j_iload (pc := 212) 3 (jd k_Sha_mix 133 rfl) rfl ?_
      refine j_iadd (pc := 214) (jd k_Sha_mix 134 rfl) ?_
      refine j_iload (pc := 215) 2 (jd k_Sha_mix 135 rfl) rfl ?_
      refine j_iadd (pc := 217) (jd k_Sha_mix 136 rfl) ?_
      obtain ⟨h64, H⟩ := ochk H
      obtain ⟨s62, e63, H⟩ := olet H
      refine j_iast (pc := 218) (f := s59 44 0) 20 (jd k_Sha_mix 137 rfl) rfl (jin.vp h64) ((wrF_20 ad G s59 _).trans (congrArg (mkC ad G) e63)) ?_
      obtain ⟨x65, e66, H⟩ := olet H
      refine j_iinc (pc := 219) (lv' := [(0, .ref (ad 17)), (1, .int x65), (5, .int x27), (6, .int x34), (8, .int x45)]) 1 (jd k_Sha_mix 138 rfl) rfl e66 rfl (Nat.le_of_ble_eq_true rfl) rfl ?_
      refine j_goto (pc := 222) (tgt := 17) (jd k_Sha_mix 139 rfl) rfl ?_
      refine j_pick (lv' := [(0, .ref (ad 17)), (1, .int x65)]) [0, 1] rfl ?_
      exact ih x65 s62 _ H kx

set_option maxRecDepth 20000 in
theorem c_Sha_mix (ad : Nat → Nat) (G : jG) (s : jU) (r : jU) (H : f_Sha_mix s = some r) : jCon G m_Sha_mix y_Sha_mix 1 0 0 [.ref (ad 17)] (mkC ad G s) (jEq none (mkC ad G r)) := by
  refine jCon.of (by decide +kernel) rfl rfl rfl (Nat.le_of_ble_eq_true rfl) rfl ?_
  have H : (
  if jin 8 9 then
  jlet (ups s 44 0 (va_cpy (s 43 0) (s 44 0) (0 : Int32).toNatClampNeg (0 : Int32).toNatClampNeg (8 : Int32).toNatClampNeg)) fun s10 =>
  Option.bind (L_Sha_mix_17 jF 0 s10) fun (x74, s75) =>
  Option.bind (L_Sha_mix_227 jF 0 s75) fun (x87, s88) =>
  some s88
  else none) = some r := H
  generalize hP9 : jEq none (mkC ad G r) = P
  refine j_aload_n (pc := 0) 0 (jd k_Sha_mix 0 rfl) rfl ?_
  refine j_get (pc := 1) (fs := [.ref (ad 18), .ref (ad 19), .ref (ad 20)]) (v := .ref (ad 19)) fl_Sha_13_8 17 (jd k_Sha_mix 1 rfl) rfl rfl ?_
  refine j_iconst (pc := 4) (v := 0) (jd k_Sha_mix 2 rfl) (by decide) ?_
  refine j_aload_n (pc := 5) 0 (jd k_Sha_mix 3 rfl) rfl ?_
  refine j_get (pc := 6) (fs := [.ref (ad 18), .ref (ad 19), .ref (ad 20)]) (v := .ref (ad 20)) fl_Sha_16_8 17 (jd k_Sha_mix 4 rfl) rfl rfl ?_
  refine j_iconst (pc := 9) (v := 0) (jd k_Sha_mix 5 rfl) (by decide) ?_
  refine j_bipush (pc := 10) (v := 8) (jd k_Sha_mix 6 rfl) (by decide) ?_
  obtain ⟨h12, H⟩ := ochk H
  obtain ⟨s10, e11, H⟩ := olet H
  refine j_copy (pc := 12) (st := []) (f := s 43 0) (g := s 44 0) 19 20 w959 w343 w342 w81 rfl rfl (by decide) (by decide) (jcp0 h12) (jcp1 h12 (by decide)) (jcp1 h12 (by decide)) (Nat.le_of_ble_eq_true rfl) (jd k_Sha_mix 7 rfl) ((wrF_20 ad G s _).trans (congrArg (mkC ad G) e11)) ?_
  refine j_iconst (pc := 15) (v := 0) (jd k_Sha_mix 8 rfl) (by decide) ?_
  refine j_istore_n (pc := 16) (lv' := [(0, .ref (ad 17)), (1, .int 0)]) (jd k_Sha_mix 9 rfl) rfl (Nat.le_of_ble_eq_true rfl) rfl ?_
  obtain ⟨⟨x74, s75⟩, h76, H⟩ := obnd H
  try dsimp only at H
  refine lp_Sha_mix_17  jF 0 s10 _ h76 ?_
  refine j_pick (lv' := [(0, .ref (ad 17))]) [0] rfl ?_
  refine j_iconst (pc := 225) (v := 0) (jd k_Sha_mix 140 rfl) (by decide) ?_
  refine j_istore_n (pc := 226) (lv' := [(0, .ref (ad 17)), (1, .int 0)]) (jd k_Sha_mix 141 rfl) rfl (Nat.le_of_ble_eq_true rfl) rfl ?_
  obtain ⟨⟨x87, s88⟩, h89, H⟩ := obnd H
  try dsimp only at H
  refine lp_Sha_mix_227  jF 0 s75 _ h89 ?_
  refine j_pick (lv' := []) [] rfl ?_
  cases H
  subst hP9
  exact j_vret (pc := 254) (jd k_Sha_mix 158 rfl) rfl ⟨rfl, rfl⟩

set_option maxRecDepth 20000 in
theorem lp_Sha_wordOf_31 {ad : Nat → Nat} {G : jG} {P : jR → va_W → Prop} (p1 : Int32) (p2 : Int32) (x13 : Int32) : ∀ (n : Nat) (x14 : Int32) (s15 : jU) (r : Int32 × jU), L_Sha_wordOf_31 p1 x13 n x14 s15 = some r → J G m_Sha_wordOf 2 0 0 P 58 [(0, .ref (ad 17)), (1, .ref (ad 16)), (2, .int p1), (3, .int p2), (4, .int x13), (5, .int r.1)] [] (mkC ad G r.2) 0 0 → J G m_Sha_wordOf 2 0 0 P 31 [(0, .ref (ad 17)), (1, .ref (ad 16)), (2, .int p1), (3, .int p2), (4, .int x13), (5, .int x14)] [] (mkC ad G s15) 0 0 := by
  intro n
  induction n with
  | zero =>
    intro x14 s15 r H
    cases (show none = some r from H)
  | succ n ih =>
    intro x14 s15 r H kx
    have H : (
    if x13 ≤ x14 then
      some (x14, s15)
    else
      Option.bind (f_Sha_fillSchedule p1 x14 x13 s15) fun s18 =>
      Option.bind (f_Sha_mix s18) fun s20 =>
      jlet (x14 + 1) fun x21 =>
      L_Sha_wordOf_31 p1 x13 n x21 s20) = some r := H
    refine j_iload (pc := 31) 5 (jd k_Sha_wordOf 19 rfl) rfl ?_
    refine j_iload (pc := 33) 4 (jd k_Sha_wordOf 20 rfl) rfl ?_
    refine j_icmp_ge (pc := 35) (tgt := 58) (jd k_Sha_wordOf 21 rfl) rfl (fun h16 => ?_) (fun h16 => ?_)
    · rw [if_pos h16] at H
      cases H
      exact kx
    · rw [if_neg h16] at H
      refine j_aload_n (pc := 38) 0 (jd k_Sha_wordOf 22 rfl) rfl ?_
      refine j_aload_n (pc := 39) 1 (jd k_Sha_wordOf 23 rfl) rfl ?_
      refine j_iload_n (pc := 40) 2 (jd k_Sha_wordOf 24 rfl) rfl ?_
      refine j_iload (pc := 41) 5 (jd k_Sha_wordOf 25 rfl) rfl ?_
      refine j_iload (pc := 43) 4 (jd k_Sha_wordOf 26 rfl) rfl ?_
      obtain ⟨s18, h17, H⟩ := obnd H
      refine jc_V (pc := 45) (st := []) (c_Sha_fillSchedule ad G p1 x14 x13 s15 _ h17) L0_Sha_fillSchedule w960 w962 w26 17 rfl rfl (jd k_Sha_wordOf 27 rfl) rfl (Nat.le_of_ble_eq_true rfl) (by decide) (Nat.le_refl _) (Nat.le_refl _) rfl rfl ?_
      refine j_aload_n (pc := 48) 0 (jd k_Sha_wordOf 28 rfl) rfl ?_
      obtain ⟨s20, h19, H⟩ := obnd H
      refine jc_V (pc := 49) (st := []) (c_Sha_mix ad G s18 _ h19) L0_Sha_mix w970 w972 w27 17 rfl rfl (jd k_Sha_wordOf 29 rfl) rfl (Nat.le_of_ble_eq_true rfl) (by decide) (Nat.le_refl _) (Nat.le_refl _) rfl rfl ?_
      obtain ⟨x21, e22, H⟩ := olet H
      refine j_iinc (pc := 52) (lv' := [(0, .ref (ad 17)), (1, .ref (ad 16)), (2, .int p1), (3, .int p2), (4, .int x13), (5, .int x21)]) 5 (jd k_Sha_wordOf 30 rfl) rfl e22 rfl (Nat.le_of_ble_eq_true rfl) rfl ?_
      refine j_goto (pc := 55) (tgt := 31) (jd k_Sha_wordOf 31 rfl) rfl ?_
      exact ih x21 s20 _ H kx

set_option maxRecDepth 20000 in
theorem c_Sha_wordOf (ad : Nat → Nat) (G : jG) (p1 : Int32) (p2 : Int32) (s : jU) (r : Int32 × jU) (H : f_Sha_wordOf p1 p2 s = some r) : jCon G m_Sha_wordOf y_Sha_wordOf 2 0 0 [.ref (ad 17), .ref (ad 16), .int p1, .int p2] (mkC ad G s) (jEq (some (.int r.1)) (mkC ad G r.2)) := by
  refine jCon.of (by decide +kernel) rfl rfl rfl (Nat.le_of_ble_eq_true rfl) rfl ?_
  have H : (
  if jin 8 9 then
  jlet (ups s 43 0 (va_cpy (jTabS) (s 43 0) (0 : Int32).toNatClampNeg (0 : Int32).toNatClampNeg (8 : Int32).toNatClampNeg)) fun s10 =>
  jlet ((((p1 + 9) + 64) - 1) / 64) fun x13 =>
  Option.bind (L_Sha_wordOf_31 p1 x13 jF 0 s10) fun (x23, s24) =>
  if jin p2 8 then
  some (s24 43 0 p2.toNatClampNeg, s24)
  else none
  else none) = some r := H
  generalize hP9 : jEq (some (.int r.1)) (mkC ad G r.2) = P
  refine j_getsS (pc := 0) w957 (jd k_Sha_wordOf 0 rfl) ?_
  refine j_iconst (pc := 3) (v := 0) (jd k_Sha_wordOf 1 rfl) (by decide) ?_
  refine j_aload_n (pc := 4) 0 (jd k_Sha_wordOf 2 rfl) rfl ?_
  refine j_get (pc := 5) (fs := [.ref (ad 18), .ref (ad 19), .ref (ad 20)]) (v := .ref (ad 19)) fl_Sha_13_8 17 (jd k_Sha_wordOf 3 rfl) rfl rfl ?_
  refine j_iconst (pc := 8) (v := 0) (jd k_Sha_wordOf 4 rfl) (by decide) ?_
  refine j_bipush (pc := 9) (v := 8) (jd k_Sha_wordOf 5 rfl) (by decide) ?_
  obtain ⟨h12, H⟩ := ochk H
  obtain ⟨s10, e11, H⟩ := olet H
  refine j_copyx (pc := 11) (st := []) (f := jTabS) (g := s 43 0) 0 19 w959 w343 w342 w81 rfl rfl (by decide) (by decide) (jcp0 h12) (jcp1 h12 (by decide)) (jcp1 h12 (by decide)) (Nat.le_of_ble_eq_true rfl) (jd k_Sha_wordOf 6 rfl) ((wrF_19 ad G s _).trans (congrArg (mkC ad G) e11)) ?_
  refine j_iload_n (pc := 14) 2 (jd k_Sha_wordOf 7 rfl) rfl ?_
  refine j_bipush (pc := 15) (v := 9) (jd k_Sha_wordOf 8 rfl) (by decide) ?_
  refine j_iadd (pc := 17) (jd k_Sha_wordOf 9 rfl) ?_
  refine j_bipush (pc := 18) (v := 64) (jd k_Sha_wordOf 10 rfl) (by decide) ?_
  refine j_iadd (pc := 20) (jd k_Sha_wordOf 11 rfl) ?_
  refine j_iconst (pc := 21) (v := 1) (jd k_Sha_wordOf 12 rfl) (by decide) ?_
  refine j_isub (pc := 22) (jd k_Sha_wordOf 13 rfl) ?_
  refine j_bipush (pc := 23) (v := 64) (jd k_Sha_wordOf 14 rfl) (by decide) ?_
  refine j_idiv (pc := 25) (jd k_Sha_wordOf 15 rfl) (by decide) ?_
  obtain ⟨x13, e27, H⟩ := olet H
  refine j_topi e27 ?_
  refine j_istore (pc := 26) (lv' := [(0, .ref (ad 17)), (1, .ref (ad 16)), (2, .int p1), (3, .int p2), (4, .int x13)]) (jd k_Sha_wordOf 16 rfl) rfl (Nat.le_of_ble_eq_true rfl) rfl ?_
  refine j_iconst (pc := 28) (v := 0) (jd k_Sha_wordOf 17 rfl) (by decide) ?_
  refine j_istore (pc := 29) (lv' := [(0, .ref (ad 17)), (1, .ref (ad 16)), (2, .int p1), (3, .int p2), (4, .int x13), (5, .int 0)]) (jd k_Sha_wordOf 18 rfl) rfl (Nat.le_of_ble_eq_true rfl) rfl ?_
  obtain ⟨⟨x23, s24⟩, h25, H⟩ := obnd H
  try dsimp only at H
  refine lp_Sha_wordOf_31 p1 p2 x13 jF 0 s10 _ h25 ?_
  refine j_pick (lv' := [(0, .ref (ad 17)), (3, .int p2)]) [0, 3] rfl ?_
  refine j_aload_n (pc := 58) 0 (jd k_Sha_wordOf 32 rfl) rfl ?_
  refine j_get (pc := 59) (fs := [.ref (ad 18), .ref (ad 19), .ref (ad 20)]) (v := .ref (ad 19)) fl_Sha_13_8 17 (jd k_Sha_wordOf 33 rfl) rfl rfl ?_
  refine j_iload_n (pc := 62) 1 (jd k_Sha_wordOf 34 rfl) rfl ?_
  obtain ⟨h26, H⟩ := ochk H
  refine j_iald (pc := 63) (f := s24 43 0) 19 (jd k_Sha_wordOf 35 rfl) rfl (jin.vp h26) ?_
  cases H
  subst hP9
  exact j_iret (pc := 64) (jd k_Sha_wordOf 36 rfl) rfl rfl ⟨rfl, rfl⟩

set_option maxRecDepth 20000 in
theorem c_Board_digestWord (ad : Nat → Nat) (G : jG) (p0 : Int32) (s : jU) (r : Int32 × jU) (H : f_Board_digestWord p0 s = some r) : jCon G m_Board_digestWord y_Board_digestWord 3 0 0 [.ref (ad 15), .int p0] (mkC ad G s) (jEq (some (.int r.1)) (mkC ad G r.2)) := by
  refine jCon.of (by decide +kernel) rfl rfl rfl (Nat.le_of_ble_eq_true rfl) rfl ?_
  have H : (
  Option.bind (f_Sha_wordOf (s 41 0 0) p0 s) fun (x11, s12) =>
  some (x11, s12)) = some r := H
  generalize hP9 : jEq (some (.int r.1)) (mkC ad G r.2) = P
  refine j_aload_n (pc := 0) 0 (jd k_Board_digestWord 0 rfl) rfl ?_
  refine j_get (pc := 1) (fs := flBd ad s) (v := .ref (ad 17)) fl_Board_16_1 15 (jd k_Board_digestWord 1 rfl) rfl rfl ?_
  refine j_aload_n (pc := 4) 0 (jd k_Board_digestWord 2 rfl) rfl ?_
  refine j_get (pc := 5) (fs := flBd ad s) (v := .ref (ad 16)) fl_Board_9_1 15 (jd k_Board_digestWord 3 rfl) rfl rfl ?_
  refine j_aload_n (pc := 8) 0 (jd k_Board_digestWord 4 rfl) rfl ?_
  refine j_get (pc := 9) (fs := flBd ad s) (v := .int (s 41 0 0)) fl_Board_20_1 15 (jd k_Board_digestWord 5 rfl) rfl rfl ?_
  refine j_iload_n (pc := 12) 1 (jd k_Board_digestWord 6 rfl) rfl ?_
  obtain ⟨⟨x11, s12⟩, h10, H⟩ := obnd H
  try dsimp only at H
  refine jc_V (pc := 13) (st := []) (c_Sha_wordOf ad G (s 41 0 0) p0 s _ h10) L0_Sha_wordOf w953 w954 w955 17 rfl rfl (jd k_Board_digestWord 7 rfl) rfl (Nat.le_of_ble_eq_true rfl) (by decide) (Nat.le_refl _) (Nat.le_refl _) rfl rfl ?_
  cases H
  subst hP9
  exact j_iret (pc := 16) (jd k_Board_digestWord 8 rfl) rfl rfl ⟨rfl, rfl⟩

set_option maxRecDepth 20000 in
theorem c_SR_digest (ad : Nat → Nat) (G : jG) (p0 : Int32) (s : jU) (r : String ⊕ (Int32 × jU)) (H : f_SR_digest p0 s = some r) : jCon G m_SR_digest y_SR_digest 4 1 6 [.ref (ad 0), .int p0] (mkC ad G s) (jRs (mkC ad G s) (fun a => some (.int a.1)) (fun a => mkC ad G a.2) r) := by
  refine jCon.of (by decide +kernel) rfl rfl rfl (Nat.le_of_ble_eq_true rfl) rfl ?_
  have H : (
  if p0 < 0 then
    some (.inl "java/lang/IndexOutOfBoundsException")
  else
    if p0 < 8 then
      Option.bind (f_Board_digestWord p0 s) fun (x13, s14) =>
      some (.inr (x13, s14))
    else
      some (.inl "java/lang/IndexOutOfBoundsException")) = some r := H
  generalize hP9 : jRs (mkC ad G s) (fun a => some (.int a.1)) (fun a => mkC ad G a.2) r = P
  refine j_iload_n (pc := 0) 1 (jd k_SR_digest 0 rfl) rfl ?_
  refine j_if_lt (pc := 1) (tgt := 10) (jd k_SR_digest 1 rfl) rfl (fun h10 => ?_) (fun h10 => ?_)
  · rw [if_pos h10] at H
    cases H
    subst hP9
    exact j_throw (pc := 10) fit_IndexOutOfBoundsException ex_SR_190 wt921 wt922 wt85 wt948 (jd k_SR_digest 5 rfl) (jd k_SR_digest 6 rfl) (jd k_SR_digest 7 rfl) (jd k_SR_digest 8 rfl) (jd k_SR_digest 9 rfl) rfl (by decide) (Nat.le_of_ble_eq_true rfl) (by decide) (by decide) ⟨rfl, rfl⟩
  · rw [if_neg h10] at H
    refine j_iload_n (pc := 4) 1 (jd k_SR_digest 2 rfl) rfl ?_
    refine j_bipush (pc := 5) (v := 8) (jd k_SR_digest 3 rfl) (by decide) ?_
    refine j_icmp_lt (pc := 7) (tgt := 20) (jd k_SR_digest 4 rfl) rfl (fun h11 => ?_) (fun h11 => ?_)
    · rw [if_pos h11] at H
      refine j_aload_n (pc := 20) 0 (jd k_SR_digest 10 rfl) rfl ?_
      refine j_get (pc := 21) (fs := [.ref (ad 1), .ref (ad 5), .ref (ad 9)]) (v := .ref (ad 9)) fl_SR_43_0 0 (jd k_SR_digest 11 rfl) rfl rfl ?_
      refine jc_V (pc := 24) (st := []) (c_Room_shownToAll ad G s) L0_Room_shownToAll w420 w421 w422 9 rfl rfl (jd k_SR_digest 12 rfl) rfl (Nat.le_of_ble_eq_true rfl) (by decide) (by decide) (by decide) rfl rfl ?_
      refine j_iload_n (pc := 27) 1 (jd k_SR_digest 13 rfl) rfl ?_
      obtain ⟨⟨x13, s14⟩, h12, H⟩ := obnd H
      try dsimp only at H
      refine jc_V (pc := 28) (st := []) (c_Board_digestWord ad G p0 s _ h12) L0_Board_digestWord w949 w950 w951 15 rfl rfl (jd k_SR_digest 14 rfl) rfl (Nat.le_of_ble_eq_true rfl) (by decide) (by decide) (by decide) rfl rfl ?_
      cases H
      subst hP9
      refine j_widen (k' := 1) (n' := 6) (by decide) (by decide) ?_
      exact j_iret (pc := 31) (jd k_SR_digest 15 rfl) rfl rfl ⟨rfl, rfl⟩
    · rw [if_neg h11] at H
      cases H
      subst hP9
      exact j_throw (pc := 10) fit_IndexOutOfBoundsException ex_SR_190 wt921 wt922 wt85 wt948 (jd k_SR_digest 5 rfl) (jd k_SR_digest 6 rfl) (jd k_SR_digest 7 rfl) (jd k_SR_digest 8 rfl) (jd k_SR_digest 9 rfl) rfl (by decide) (Nat.le_of_ble_eq_true rfl) (by decide) (by decide) ⟨rfl, rfl⟩

set_option maxRecDepth 20000 in
theorem c_SR_needDone (ad : Nat → Nat) (G : jG) (s : jU) (r : String ⊕ (Unit)) (H : f_SR_needDone s = some r) : jCon G m_SR_needDone y_SR_needDone 4 1 6 [.ref (ad 0)] (mkC ad G s) (jRs (mkC ad G s) (fun _ => none) (fun _ => (mkC ad G s)) r) := by
  refine jCon.of (by decide +kernel) rfl rfl rfl (Nat.le_of_ble_eq_true rfl) rfl ?_
  have H : (
  Option.bind (f_Room_stage s) fun x11 =>
  if x11 = 2 then
    some (.inr ())
  else
    some (.inl "java/lang/IllegalStateException")) = some r := H
  generalize hP9 : jRs (mkC ad G s) (fun _ => none) (fun _ => (mkC ad G s)) r = P
  refine j_aload_n (pc := 0) 0 (jd k_SR_needDone 0 rfl) rfl ?_
  refine j_get (pc := 1) (fs := [.ref (ad 1), .ref (ad 5), .ref (ad 9)]) (v := .ref (ad 9)) fl_SR_43_0 0 (jd k_SR_needDone 1 rfl) rfl rfl ?_
  obtain ⟨x11, h10, H⟩ := obnd H
  refine jc_V (pc := 4) (st := []) (c_Room_stage ad G s _ h10) L0_Room_stage w373 w374 w375 9 rfl rfl (jd k_SR_needDone 2 rfl) rfl (Nat.le_of_ble_eq_true rfl) (by decide) (by decide) (by decide) rfl rfl ?_
  refine j_iconst (pc := 7) (v := 2) (jd k_SR_needDone 3 rfl) (by decide) ?_
  refine j_icmp_eq (pc := 8) (tgt := 21) (jd k_SR_needDone 4 rfl) rfl (fun h12 => ?_) (fun h12 => ?_)
  · rw [if_pos h12] at H
    cases H
    subst hP9
    refine j_widen (k' := 1) (n' := 6) (by decide) (by decide) ?_
    exact j_vret (pc := 21) (jd k_SR_needDone 10 rfl) rfl ⟨rfl, rfl⟩
  · rw [if_neg h12] at H
    cases H
    subst hP9
    exact j_throw (pc := 11) fit_IllegalStateException ex_SR_74 wt542 wt543 wt80 wt987 (jd k_SR_needDone 5 rfl) (jd k_SR_needDone 6 rfl) (jd k_SR_needDone 7 rfl) (jd k_SR_needDone 8 rfl) (jd k_SR_needDone 9 rfl) rfl (by decide) (Nat.le_of_ble_eq_true rfl) (by decide) (by decide) ⟨rfl, rfl⟩

set_option maxRecDepth 20000 in
theorem c_Room_isEnough (ad : Nat → Nat) (G : jG) (p0 : Int32) (s : jU) (r : Int32) (H : f_Room_isEnough p0 s = some r) : jCon G m_Room_isEnough y_Room_isEnough 1 0 0 [.ref (ad 9), .int p0] (mkC ad G s) (jEq (some (.int r)) (mkC ad G s)) := by
  refine jCon.of (by decide +kernel) rfl rfl rfl (Nat.le_of_ble_eq_true rfl) rfl ?_
  have H : (
  Option.bind (f_Room_everybody s) fun x11 =>
  Option.bind (α := Int32) (
    if ¬ (p0 &&& (x11 ^^^ (-1))) = 0 then
      some 0
    else
      Option.bind (f_Integer_bitCount p0) fun x14 =>
      if x14 < (s 21 0 0) then
        some 0
      else
        some 1) fun x16 =>
  if jbo x16 then
  some x16
  else none) = some r := H
  generalize hP9 : jEq (some (.int r)) (mkC ad G s) = P
  refine j_iload_n (pc := 0) 1 (jd k_Room_isEnough 0 rfl) rfl ?_
  refine j_aload_n (pc := 1) 0 (jd k_Room_isEnough 1 rfl) rfl ?_
  obtain ⟨x11, h10, H⟩ := obnd H
  refine jc_V (pc := 2) (st := [.int p0]) (c_Room_everybody ad G s _ h10) L0_Room_everybody w385 w387 w0 9 rfl rfl (jd k_Room_isEnough 2 rfl) rfl (Nat.le_of_ble_eq_true rfl) (by decide) (Nat.le_refl _) (Nat.le_refl _) rfl rfl ?_
  refine j_iconst (pc := 5) (v := (-1)) (jd k_Room_isEnough 3 rfl) (by decide) ?_
  refine j_ixor (pc := 6) (jd k_Room_isEnough 4 rfl) ?_
  refine j_iand (pc := 7) (jd k_Room_isEnough 5 rfl) ?_
  obtain ⟨x16, h17, H⟩ := obnd H
  have K18 : J G m_Room_isEnough 1 0 0 P 27 [] [.int x16] (mkC ad G s) 0 0 := by
    obtain ⟨h19, H⟩ := ochk H
    cases H
    subst hP9
    exact j_iret (pc := 27) (jd k_Room_isEnough 15 rfl) rfl (jbo.nar h19) ⟨rfl, rfl⟩
  have H := h17
  refine j_if_ne (pc := 8) (tgt := 26) (jd k_Room_isEnough 6 rfl) rfl (fun h12 => ?_) (fun h12 => ?_)
  · rw [if_pos h12] at H
    refine j_iconst (pc := 26) (v := 0) (jd k_Room_isEnough 14 rfl) (by decide) ?_
    cases H
    exact j_pick [] rfl K18
  · rw [if_neg (not_not_intro h12)] at H
    refine j_iload_n (pc := 11) 1 (jd k_Room_isEnough 7 rfl) rfl ?_
    obtain ⟨x14, h13, H⟩ := obnd H
    refine jc_S (pc := 12) (st := []) (c_Integer_bitCount G _ p0 _ h13) L0_Integer_bitCount w817 w818 (jd k_Room_isEnough 8 rfl) rfl (Nat.le_of_ble_eq_true rfl) (by decide) (Nat.le_refl _) (Nat.le_refl _) rfl rfl ?_
    refine j_aload_n (pc := 15) 0 (jd k_Room_isEnough 9 rfl) rfl ?_
    refine j_get (pc := 16) (fs := flRm ad s) (v := .int (s 21 0 0)) fl_Room_59_7 9 (jd k_Room_isEnough 10 rfl) rfl rfl ?_
    refine j_icmp_lt (pc := 19) (tgt := 26) (jd k_Room_isEnough 11 rfl) rfl (fun h15 => ?_) (fun h15 => ?_)
    · rw [if_pos h15] at H
      refine j_iconst (pc := 26) (v := 0) (jd k_Room_isEnough 14 rfl) (by decide) ?_
      cases H
      exact j_pick [] rfl K18
    · rw [if_neg h15] at H
      refine j_iconst (pc := 22) (v := 1) (jd k_Room_isEnough 12 rfl) (by decide) ?_
      refine j_goto (pc := 23) (tgt := 27) (jd k_Room_isEnough 13 rfl) rfl ?_
      cases H
      exact j_pick [] rfl K18

set_option maxRecDepth 20000 in
theorem c_SR_needEnough (ad : Nat → Nat) (G : jG) (p0 : Int32) (s : jU) (r : String ⊕ (Unit)) (H : f_SR_needEnough p0 s = some r) : jCon G m_SR_needEnough y_SR_needEnough 4 1 6 [.ref (ad 0), .int p0] (mkC ad G s) (jRs (mkC ad G s) (fun _ => none) (fun _ => (mkC ad G s)) r) := by
  refine jCon.of (by decide +kernel) rfl rfl rfl (Nat.le_of_ble_eq_true rfl) rfl ?_
  have H : (
  Option.bind (f_Room_isEnough p0 s) fun x11 =>
  if ¬ x11 = 0 then
    some (.inr ())
  else
    some (.inl "java/lang/IllegalArgumentException")) = some r := H
  generalize hP9 : jRs (mkC ad G s) (fun _ => none) (fun _ => (mkC ad G s)) r = P
  refine j_aload_n (pc := 0) 0 (jd k_SR_needEnough 0 rfl) rfl ?_
  refine j_get (pc := 1) (fs := [.ref (ad 1), .ref (ad 5), .ref (ad 9)]) (v := .ref (ad 9)) fl_SR_43_0 0 (jd k_SR_needEnough 1 rfl) rfl rfl ?_
  refine j_iload_n (pc := 4) 1 (jd k_SR_needEnough 2 rfl) rfl ?_
  obtain ⟨x11, h10, H⟩ := obnd H
  refine jc_V (pc := 5) (st := []) (c_Room_isEnough ad G p0 s _ h10) L0_Room_isEnough w992 w993 w994 9 rfl rfl (jd k_SR_needEnough 3 rfl) rfl (Nat.le_of_ble_eq_true rfl) (by decide) (by decide) (by decide) rfl rfl ?_
  refine j_if_ne (pc := 8) (tgt := 21) (jd k_SR_needEnough 4 rfl) rfl (fun h12 => ?_) (fun h12 => ?_)
  · rw [if_pos h12] at H
    cases H
    subst hP9
    refine j_widen (k' := 1) (n' := 6) (by decide) (by decide) ?_
    exact j_vret (pc := 21) (jd k_SR_needEnough 10 rfl) rfl ⟨rfl, rfl⟩
  · rw [if_neg (not_not_intro h12)] at H
    cases H
    subst hP9
    exact j_throw (pc := 11) fit_IllegalArgumentException ex_SR_51 wt444 wt445 wt79 wt996 (jd k_SR_needEnough 5 rfl) (jd k_SR_needEnough 6 rfl) (jd k_SR_needEnough 7 rfl) (jd k_SR_needEnough 8 rfl) (jd k_SR_needEnough 9 rfl) rfl (by decide) (Nat.le_of_ble_eq_true rfl) (by decide) (by decide) ⟨rfl, rfl⟩

set_option maxRecDepth 20000 in
theorem lp_Room_collectShares_13 {ad : Nat → Nat} {G : jG} {P : jR → va_W → Prop} (p0 : Int32) : ∀ (n : Nat) (x12 : Int32) (s13 : jU) (r : Int32 × jU), L_Room_collectShares_13 p0 n x12 s13 = some r → J G m_Room_collectShares 1 0 0 P 54 [(0, .ref (ad 9)), (1, .int p0), (2, .int r.1)] [] (mkC ad G r.2) 0 0 → J G m_Room_collectShares 1 0 0 P 13 [(0, .ref (ad 9)), (1, .int p0), (2, .int x12)] [] (mkC ad G s13) 0 0 := by
  intro n
  induction n with
  | zero =>
    intro x12 s13 r H
    cases (show none = some r from H)
  | succ n ih =>
    intro x12 s13 r H kx
    have H : (
    if (s13 20 0 0) < x12 then
      some (x12, s13)
    else
      Option.bind (f_SR_bit x12) fun x16 =>
      Option.bind (α := jU) (
        if (p0 &&& x16) = 0 then
          some s13
        else
          Option.bind (jidx (x12 - 1) 7) fun k18 =>
          if jin 0 2 then
          Option.bind (f_Points_add 1 x12 (s13 9 k18 (0 : Int32).toNatClampNeg) s13) fun s22 =>
          some s22
          else none) fun s23 =>
      jlet (x12 + 1) fun x26 =>
      L_Room_collectShares_13 p0 n x26 s23) = some r := H
    refine j_iload_n (pc := 13) 2 (jd k_Room_collectShares 7 rfl) rfl ?_
    refine j_aload_n (pc := 14) 0 (jd k_Room_collectShares 8 rfl) rfl ?_
    refine j_get (pc := 15) (fs := flRm ad s13) (v := .int (s13 20 0 0)) fl_Room_55_7 9 (jd k_Room_collectShares 9 rfl) rfl rfl ?_
    refine j_icmp_gt (pc := 18) (tgt := 54) (jd k_Room_collectShares 10 rfl) rfl (fun h14 => ?_) (fun h14 => ?_)
    · rw [if_pos h14] at H
      cases H
      exact kx
    · rw [if_neg h14] at H
      refine j_iload_n (pc := 21) 1 (jd k_Room_collectShares 11 rfl) rfl ?_
      refine j_iload_n (pc := 22) 2 (jd k_Room_collectShares 12 rfl) rfl ?_
      obtain ⟨x16, h15, H⟩ := obnd H
      refine jc_SN (pc := 23) (st := [.int p0]) (c_SR_bit G _ x12 _ h15) L0_SR_bit wt413 w414 (jd k_Room_collectShares 13 rfl) rfl (Nat.le_of_ble_eq_true rfl) (by decide) (Nat.le_refl _) (Nat.le_refl _) rfl rfl ?_
      refine j_iand (pc := 26) (jd k_Room_collectShares 14 rfl) ?_
      obtain ⟨s23, h24, H⟩ := obnd H
      have K25 : J G m_Room_collectShares 1 0 0 P 48 [(0, .ref (ad 9)), (1, .int p0), (2, .int x12)] [] (mkC ad G s23) 0 0 := by
        obtain ⟨x26, e27, H⟩ := olet H
        refine j_iinc (pc := 48) (lv' := [(0, .ref (ad 9)), (1, .int p0), (2, .int x26)]) 2 (jd k_Room_collectShares 26 rfl) rfl e27 rfl (Nat.le_of_ble_eq_true rfl) rfl ?_
        refine j_goto (pc := 51) (tgt := 13) (jd k_Room_collectShares 27 rfl) rfl ?_
        exact ih x26 s23 _ H kx
      have H := h24
      refine j_if_eq (pc := 27) (tgt := 48) (jd k_Room_collectShares 15 rfl) rfl (fun h17 => ?_) (fun h17 => ?_)
      · rw [if_pos h17] at H
        cases H
        exact K25
      · rw [if_neg h17] at H
        refine j_aload_n (pc := 30) 0 (jd k_Room_collectShares 16 rfl) rfl ?_
        refine j_get (pc := 31) (fs := flRm ad s13) (v := .ref (ad (5 + 16 * 1))) fl_Room_50_7 9 (jd k_Room_collectShares 17 rfl) rfl rfl ?_
        refine j_iload_n (pc := 34) 2 (jd k_Room_collectShares 18 rfl) rfl ?_
        refine j_aload_n (pc := 35) 0 (jd k_Room_collectShares 19 rfl) rfl ?_
        refine j_iload_n (pc := 36) 2 (jd k_Room_collectShares 20 rfl) rfl ?_
        obtain ⟨k18, h19, H⟩ := obnd H
        have hk18 : k18 < 7 := jidx.lt h19
        refine jc_V (pc := 37) (st := [.int x12, .ref (ad (5 + 16 * 1))]) (c_Room_party ad G x12 s13 k18 h19) L0_Room_party w401 w403 w1 9 rfl rfl (jd k_Room_collectShares 21 rfl) rfl (Nat.le_of_ble_eq_true rfl) (by decide) (Nat.le_refl _) (Nat.le_refl _) rfl rfl ?_
        refine j_get (pc := 40) (fs := flPy ad s13 k18) (v := .ref (ad (40 + 15 * k18))) fl_Room_141_4 (26 + 15 * k18) (jd k_Room_collectShares 22 rfl) (lkPy ad G s13 hk18) rfl ?_
        refine j_iconst (pc := 43) (v := 0) (jd k_Room_collectShares 23 rfl) (by decide) ?_
        obtain ⟨h20, H⟩ := ochk H
        refine j_iald (pc := 44) (f := s13 9 k18) (40 + 15 * k18) (jd k_Room_collectShares 24 rfl) (lkA_14 ad G s13 hk18) (jin.vp h20) ?_
        obtain ⟨s22, h21, H⟩ := obnd H
        refine jc_V (pc := 45) (st := []) (c_Points_add ad G 1 (by decide) x12 (s13 9 k18 (0 : Int32).toNatClampNeg) s13 _ h21) L0_Points_add w867 w559 w560 (5 + 16 * 1) (lkPt ad G s13 (by decide)) rfl (jd k_Room_collectShares 25 rfl) rfl (Nat.le_of_ble_eq_true rfl) (by decide) (Nat.le_refl _) (Nat.le_refl _) rfl rfl ?_
        cases H
        exact K25

set_option maxRecDepth 20000 in
theorem c_Room_collectShares (ad : Nat → Nat) (G : jG) (p0 : Int32) (s : jU) (r : jU) (H : f_Room_collectShares p0 s = some r) : jCon G m_Room_collectShares y_Room_collectShares 1 0 0 [.ref (ad 9), .int p0] (mkC ad G s) (jEq none (mkC ad G r)) := by
  refine jCon.of (by decide +kernel) rfl rfl rfl (Nat.le_of_ble_eq_true rfl) rfl ?_
  have H : (
  Option.bind (f_Points_clear 1 (fnum (s 53 0 0)) s) fun s11 =>
  Option.bind (L_Room_collectShares_13 p0 jF 1 s11) fun (x28, s29) =>
  some s29) = some r := H
  generalize hP9 : jEq none (mkC ad G r) = P
  refine j_aload_n (pc := 0) 0 (jd k_Room_collectShares 0 rfl) rfl ?_
  refine j_get (pc := 1) (fs := flRm ad s) (v := .ref (ad (5 + 16 * 1))) fl_Room_50_7 9 (jd k_Room_collectShares 1 rfl) rfl rfl ?_
  refine j_aload_n (pc := 4) 0 (jd k_Room_collectShares 2 rfl) rfl ?_
  refine j_get (pc := 5) (fs := flRm ad s) (v := .ref (ad (2 + (fnum (s 53 0 0))))) fl_Room_42_7 9 (jd k_Room_collectShares 3 rfl) rfl rfl ?_
  obtain ⟨s11, h10, H⟩ := obnd H
  refine jc_V (pc := 8) (st := []) (c_Points_clear ad G 1 (by decide) (fnum (s 53 0 0)) (fnum_lt _) s _ h10) L0_Points_clear w865 w512 w513 (5 + 16 * 1) (lkPt ad G s (by decide)) rfl (jd k_Room_collectShares 4 rfl) rfl (Nat.le_of_ble_eq_true rfl) (by decide) (Nat.le_refl _) (Nat.le_refl _) rfl rfl ?_
  refine j_iconst (pc := 11) (v := 1) (jd k_Room_collectShares 5 rfl) (by decide) ?_
  refine j_istore_n (pc := 12) (lv' := [(0, .ref (ad 9)), (1, .int p0), (2, .int 1)]) (jd k_Room_collectShares 6 rfl) rfl (Nat.le_of_ble_eq_true rfl) rfl ?_
  obtain ⟨⟨x28, s29⟩, h30, H⟩ := obnd H
  try dsimp only at H
  refine lp_Room_collectShares_13 p0 jF 1 s11 _ h30 ?_
  refine j_pick (lv' := []) [] rfl ?_
  cases H
  subst hP9
  exact j_vret (pc := 54) (jd k_Room_collectShares 28 rfl) rfl ⟨rfl, rfl⟩

set_option maxRecDepth 20000 in
theorem c_Room_secretOf (ad : Nat → Nat) (G : jG) (p0 : Int32) (s : jU) (r : Int32 × jU) (H : f_Room_secretOf p0 s = some r) : jCon G m_Room_secretOf y_Room_secretOf 4 0 0 [.ref (ad 9), .int p0] (mkC ad G s) (jEq (some (.int r.1)) (mkC ad G r.2)) := by
  refine jCon.of (by decide +kernel) rfl rfl rfl (Nat.le_of_ble_eq_true rfl) rfl ?_
  have H : (
  Option.bind (f_Room_collectShares p0 s) fun s11 =>
  Option.bind (f_Points_valueAt 1 0 s11) fun x13 =>
  some (x13, s11)) = some r := H
  generalize hP9 : jEq (some (.int r.1)) (mkC ad G r.2) = P
  refine j_aload_n (pc := 0) 0 (jd k_Room_secretOf 0 rfl) rfl ?_
  refine j_iload_n (pc := 1) 1 (jd k_Room_secretOf 1 rfl) rfl ?_
  obtain ⟨s11, h10, H⟩ := obnd H
  refine jc_V (pc := 2) (st := []) (c_Room_collectShares ad G p0 s _ h10) L0_Room_collectShares w1001 w1003 w30 9 rfl rfl (jd k_Room_secretOf 2 rfl) rfl (Nat.le_of_ble_eq_true rfl) (by decide) (Nat.le_refl _) (Nat.le_refl _) rfl rfl ?_
  refine j_aload_n (pc := 5) 0 (jd k_Room_secretOf 3 rfl) rfl ?_
  refine j_get (pc := 6) (fs := flRm ad s11) (v := .ref (ad (5 + 16 * 1))) fl_Room_50_7 9 (jd k_Room_secretOf 4 rfl) rfl rfl ?_
  refine j_iconst (pc := 9) (v := 0) (jd k_Room_secretOf 5 rfl) (by decide) ?_
  obtain ⟨x13, h12, H⟩ := obnd H
  refine jc_V (pc := 10) (st := []) (c_Points_valueAt ad G 1 (by decide) 0 s11 _ h12) L0_Points_valueAt w868 w576 w577 (5 + 16 * 1) (lkPt ad G s11 (by decide)) rfl (jd k_Room_secretOf 6 rfl) rfl (Nat.le_of_ble_eq_true rfl) (by decide) (Nat.le_refl _) (Nat.le_refl _) rfl rfl ?_
  cases H
  subst hP9
  exact j_iret (pc := 13) (jd k_Room_secretOf 7 rfl) rfl rfl ⟨rfl, rfl⟩

set_option maxRecDepth 20000 in
theorem c_SR_recover (ad : Nat → Nat) (G : jG) (p0 : Int32) (s : jU) (r : String ⊕ (Int32 × jU)) (H : f_SR_recover p0 s = some r) : jCon G m_SR_recover y_SR_recover 5 2 12 [.ref (ad 0), .int p0] (mkC ad G s) (jRs (mkC ad G s) (fun a => some (.int a.1)) (fun a => mkC ad G a.2) r) := by
  refine jCon.of (by decide +kernel) rfl rfl rfl (Nat.le_of_ble_eq_true rfl) rfl ?_
  have H : (
  jtry (f_SR_needDone s) fun _ =>
  jtry (f_SR_needEnough p0 s) fun _ =>
  Option.bind (f_Room_secretOf p0 s) fun (x13, s14) =>
  some (.inr (x13, s14))) = some r := H
  generalize hP9 : jRs (mkC ad G s) (fun a => some (.int a.1)) (fun a => mkC ad G a.2) r = P
  refine j_aload_n (pc := 0) 0 (jd k_SR_recover 0 rfl) rfl ?_
  rcases otry H with ⟨E9, h10, H⟩ | ⟨a9, h10, H⟩
  · subst H
    subst hP9
    exact j_thrV (pc := 1) (st := []) (c_SR_needDone ad G s (.inl E9) h10) L0_SR_needDone (fun v w q => by cases q.1) w983 w985 w28 0 rfl rfl (jd k_SR_recover 1 rfl) rfl (Nat.le_of_ble_eq_true rfl) (by decide) (by decide) (by decide) rfl rfl (fun E w q => q)
  · refine jt_V (pc := 1) (st := []) (c_SR_needDone ad G s (.inr a9) h10) L0_SR_needDone w983 w985 w28 0 rfl rfl (jd k_SR_recover 1 rfl) rfl (Nat.le_of_ble_eq_true rfl) (by decide) (by decide) (by decide) rfl rfl rfl ?_
    refine j_aload_n (pc := 4) 0 (jd k_SR_recover 2 rfl) rfl ?_
    refine j_iload_n (pc := 5) 1 (jd k_SR_recover 3 rfl) rfl ?_
    rcases otry H with ⟨E9, h11, H⟩ | ⟨a9, h11, H⟩
    · subst H
      subst hP9
      exact j_thrV (pc := 6) (st := []) (c_SR_needEnough ad G p0 s (.inl E9) h11) L0_SR_needEnough (fun v w q => by cases q.1) w988 w990 w29 0 rfl rfl (jd k_SR_recover 4 rfl) rfl (Nat.le_of_ble_eq_true rfl) (by decide) (by decide) (by decide) rfl rfl (fun E w q => q)
    · refine jt_V (pc := 6) (st := []) (c_SR_needEnough ad G p0 s (.inr a9) h11) L0_SR_needEnough w988 w990 w29 0 rfl rfl (jd k_SR_recover 4 rfl) rfl (Nat.le_of_ble_eq_true rfl) (by decide) (by decide) (by decide) rfl rfl rfl ?_
      refine j_aload_n (pc := 9) 0 (jd k_SR_recover 5 rfl) rfl ?_
      refine j_get (pc := 10) (fs := [.ref (ad 1), .ref (ad 5), .ref (ad 9)]) (v := .ref (ad 9)) fl_SR_43_0 0 (jd k_SR_recover 6 rfl) rfl rfl ?_
      refine j_iload_n (pc := 13) 1 (jd k_SR_recover 7 rfl) rfl ?_
      obtain ⟨⟨x13, s14⟩, h12, H⟩ := obnd H
      try dsimp only at H
      refine jc_V (pc := 14) (st := []) (c_Room_secretOf ad G p0 s _ h12) L0_Room_secretOf w997 w998 w999 9 rfl rfl (jd k_SR_recover 8 rfl) rfl (Nat.le_of_ble_eq_true rfl) (by decide) (by decide) (by decide) rfl rfl ?_
      cases H
      subst hP9
      exact j_iret (pc := 17) (jd k_SR_recover 9 rfl) rfl rfl ⟨rfl, rfl⟩

set_option maxRecDepth 20000 in
theorem c_Room_dealtFrom (ad : Nat → Nat) (G : jG) (p0 : Int32) (p1 : Int32) (p2 : Int32) (p3 : Int32) (s : jU) (r : Int32) (H : f_Room_dealtFrom p0 p1 p2 p3 s = some r) : jCon G m_Room_dealtFrom y_Room_dealtFrom 2 0 0 [.ref (ad 9), .int p0, .int p1, .int p2, .int p3] (mkC ad G s) (jEq (some (.int r)) (mkC ad G s)) := by
  refine jCon.of (by decide +kernel) rfl rfl rfl (Nat.le_of_ble_eq_true rfl) rfl ?_
  have H : (
  Option.bind (jidx (p1 - 1) 7) fun k10 =>
  Option.bind (f_Field_polynomialAt (fnum (s 53 0 0)) p0 7 (s 0 k10) p2 p3) fun x13 =>
  some x13) = some r := H
  generalize hP9 : jEq (some (.int r)) (mkC ad G s) = P
  refine j_aload_n (pc := 0) 0 (jd k_Room_dealtFrom 0 rfl) rfl ?_
  refine j_get (pc := 1) (fs := flRm ad s) (v := .ref (ad (2 + (fnum (s 53 0 0))))) fl_Room_42_7 9 (jd k_Room_dealtFrom 1 rfl) rfl rfl ?_
  refine j_iload_n (pc := 4) 1 (jd k_Room_dealtFrom 2 rfl) rfl ?_
  refine j_aload_n (pc := 5) 0 (jd k_Room_dealtFrom 3 rfl) rfl ?_
  refine j_iload_n (pc := 6) 2 (jd k_Room_dealtFrom 4 rfl) rfl ?_
  obtain ⟨k10, h11, H⟩ := obnd H
  have hk10 : k10 < 7 := jidx.lt h11
  refine jc_V (pc := 7) (st := [.int p0, .ref (ad (2 + (fnum (s 53 0 0))))]) (c_Room_party ad G p1 s k10 h11) L0_Room_party w401 w403 w1 9 rfl rfl (jd k_Room_dealtFrom 5 rfl) rfl (Nat.le_of_ble_eq_true rfl) (by decide) (Nat.le_refl _) (Nat.le_refl _) rfl rfl ?_
  refine j_get (pc := 10) (fs := flPy ad s k10) (v := .ref (ad (27 + 15 * k10))) fl_Room_101_4 (26 + 15 * k10) (jd k_Room_dealtFrom 6 rfl) (lkPy ad G s hk10) rfl ?_
  refine j_iconst (pc := 13) (v := 0) (jd k_Room_dealtFrom 7 rfl) (by decide) ?_
  refine j_aald (pc := 14) (t0 := 6) (v := ad (28 + 15 * k10 + 0)) (27 + 15 * k10) (jd k_Room_dealtFrom 8 rfl) (lkAA_1 ad G s hk10) rfl rfl (jidx.vp jidx0) (jidx.row jidx0 ad (jrow15 _ _)) ?_
  refine j_iload_n (pc := 15) 3 (jd k_Room_dealtFrom 9 rfl) rfl ?_
  refine j_iload (pc := 16) 4 (jd k_Room_dealtFrom 10 rfl) rfl ?_
  obtain ⟨x13, h12, H⟩ := obnd H
  refine vF_polynomialAt (pc := 18) (st := []) (fnum (s 53 0 0)) (fnum_lt _) p0 7 (s 0 k10) (28 + 15 * k10 + 0) (ad (28 + 15 * k10 + 0)) (lkR_1 ad G s hk10 (w := 0) jlt0) p2 p3 s _ h12 w765 (jd k_Room_dealtFrom 11 rfl) (Nat.le_of_ble_eq_true rfl) (by decide) (Nat.le_refl _) (Nat.le_refl _) ?_
  cases H
  subst hP9
  exact j_iret (pc := 21) (jd k_Room_dealtFrom 12 rfl) rfl rfl ⟨rfl, rfl⟩

set_option maxRecDepth 20000 in
theorem lp_Room_takeNewShares_2 {ad : Nat → Nat} {G : jG} {P : jR → va_W → Prop} : ∀ (n : Nat) (x10 : Int32) (s11 : jU) (r : Int32 × jU), L_Room_takeNewShares_2 n x10 s11 = some r → J G m_Room_takeNewShares 2 0 0 P 49 [(0, .ref (ad 9)), (1, .int r.1)] [] (mkC ad G r.2) 0 0 → J G m_Room_takeNewShares 2 0 0 P 2 [(0, .ref (ad 9)), (1, .int x10)] [] (mkC ad G s11) 0 0 := by
  intro n
  induction n with
  | zero =>
    intro x10 s11 r H
    cases (show none = some r from H)
  | succ n ih =>
    intro x10 s11 r H kx
    have H : (
    if 7 < x10 then
      some (x10, s11)
    else
      Option.bind (jidx (x10 - 1) 7) fun k13 =>
      Option.bind (f_Party_forget k13 s11) fun s16 =>
      Option.bind (jidx (x10 - 1) 7) fun k17 =>
      if jin x10 8 then
      if jin 0 2 then
      jlet (ups s16 9 k17 (upd (s16 9 k17) (0 : Int32).toNatClampNeg (s16 28 0 x10.toNatClampNeg))) fun s20 =>
      Option.bind (jidx (x10 - 1) 7) fun k23 =>
      if jin 1 2 then
      jlet (ups s20 9 k23 (upd (s20 9 k23) (1 : Int32).toNatClampNeg 0)) fun s25 =>
      jlet (x10 + 1) fun x28 =>
      L_Room_takeNewShares_2 n x28 s25
      else none
      else none
      else none) = some r := H
    refine j_iload_n (pc := 2) 1 (jd k_Room_takeNewShares 2 rfl) rfl ?_
    refine j_bipush (pc := 3) (v := 7) (jd k_Room_takeNewShares 3 rfl) (by decide) ?_
    refine j_icmp_gt (pc := 5) (tgt := 49) (jd k_Room_takeNewShares 4 rfl) rfl (fun h12 => ?_) (fun h12 => ?_)
    · rw [if_pos h12] at H
      cases H
      exact kx
    · rw [if_neg h12] at H
      refine j_aload_n (pc := 8) 0 (jd k_Room_takeNewShares 5 rfl) rfl ?_
      refine j_iload_n (pc := 9) 1 (jd k_Room_takeNewShares 6 rfl) rfl ?_
      obtain ⟨k13, h14, H⟩ := obnd H
      have hk13 : k13 < 7 := jidx.lt h14
      refine jc_V (pc := 10) (st := []) (c_Room_party ad G x10 s11 k13 h14) L0_Room_party w401 w403 w1 9 rfl rfl (jd k_Room_takeNewShares 7 rfl) rfl (Nat.le_of_ble_eq_true rfl) (by decide) (Nat.le_refl _) (Nat.le_refl _) rfl rfl ?_
      obtain ⟨s16, h15, H⟩ := obnd H
      refine jc_V (pc := 13) (st := []) (c_Party_forget ad G k13 hk13 s11 _ h15) L0_Party_forget w1024 w620 w621 (26 + 15 * k13) (lkPy ad G s11 hk13) rfl (jd k_Room_takeNewShares 8 rfl) rfl (Nat.le_of_ble_eq_true rfl) (by decide) (Nat.le_refl _) (Nat.le_refl _) rfl rfl ?_
      refine j_aload_n (pc := 16) 0 (jd k_Room_takeNewShares 9 rfl) rfl ?_
      refine j_iload_n (pc := 17) 1 (jd k_Room_takeNewShares 10 rfl) rfl ?_
      obtain ⟨k17, h18, H⟩ := obnd H
      have hk17 : k17 < 7 := jidx.lt h18
      refine jc_V (pc := 18) (st := []) (c_Room_party ad G x10 s16 k17 h18) L0_Room_party w401 w403 w1 9 rfl rfl (jd k_Room_takeNewShares 11 rfl) rfl (Nat.le_of_ble_eq_true rfl) (by decide) (Nat.le_refl _) (Nat.le_refl _) rfl rfl ?_
      refine j_get (pc := 21) (fs := flPy ad s16 k17) (v := .ref (ad (40 + 15 * k17))) fl_Room_141_4 (26 + 15 * k17) (jd k_Room_takeNewShares 12 rfl) (lkPy ad G s16 hk17) rfl ?_
      refine j_iconst (pc := 24) (v := 0) (jd k_Room_takeNewShares 13 rfl) (by decide) ?_
      refine j_aload_n (pc := 25) 0 (jd k_Room_takeNewShares 14 rfl) rfl ?_
      refine j_get (pc := 26) (fs := flRm ad s16) (v := .ref (ad 25)) fl_Room_24_7 9 (jd k_Room_takeNewShares 15 rfl) rfl rfl ?_
      refine j_iload_n (pc := 29) 1 (jd k_Room_takeNewShares 16 rfl) rfl ?_
      obtain ⟨h19, H⟩ := ochk H
      refine j_iald (pc := 30) (f := s16 28 0) 25 (jd k_Room_takeNewShares 17 rfl) rfl (jin.vp h19) ?_
      obtain ⟨h22, H⟩ := ochk H
      obtain ⟨s20, e21, H⟩ := olet H
      refine j_iast (pc := 31) (f := s16 9 k17) (40 + 15 * k17) (jd k_Room_takeNewShares 18 rfl) (lkA_14 ad G s16 hk17) (jin.vp h22) ((wrA_14 ad G s16 hk17 _).trans (congrArg (mkC ad G) e21)) ?_
      refine j_aload_n (pc := 32) 0 (jd k_Room_takeNewShares 19 rfl) rfl ?_
      refine j_iload_n (pc := 33) 1 (jd k_Room_takeNewShares 20 rfl) rfl ?_
      obtain ⟨k23, h24, H⟩ := obnd H
      have hk23 : k23 < 7 := jidx.lt h24
      refine jc_V (pc := 34) (st := []) (c_Room_party ad G x10 s20 k23 h24) L0_Room_party w401 w403 w1 9 rfl rfl (jd k_Room_takeNewShares 21 rfl) rfl (Nat.le_of_ble_eq_true rfl) (by decide) (Nat.le_refl _) (Nat.le_refl _) rfl rfl ?_
      refine j_get (pc := 37) (fs := flPy ad s20 k23) (v := .ref (ad (40 + 15 * k23))) fl_Room_141_4 (26 + 15 * k23) (jd k_Room_takeNewShares 22 rfl) (lkPy ad G s20 hk23) rfl ?_
      refine j_iconst (pc := 40) (v := 1) (jd k_Room_takeNewShares 23 rfl) (by decide) ?_
      refine j_iconst (pc := 41) (v := 0) (jd k_Room_takeNewShares 24 rfl) (by decide) ?_
      obtain ⟨h27, H⟩ := ochk H
      obtain ⟨s25, e26, H⟩ := olet H
      refine j_iast (pc := 42) (f := s20 9 k23) (40 + 15 * k23) (jd k_Room_takeNewShares 25 rfl) (lkA_14 ad G s20 hk23) (jin.vp h27) ((wrA_14 ad G s20 hk23 _).trans (congrArg (mkC ad G) e26)) ?_
      obtain ⟨x28, e29, H⟩ := olet H
      refine j_iinc (pc := 43) (lv' := [(0, .ref (ad 9)), (1, .int x28)]) 1 (jd k_Room_takeNewShares 26 rfl) rfl e29 rfl (Nat.le_of_ble_eq_true rfl) rfl ?_
      refine j_goto (pc := 46) (tgt := 2) (jd k_Room_takeNewShares 27 rfl) rfl ?_
      exact ih x28 s25 _ H kx

set_option maxRecDepth 20000 in
theorem c_Room_takeNewShares (ad : Nat → Nat) (G : jG) (s : jU) (r : jU) (H : f_Room_takeNewShares s = some r) : jCon G m_Room_takeNewShares y_Room_takeNewShares 2 0 0 [.ref (ad 9)] (mkC ad G s) (jEq none (mkC ad G r)) := by
  refine jCon.of (by decide +kernel) rfl rfl rfl (Nat.le_of_ble_eq_true rfl) rfl ?_
  have H : (
  Option.bind (L_Room_takeNewShares_2 jF 1 s) fun (x30, s31) =>
  some s31) = some r := H
  generalize hP9 : jEq none (mkC ad G r) = P
  refine j_iconst (pc := 0) (v := 1) (jd k_Room_takeNewShares 0 rfl) (by decide) ?_
  refine j_istore_n (pc := 1) (lv' := [(0, .ref (ad 9)), (1, .int 1)]) (jd k_Room_takeNewShares 1 rfl) rfl (Nat.le_of_ble_eq_true rfl) rfl ?_
  obtain ⟨⟨x30, s31⟩, h32, H⟩ := obnd H
  try dsimp only at H
  refine lp_Room_takeNewShares_2  jF 1 s _ h32 ?_
  refine j_pick (lv' := []) [] rfl ?_
  cases H
  subst hP9
  exact j_vret (pc := 49) (jd k_Room_takeNewShares 28 rfl) rfl ⟨rfl, rfl⟩

set_option maxRecDepth 20000 in
theorem lp_Room_renewShares_23 {ad : Nat → Nat} {G : jG} {P : jR → va_W → Prop} (x10 : Int32) (s11 : jU) : ∀ (n : Nat) (x17 : Int32) (x18 : Int32) (r : Int32 × Int32), L_Room_renewShares_23 x10 s11 n x17 x18 = some r → J G m_Room_renewShares 3 0 0 P 68 [(0, .ref (ad 9)), (1, .int x10), (2, .int r.1), (3, .int r.2)] [] (mkC ad G s11) 0 0 → J G m_Room_renewShares 3 0 0 P 23 [(0, .ref (ad 9)), (1, .int x10), (2, .int x17), (3, .int x18)] [] (mkC ad G s11) 0 0 := by
  intro n
  induction n with
  | zero =>
    intro x17 x18 r H
    cases (show none = some r from H)
  | succ n ih =>
    intro x17 x18 r H kx
    have H : (
    if (s11 20 0 0) < x18 then
      some (x17, x18)
    else
      Option.bind (jidx (x18 - 1) 7) fun k20 =>
      Option.bind (f_Party_neverCrashes k20 s11) fun x23 =>
      Option.bind (α := Int32) (
        if x23 = 0 then
          some x17
        else
          Option.bind (f_Room_dealtFrom 0 x18 (s11 21 0 0) x10 s11) fun x26 =>
          Option.bind (F_plus (fnum (s11 53 0 0)) x17 x26) fun x28 =>
          some x28) fun x29 =>
      jlet (x18 + 1) fun x32 =>
      L_Room_renewShares_23 x10 s11 n x29 x32) = some r := H
    refine j_iload_n (pc := 23) 3 (jd k_Room_renewShares 15 rfl) rfl ?_
    refine j_aload_n (pc := 24) 0 (jd k_Room_renewShares 16 rfl) rfl ?_
    refine j_get (pc := 25) (fs := flRm ad s11) (v := .int (s11 20 0 0)) fl_Room_55_7 9 (jd k_Room_renewShares 17 rfl) rfl rfl ?_
    refine j_icmp_gt (pc := 28) (tgt := 68) (jd k_Room_renewShares 18 rfl) rfl (fun h19 => ?_) (fun h19 => ?_)
    · rw [if_pos h19] at H
      cases H
      exact kx
    · rw [if_neg h19] at H
      refine j_aload_n (pc := 31) 0 (jd k_Room_renewShares 19 rfl) rfl ?_
      refine j_iload_n (pc := 32) 3 (jd k_Room_renewShares 20 rfl) rfl ?_
      obtain ⟨k20, h21, H⟩ := obnd H
      have hk20 : k20 < 7 := jidx.lt h21
      refine jc_V (pc := 33) (st := []) (c_Room_party ad G x18 s11 k20 h21) L0_Room_party w401 w403 w1 9 rfl rfl (jd k_Room_renewShares 21 rfl) rfl (Nat.le_of_ble_eq_true rfl) (by decide) (Nat.le_refl _) (Nat.le_refl _) rfl rfl ?_
      obtain ⟨x23, h22, H⟩ := obnd H
      refine jc_V (pc := 36) (st := []) (c_Party_neverCrashes ad G k20 hk20 s11 _ h22) L0_Party_neverCrashes w409 w410 w411 (26 + 15 * k20) (lkPy ad G s11 hk20) rfl (jd k_Room_renewShares 22 rfl) rfl (Nat.le_of_ble_eq_true rfl) (by decide) (Nat.le_refl _) (Nat.le_refl _) rfl rfl ?_
      obtain ⟨x29, h30, H⟩ := obnd H
      have K31 : J G m_Room_renewShares 3 0 0 P 62 [(0, .ref (ad 9)), (1, .int x10), (2, .int x29), (3, .int x18)] [] (mkC ad G s11) 0 0 := by
        obtain ⟨x32, e33, H⟩ := olet H
        refine j_iinc (pc := 62) (lv' := [(0, .ref (ad 9)), (1, .int x10), (2, .int x29), (3, .int x32)]) 3 (jd k_Room_renewShares 36 rfl) rfl e33 rfl (Nat.le_of_ble_eq_true rfl) rfl ?_
        refine j_goto (pc := 65) (tgt := 23) (jd k_Room_renewShares 37 rfl) rfl ?_
        exact ih x29 x32 _ H kx
      have H := h30
      refine j_if_eq (pc := 39) (tgt := 62) (jd k_Room_renewShares 23 rfl) rfl (fun h24 => ?_) (fun h24 => ?_)
      · rw [if_pos h24] at H
        cases H
        exact K31
      · rw [if_neg h24] at H
        refine j_aload_n (pc := 42) 0 (jd k_Room_renewShares 24 rfl) rfl ?_
        refine j_get (pc := 43) (fs := flRm ad s11) (v := .ref (ad (2 + (fnum (s11 53 0 0))))) fl_Room_42_7 9 (jd k_Room_renewShares 25 rfl) rfl rfl ?_
        refine j_iload_n (pc := 46) 2 (jd k_Room_renewShares 26 rfl) rfl ?_
        refine j_aload_n (pc := 47) 0 (jd k_Room_renewShares 27 rfl) rfl ?_
        refine j_iconst (pc := 48) (v := 0) (jd k_Room_renewShares 28 rfl) (by decide) ?_
        refine j_iload_n (pc := 49) 3 (jd k_Room_renewShares 29 rfl) rfl ?_
        refine j_aload_n (pc := 50) 0 (jd k_Room_renewShares 30 rfl) rfl ?_
        refine j_get (pc := 51) (fs := flRm ad s11) (v := .int (s11 21 0 0)) fl_Room_59_7 9 (jd k_Room_renewShares 31 rfl) rfl rfl ?_
        refine j_iload_n (pc := 54) 1 (jd k_Room_renewShares 32 rfl) rfl ?_
        obtain ⟨x26, h25, H⟩ := obnd H
        refine jc_V (pc := 55) (st := [.int x17, .ref (ad (2 + (fnum (s11 53 0 0))))]) (c_Room_dealtFrom ad G 0 x18 (s11 21 0 0) x10 s11 _ h25) L0_Room_dealtFrom w1016 w1018 w31 9 rfl rfl (jd k_Room_renewShares 33 rfl) rfl (Nat.le_of_ble_eq_true rfl) (by decide) (Nat.le_refl _) (Nat.le_refl _) rfl rfl ?_
        obtain ⟨x28, h27, H⟩ := obnd H
        refine vF_plus (pc := 58) (st := []) (fnum (s11 53 0 0)) (fnum_lt _) x17 x26 s11 _ h27 w772 (jd k_Room_renewShares 34 rfl) (Nat.le_of_ble_eq_true rfl) (by decide) (Nat.le_refl _) (Nat.le_refl _) ?_
        refine j_istore_n (pc := 61) (lv' := [(0, .ref (ad 9)), (1, .int x10), (2, .int x28), (3, .int x18)]) (jd k_Room_renewShares 35 rfl) rfl (Nat.le_of_ble_eq_true rfl) rfl ?_
        cases H
        exact K31

set_option maxRecDepth 20000 in
theorem lp_Room_renewShares_2 {ad : Nat → Nat} {G : jG} {P : jR → va_W → Prop} : ∀ (n : Nat) (x10 : Int32) (s11 : jU) (r : Int32 × jU), L_Room_renewShares_2 n x10 s11 = some r → J G m_Room_renewShares 3 0 0 P 81 [(0, .ref (ad 9)), (1, .int r.1)] [] (mkC ad G r.2) 0 0 → J G m_Room_renewShares 3 0 0 P 2 [(0, .ref (ad 9)), (1, .int x10)] [] (mkC ad G s11) 0 0 := by
  intro n
  induction n with
  | zero =>
    intro x10 s11 r H
    cases (show none = some r from H)
  | succ n ih =>
    intro x10 s11 r H kx
    have H : (
    if (s11 20 0 0) < x10 then
      some (x10, s11)
    else
      Option.bind (jidx (x10 - 1) 7) fun k13 =>
      if jin 0 2 then
      jlet (s11 9 k13 (0 : Int32).toNatClampNeg) fun x16 =>
      Option.bind (L_Room_renewShares_23 x10 s11 jF x16 1) fun (x34, x35) =>
      if jin x10 8 then
      jlet (ups s11 28 0 (upd (s11 28 0) x10.toNatClampNeg x34)) fun s37 =>
      jlet (x10 + 1) fun x40 =>
      L_Room_renewShares_2 n x40 s37
      else none
      else none) = some r := H
    refine j_iload_n (pc := 2) 1 (jd k_Room_renewShares 2 rfl) rfl ?_
    refine j_aload_n (pc := 3) 0 (jd k_Room_renewShares 3 rfl) rfl ?_
    refine j_get (pc := 4) (fs := flRm ad s11) (v := .int (s11 20 0 0)) fl_Room_55_7 9 (jd k_Room_renewShares 4 rfl) rfl rfl ?_
    refine j_icmp_gt (pc := 7) (tgt := 81) (jd k_Room_renewShares 5 rfl) rfl (fun h12 => ?_) (fun h12 => ?_)
    · rw [if_pos h12] at H
      cases H
      exact kx
    · rw [if_neg h12] at H
      refine j_aload_n (pc := 10) 0 (jd k_Room_renewShares 6 rfl) rfl ?_
      refine j_iload_n (pc := 11) 1 (jd k_Room_renewShares 7 rfl) rfl ?_
      obtain ⟨k13, h14, H⟩ := obnd H
      have hk13 : k13 < 7 := jidx.lt h14
      refine jc_V (pc := 12) (st := []) (c_Room_party ad G x10 s11 k13 h14) L0_Room_party w401 w403 w1 9 rfl rfl (jd k_Room_renewShares 8 rfl) rfl (Nat.le_of_ble_eq_true rfl) (by decide) (Nat.le_refl _) (Nat.le_refl _) rfl rfl ?_
      refine j_get (pc := 15) (fs := flPy ad s11 k13) (v := .ref (ad (40 + 15 * k13))) fl_Room_141_4 (26 + 15 * k13) (jd k_Room_renewShares 9 rfl) (lkPy ad G s11 hk13) rfl ?_
      refine j_iconst (pc := 18) (v := 0) (jd k_Room_renewShares 10 rfl) (by decide) ?_
      obtain ⟨h15, H⟩ := ochk H
      refine j_iald (pc := 19) (f := s11 9 k13) (40 + 15 * k13) (jd k_Room_renewShares 11 rfl) (lkA_14 ad G s11 hk13) (jin.vp h15) ?_
      obtain ⟨x16, e42, H⟩ := olet H
      refine j_topi e42 ?_
      refine j_istore_n (pc := 20) (lv' := [(0, .ref (ad 9)), (1, .int x10), (2, .int x16)]) (jd k_Room_renewShares 12 rfl) rfl (Nat.le_of_ble_eq_true rfl) rfl ?_
      refine j_iconst (pc := 21) (v := 1) (jd k_Room_renewShares 13 rfl) (by decide) ?_
      refine j_istore_n (pc := 22) (lv' := [(0, .ref (ad 9)), (1, .int x10), (2, .int x16), (3, .int 1)]) (jd k_Room_renewShares 14 rfl) rfl (Nat.le_of_ble_eq_true rfl) rfl ?_
      obtain ⟨⟨x34, x35⟩, h36, H⟩ := obnd H
      try dsimp only at H
      refine lp_Room_renewShares_23 x10 s11 jF x16 1 _ h36 ?_
      refine j_pick (lv' := [(0, .ref (ad 9)), (1, .int x10), (2, .int x34)]) [0, 1, 2] rfl ?_
      refine j_aload_n (pc := 68) 0 (jd k_Room_renewShares 38 rfl) rfl ?_
      refine j_get (pc := 69) (fs := flRm ad s11) (v := .ref (ad 25)) fl_Room_24_7 9 (jd k_Room_renewShares 39 rfl) rfl rfl ?_
      refine j_iload_n (pc := 72) 1 (jd k_Room_renewShares 40 rfl) rfl ?_
      refine j_iload_n (pc := 73) 2 (jd k_Room_renewShares 41 rfl) rfl ?_
      obtain ⟨h39, H⟩ := ochk H
      obtain ⟨s37, e38, H⟩ := olet H
      refine j_iast (pc := 74) (f := s11 28 0) 25 (jd k_Room_renewShares 42 rfl) rfl (jin.vp h39) ((wrF_25 ad G s11 _).trans (congrArg (mkC ad G) e38)) ?_
      obtain ⟨x40, e41, H⟩ := olet H
      refine j_iinc (pc := 75) (lv' := [(0, .ref (ad 9)), (1, .int x40), (2, .int x34)]) 1 (jd k_Room_renewShares 43 rfl) rfl e41 rfl (Nat.le_of_ble_eq_true rfl) rfl ?_
      refine j_goto (pc := 78) (tgt := 2) (jd k_Room_renewShares 44 rfl) rfl ?_
      refine j_pick (lv' := [(0, .ref (ad 9)), (1, .int x40)]) [0, 1] rfl ?_
      exact ih x40 s37 _ H kx

set_option maxRecDepth 20000 in
theorem c_Room_renewShares (ad : Nat → Nat) (G : jG) (s : jU) (r : jU) (H : f_Room_renewShares s = some r) : jCon G m_Room_renewShares y_Room_renewShares 3 0 0 [.ref (ad 9)] (mkC ad G s) (jEq none (mkC ad G r)) := by
  refine jCon.of (by decide +kernel) rfl rfl rfl (Nat.le_of_ble_eq_true rfl) rfl ?_
  have H : (
  Option.bind (L_Room_renewShares_2 jF 1 s) fun (x43, s44) =>
  Option.bind (f_Room_takeNewShares s44) fun s47 =>
  some s47) = some r := H
  generalize hP9 : jEq none (mkC ad G r) = P
  refine j_iconst (pc := 0) (v := 1) (jd k_Room_renewShares 0 rfl) (by decide) ?_
  refine j_istore_n (pc := 1) (lv' := [(0, .ref (ad 9)), (1, .int 1)]) (jd k_Room_renewShares 1 rfl) rfl (Nat.le_of_ble_eq_true rfl) rfl ?_
  obtain ⟨⟨x43, s44⟩, h45, H⟩ := obnd H
  try dsimp only at H
  refine lp_Room_renewShares_2  jF 1 s _ h45 ?_
  refine j_pick (lv' := [(0, .ref (ad 9))]) [0] rfl ?_
  refine j_aload_n (pc := 81) 0 (jd k_Room_renewShares 45 rfl) rfl ?_
  obtain ⟨s47, h46, H⟩ := obnd H
  refine jc_V (pc := 82) (st := []) (c_Room_takeNewShares ad G s44 _ h46) L0_Room_takeNewShares w1020 w1022 w32 9 rfl rfl (jd k_Room_renewShares 46 rfl) rfl (Nat.le_of_ble_eq_true rfl) (by decide) (Nat.le_refl _) (Nat.le_refl _) rfl rfl ?_
  cases H
  subst hP9
  exact j_vret (pc := 85) (jd k_Room_renewShares 47 rfl) rfl ⟨rfl, rfl⟩

set_option maxRecDepth 20000 in
theorem c_SR_refresh (ad : Nat → Nat) (G : jG) (s : jU) (r : String ⊕ (jU)) (H : f_SR_refresh s = some r) : jCon G m_SR_refresh y_SR_refresh 5 1 6 [.ref (ad 0)] (mkC ad G s) (jRs (mkC ad G s) (fun _ => none) (fun a => mkC ad G a) r) := by
  refine jCon.of (by decide +kernel) rfl rfl rfl (Nat.le_of_ble_eq_true rfl) rfl ?_
  have H : (
  jtry (f_SR_needDone s) fun _ =>
  Option.bind (f_Room_renewShares s) fun s12 =>
  some (.inr s12)) = some r := H
  generalize hP9 : jRs (mkC ad G s) (fun _ => none) (fun a => mkC ad G a) r = P
  refine j_aload_n (pc := 0) 0 (jd k_SR_refresh 0 rfl) rfl ?_
  rcases otry H with ⟨E9, h10, H⟩ | ⟨a9, h10, H⟩
  · subst H
    subst hP9
    exact j_thrV (pc := 1) (st := []) (c_SR_needDone ad G s (.inl E9) h10) L0_SR_needDone (fun v w q => by cases q.1) w983 w985 w28 0 rfl rfl (jd k_SR_refresh 1 rfl) rfl (Nat.le_of_ble_eq_true rfl) (by decide) (by decide) (by decide) rfl rfl (fun E w q => q)
  · refine jt_V (pc := 1) (st := []) (c_SR_needDone ad G s (.inr a9) h10) L0_SR_needDone w983 w985 w28 0 rfl rfl (jd k_SR_refresh 1 rfl) rfl (Nat.le_of_ble_eq_true rfl) (by decide) (by decide) (by decide) rfl rfl rfl ?_
    refine j_aload_n (pc := 4) 0 (jd k_SR_refresh 2 rfl) rfl ?_
    refine j_get (pc := 5) (fs := [.ref (ad 1), .ref (ad 5), .ref (ad 9)]) (v := .ref (ad 9)) fl_SR_43_0 0 (jd k_SR_refresh 3 rfl) rfl rfl ?_
    obtain ⟨s12, h11, H⟩ := obnd H
    refine jc_V (pc := 8) (st := []) (c_Room_renewShares ad G s _ h11) L0_Room_renewShares w1012 w1013 w1014 9 rfl rfl (jd k_SR_refresh 4 rfl) rfl (Nat.le_of_ble_eq_true rfl) (by decide) (by decide) (by decide) rfl rfl ?_
    cases H
    subst hP9
    exact j_vret (pc := 11) (jd k_SR_refresh 5 rfl) rfl ⟨rfl, rfl⟩

set_option maxRecDepth 20000 in
theorem lp_Room_addDealt_3 {ad : Nat → Nat} {G : jG} {P : jR → va_W → Prop} (p0 : Int32) (p1 : Int32) (p2 : Int32) (p3 : Int32) : ∀ (n : Nat) (x10 : Int32) (s11 : jU) (r : Int32 × jU), L_Room_addDealt_3 p0 p1 p2 p3 n x10 s11 = some r → J G m_Room_addDealt 3 0 0 P 67 [(0, .ref (ad 9)), (1, .int p0), (2, .int p1), (3, .int p2), (4, .int p3), (5, .int r.1)] [] (mkC ad G r.2) 0 0 → J G m_Room_addDealt 3 0 0 P 3 [(0, .ref (ad 9)), (1, .int p0), (2, .int p1), (3, .int p2), (4, .int p3), (5, .int x10)] [] (mkC ad G s11) 0 0 := by
  intro n
  induction n with
  | zero =>
    intro x10 s11 r H
    cases (show none = some r from H)
  | succ n ih =>
    intro x10 s11 r H kx
    have H : (
    if p3 < x10 then
      some (x10, s11)
    else
      Option.bind (jidx (p0 - 1) 7) fun k13 =>
      if jin 0 2 then
      Option.bind (f_Room_dealtFrom (s11 9 k13 (0 : Int32).toNatClampNeg) p0 p2 x10 s11) fun x17 =>
      if jin x10 8 then
      Option.bind (F_times (fnum (s11 53 0 0)) p1 x17) fun x20 =>
      Option.bind (F_plus (fnum (s11 53 0 0)) (s11 28 0 x10.toNatClampNeg) x20) fun x22 =>
      if jin x10 8 then
      jlet (ups s11 28 0 (upd (s11 28 0) x10.toNatClampNeg x22)) fun s23 =>
      jlet (x10 + 1) fun x26 =>
      L_Room_addDealt_3 p0 p1 p2 p3 n x26 s23
      else none
      else none
      else none) = some r := H
    refine j_iload (pc := 3) 5 (jd k_Room_addDealt 2 rfl) rfl ?_
    refine j_iload (pc := 5) 4 (jd k_Room_addDealt 3 rfl) rfl ?_
    refine j_icmp_gt (pc := 7) (tgt := 67) (jd k_Room_addDealt 4 rfl) rfl (fun h12 => ?_) (fun h12 => ?_)
    · rw [if_pos h12] at H
      cases H
      exact kx
    · rw [if_neg h12] at H
      refine j_aload_n (pc := 10) 0 (jd k_Room_addDealt 5 rfl) rfl ?_
      refine j_aload_n (pc := 11) 0 (jd k_Room_addDealt 6 rfl) rfl ?_
      refine j_iload_n (pc := 12) 1 (jd k_Room_addDealt 7 rfl) rfl ?_
      obtain ⟨k13, h14, H⟩ := obnd H
      have hk13 : k13 < 7 := jidx.lt h14
      refine jc_V (pc := 13) (st := [.ref (ad 9)]) (c_Room_party ad G p0 s11 k13 h14) L0_Room_party w401 w403 w1 9 rfl rfl (jd k_Room_addDealt 8 rfl) rfl (Nat.le_of_ble_eq_true rfl) (by decide) (Nat.le_refl _) (Nat.le_refl _) rfl rfl ?_
      refine j_get (pc := 16) (fs := flPy ad s11 k13) (v := .ref (ad (40 + 15 * k13))) fl_Room_141_4 (26 + 15 * k13) (jd k_Room_addDealt 9 rfl) (lkPy ad G s11 hk13) rfl ?_
      refine j_iconst (pc := 19) (v := 0) (jd k_Room_addDealt 10 rfl) (by decide) ?_
      obtain ⟨h15, H⟩ := ochk H
      refine j_iald (pc := 20) (f := s11 9 k13) (40 + 15 * k13) (jd k_Room_addDealt 11 rfl) (lkA_14 ad G s11 hk13) (jin.vp h15) ?_
      refine j_iload_n (pc := 21) 1 (jd k_Room_addDealt 12 rfl) rfl ?_
      refine j_iload_n (pc := 22) 3 (jd k_Room_addDealt 13 rfl) rfl ?_
      refine j_iload (pc := 23) 5 (jd k_Room_addDealt 14 rfl) rfl ?_
      obtain ⟨x17, h16, H⟩ := obnd H
      refine jc_V (pc := 25) (st := []) (c_Room_dealtFrom ad G (s11 9 k13 (0 : Int32).toNatClampNeg) p0 p2 x10 s11 _ h16) L0_Room_dealtFrom w1016 w1018 w31 9 rfl rfl (jd k_Room_addDealt 15 rfl) rfl (Nat.le_of_ble_eq_true rfl) (by decide) (Nat.le_refl _) (Nat.le_refl _) rfl rfl ?_
      refine j_istore (pc := 28) (lv' := [(0, .ref (ad 9)), (1, .int p0), (2, .int p1), (3, .int p2), (4, .int p3), (5, .int x10), (6, .int x17)]) (jd k_Room_addDealt 16 rfl) rfl (Nat.le_of_ble_eq_true rfl) rfl ?_
      refine j_aload_n (pc := 30) 0 (jd k_Room_addDealt 17 rfl) rfl ?_
      refine j_get (pc := 31) (fs := flRm ad s11) (v := .ref (ad 25)) fl_Room_24_7 9 (jd k_Room_addDealt 18 rfl) rfl rfl ?_
      refine j_iload (pc := 34) 5 (jd k_Room_addDealt 19 rfl) rfl ?_
      refine j_aload_n (pc := 36) 0 (jd k_Room_addDealt 20 rfl) rfl ?_
      refine j_get (pc := 37) (fs := flRm ad s11) (v := .ref (ad (2 + (fnum (s11 53 0 0))))) fl_Room_42_7 9 (jd k_Room_addDealt 21 rfl) rfl rfl ?_
      refine j_aload_n (pc := 40) 0 (jd k_Room_addDealt 22 rfl) rfl ?_
      refine j_get (pc := 41) (fs := flRm ad s11) (v := .ref (ad 25)) fl_Room_24_7 9 (jd k_Room_addDealt 23 rfl) rfl rfl ?_
      refine j_iload (pc := 44) 5 (jd k_Room_addDealt 24 rfl) rfl ?_
      obtain ⟨h18, H⟩ := ochk H
      refine j_iald (pc := 46) (f := s11 28 0) 25 (jd k_Room_addDealt 25 rfl) rfl (jin.vp h18) ?_
      refine j_aload_n (pc := 47) 0 (jd k_Room_addDealt 26 rfl) rfl ?_
      refine j_get (pc := 48) (fs := flRm ad s11) (v := .ref (ad (2 + (fnum (s11 53 0 0))))) fl_Room_42_7 9 (jd k_Room_addDealt 27 rfl) rfl rfl ?_
      refine j_iload_n (pc := 51) 2 (jd k_Room_addDealt 28 rfl) rfl ?_
      refine j_iload (pc := 52) 6 (jd k_Room_addDealt 29 rfl) rfl ?_
      obtain ⟨x20, h19, H⟩ := obnd H
      refine vF_times (pc := 54) (st := [.int (s11 28 0 x10.toNatClampNeg), .ref (ad (2 + (fnum (s11 53 0 0)))), .int x10, .ref (ad 25)]) (fnum (s11 53 0 0)) (fnum_lt _) p1 x17 s11 _ h19 w1043 (jd k_Room_addDealt 30 rfl) (Nat.le_of_ble_eq_true rfl) (by decide) (Nat.le_refl _) (Nat.le_refl _) ?_
      obtain ⟨x22, h21, H⟩ := obnd H
      refine vF_plus (pc := 57) (st := [.int x10, .ref (ad 25)]) (fnum (s11 53 0 0)) (fnum_lt _) (s11 28 0 x10.toNatClampNeg) x20 s11 _ h21 w772 (jd k_Room_addDealt 31 rfl) (Nat.le_of_ble_eq_true rfl) (by decide) (Nat.le_refl _) (Nat.le_refl _) ?_
      obtain ⟨h25, H⟩ := ochk H
      obtain ⟨s23, e24, H⟩ := olet H
      refine j_iast (pc := 60) (f := s11 28 0) 25 (jd k_Room_addDealt 32 rfl) rfl (jin.vp h25) ((wrF_25 ad G s11 _).trans (congrArg (mkC ad G) e24)) ?_
      obtain ⟨x26, e27, H⟩ := olet H
      refine j_iinc (pc := 61) (lv' := [(0, .ref (ad 9)), (1, .int p0), (2, .int p1), (3, .int p2), (4, .int p3), (5, .int x26), (6, .int x17)]) 5 (jd k_Room_addDealt 33 rfl) rfl e27 rfl (Nat.le_of_ble_eq_true rfl) rfl ?_
      refine j_goto (pc := 64) (tgt := 3) (jd k_Room_addDealt 34 rfl) rfl ?_
      refine j_pick (lv' := [(0, .ref (ad 9)), (1, .int p0), (2, .int p1), (3, .int p2), (4, .int p3), (5, .int x26)]) [0, 1, 2, 3, 4, 5] rfl ?_
      exact ih x26 s23 _ H kx

set_option maxRecDepth 20000 in
theorem c_Room_addDealt (ad : Nat → Nat) (G : jG) (p0 : Int32) (p1 : Int32) (p2 : Int32) (p3 : Int32) (s : jU) (r : jU) (H : f_Room_addDealt p0 p1 p2 p3 s = some r) : jCon G m_Room_addDealt y_Room_addDealt 3 0 0 [.ref (ad 9), .int p0, .int p1, .int p2, .int p3] (mkC ad G s) (jEq none (mkC ad G r)) := by
  refine jCon.of (by decide +kernel) rfl rfl rfl (Nat.le_of_ble_eq_true rfl) rfl ?_
  have H : (
  Option.bind (L_Room_addDealt_3 p0 p1 p2 p3 jF 1 s) fun (x28, s29) =>
  some s29) = some r := H
  generalize hP9 : jEq none (mkC ad G r) = P
  refine j_iconst (pc := 0) (v := 1) (jd k_Room_addDealt 0 rfl) (by decide) ?_
  refine j_istore (pc := 1) (lv' := [(0, .ref (ad 9)), (1, .int p0), (2, .int p1), (3, .int p2), (4, .int p3), (5, .int 1)]) (jd k_Room_addDealt 1 rfl) rfl (Nat.le_of_ble_eq_true rfl) rfl ?_
  obtain ⟨⟨x28, s29⟩, h30, H⟩ := obnd H
  try dsimp only at H
  refine lp_Room_addDealt_3 p0 p1 p2 p3 jF 1 s _ h30 ?_
  refine j_pick (lv' := []) [] rfl ?_
  cases H
  subst hP9
  exact j_vret (pc := 67) (jd k_Room_addDealt 35 rfl) rfl ⟨rfl, rfl⟩

set_option maxRecDepth 20000 in
theorem lp_Room_handTo_19 {ad : Nat → Nat} {G : jG} {P : jR → va_W → Prop} (p0 : Int32) (p1 : Int32) (p2 : Int32) : ∀ (n : Nat) (x14 : Int32) (x15 : Int32) (s16 : jU) (r : Int32 × Int32 × jU), L_Room_handTo_19 p0 p1 p2 n x14 x15 s16 = some r → J G m_Room_handTo 4 0 0 P 69 [(0, .ref (ad 9)), (1, .int p0), (2, .int p1), (3, .int p2), (4, .int r.1), (5, .int r.2.1)] [] (mkC ad G r.2.2) 0 0 → J G m_Room_handTo 4 0 0 P 19 [(0, .ref (ad 9)), (1, .int p0), (2, .int p1), (3, .int p2), (4, .int x14), (5, .int x15)] [] (mkC ad G s16) 0 0 := by
  intro n
  induction n with
  | zero =>
    intro x14 x15 s16 r H
    cases (show none = some r from H)
  | succ n ih =>
    intro x14 x15 s16 r H kx
    have H : (
    if (s16 20 0 0) < x15 then
      some (x14, x15, s16)
    else
      Option.bind (f_SR_bit x15) fun x19 =>
      Option.bind (α := Int32 × jU) (
        if (p0 &&& x19) = 0 then
          some (x14, s16)
        else
          Option.bind (f_Points_weight 1 x14 0 s16) fun x22 =>
          jlet (x14 + 1) fun x23 =>
          Option.bind (f_Room_addDealt x15 x22 p1 p2 s16) fun s26 =>
          some (x23, s26)) fun (x27, s28) =>
      jlet (x15 + 1) fun x31 =>
      L_Room_handTo_19 p0 p1 p2 n x27 x31 s28) = some r := H
    refine j_iload (pc := 19) 5 (jd k_Room_handTo 11 rfl) rfl ?_
    refine j_aload_n (pc := 21) 0 (jd k_Room_handTo 12 rfl) rfl ?_
    refine j_get (pc := 22) (fs := flRm ad s16) (v := .int (s16 20 0 0)) fl_Room_55_7 9 (jd k_Room_handTo 13 rfl) rfl rfl ?_
    refine j_icmp_gt (pc := 25) (tgt := 69) (jd k_Room_handTo 14 rfl) rfl (fun h17 => ?_) (fun h17 => ?_)
    · rw [if_pos h17] at H
      cases H
      exact kx
    · rw [if_neg h17] at H
      refine j_iload_n (pc := 28) 1 (jd k_Room_handTo 15 rfl) rfl ?_
      refine j_iload (pc := 29) 5 (jd k_Room_handTo 16 rfl) rfl ?_
      obtain ⟨x19, h18, H⟩ := obnd H
      refine jc_SN (pc := 31) (st := [.int p0]) (c_SR_bit G _ x15 _ h18) L0_SR_bit wt413 w414 (jd k_Room_handTo 17 rfl) rfl (Nat.le_of_ble_eq_true rfl) (by decide) (Nat.le_refl _) (Nat.le_refl _) rfl rfl ?_
      refine j_iand (pc := 34) (jd k_Room_handTo 18 rfl) ?_
      obtain ⟨⟨x27, s28⟩, h29, H⟩ := obnd H
      try dsimp only at H
      have K30 : J G m_Room_handTo 4 0 0 P 63 [(0, .ref (ad 9)), (1, .int p0), (2, .int p1), (3, .int p2), (4, .int x27), (5, .int x15)] [] (mkC ad G s28) 0 0 := by
        obtain ⟨x31, e32, H⟩ := olet H
        refine j_iinc (pc := 63) (lv' := [(0, .ref (ad 9)), (1, .int p0), (2, .int p1), (3, .int p2), (4, .int x27), (5, .int x31)]) 5 (jd k_Room_handTo 33 rfl) rfl e32 rfl (Nat.le_of_ble_eq_true rfl) rfl ?_
        refine j_goto (pc := 66) (tgt := 19) (jd k_Room_handTo 34 rfl) rfl ?_
        exact ih x27 x31 s28 _ H kx
      have H := h29
      refine j_if_eq (pc := 35) (tgt := 63) (jd k_Room_handTo 19 rfl) rfl (fun h20 => ?_) (fun h20 => ?_)
      · rw [if_pos h20] at H
        cases H
        exact K30
      · rw [if_neg h20] at H
        refine j_aload_n (pc := 38) 0 (jd k_Room_handTo 20 rfl) rfl ?_
        refine j_get (pc := 39) (fs := flRm ad s16) (v := .ref (ad (5 + 16 * 1))) fl_Room_50_7 9 (jd k_Room_handTo 21 rfl) rfl rfl ?_
        refine j_iload (pc := 42) 4 (jd k_Room_handTo 22 rfl) rfl ?_
        refine j_iconst (pc := 44) (v := 0) (jd k_Room_handTo 23 rfl) (by decide) ?_
        obtain ⟨x22, h21, H⟩ := obnd H
        refine jc_V (pc := 45) (st := []) (c_Points_weight ad G 1 (by decide) x14 0 s16 _ h21) L0_Points_weight w1038 w580 w581 (5 + 16 * 1) (lkPt ad G s16 (by decide)) rfl (jd k_Room_handTo 24 rfl) rfl (Nat.le_of_ble_eq_true rfl) (by decide) (Nat.le_refl _) (Nat.le_refl _) rfl rfl ?_
        refine j_istore (pc := 48) (lv' := [(0, .ref (ad 9)), (1, .int p0), (2, .int p1), (3, .int p2), (4, .int x14), (5, .int x15), (6, .int x22)]) (jd k_Room_handTo 25 rfl) rfl (Nat.le_of_ble_eq_true rfl) rfl ?_
        obtain ⟨x23, e24, H⟩ := olet H
        refine j_iinc (pc := 50) (lv' := [(0, .ref (ad 9)), (1, .int p0), (2, .int p1), (3, .int p2), (4, .int x23), (5, .int x15), (6, .int x22)]) 4 (jd k_Room_handTo 26 rfl) rfl e24 rfl (Nat.le_of_ble_eq_true rfl) rfl ?_
        refine j_aload_n (pc := 53) 0 (jd k_Room_handTo 27 rfl) rfl ?_
        refine j_iload (pc := 54) 5 (jd k_Room_handTo 28 rfl) rfl ?_
        refine j_iload (pc := 56) 6 (jd k_Room_handTo 29 rfl) rfl ?_
        refine j_iload_n (pc := 58) 2 (jd k_Room_handTo 30 rfl) rfl ?_
        refine j_iload_n (pc := 59) 3 (jd k_Room_handTo 31 rfl) rfl ?_
        obtain ⟨s26, h25, H⟩ := obnd H
        refine jc_V (pc := 60) (st := []) (c_Room_addDealt ad G x15 x22 p1 p2 s16 _ h25) L0_Room_addDealt w1039 w1041 w33 9 rfl rfl (jd k_Room_handTo 32 rfl) rfl (Nat.le_of_ble_eq_true rfl) (by decide) (Nat.le_refl _) (Nat.le_refl _) rfl rfl ?_
        cases H
        exact j_pick [0, 1, 2, 3, 4, 5] rfl K30

set_option maxRecDepth 20000 in
theorem c_Room_handTo (ad : Nat → Nat) (G : jG) (p0 : Int32) (p1 : Int32) (p2 : Int32) (s : jU) (r : jU) (H : f_Room_handTo p0 p1 p2 s = some r) : jCon G m_Room_handTo y_Room_handTo 4 0 0 [.ref (ad 9), .int p0, .int p1, .int p2] (mkC ad G s) (jEq none (mkC ad G r)) := by
  refine jCon.of (by decide +kernel) rfl rfl rfl (Nat.le_of_ble_eq_true rfl) rfl ?_
  have H : (
  Option.bind (f_Room_collectShares p0 s) fun s11 =>
  jlet (ups s11 28 0 (afl 8 0 (s11 28 0))) fun s12 =>
  Option.bind (L_Room_handTo_19 p0 p1 p2 jF 0 1 s12) fun (x33, x34, s35) =>
  jlet (ups s35 20 0 (fun _ => p2)) fun s37 =>
  jlet (ups s37 21 0 (fun _ => p1)) fun s39 =>
  Option.bind (f_Room_takeNewShares s39) fun s42 =>
  some s42) = some r := H
  generalize hP9 : jEq none (mkC ad G r) = P
  refine j_aload_n (pc := 0) 0 (jd k_Room_handTo 0 rfl) rfl ?_
  refine j_iload_n (pc := 1) 1 (jd k_Room_handTo 1 rfl) rfl ?_
  obtain ⟨s11, h10, H⟩ := obnd H
  refine jc_V (pc := 2) (st := []) (c_Room_collectShares ad G p0 s _ h10) L0_Room_collectShares w1001 w1003 w30 9 rfl rfl (jd k_Room_handTo 2 rfl) rfl (Nat.le_of_ble_eq_true rfl) (by decide) (Nat.le_refl _) (Nat.le_refl _) rfl rfl ?_
  refine j_aload_n (pc := 5) 0 (jd k_Room_handTo 3 rfl) rfl ?_
  refine j_get (pc := 6) (fs := flRm ad s11) (v := .ref (ad 25)) fl_Room_24_7 9 (jd k_Room_handTo 4 rfl) rfl rfl ?_
  refine j_iconst (pc := 9) (v := 0) (jd k_Room_handTo 5 rfl) (by decide) ?_
  obtain ⟨s12, e13, H⟩ := olet H
  refine jc_S (pc := 10) (st := []) (w := mkC ad G s12) (r := none) (by rw [← e13, ← (wrF_25 ad G s11 _)]; exact c_Arrays_fill G (mkC ad G s11) 25 _ 8 (s11 28 0) 0 (by decide) rfl) L0_Arrays_fill w1037 w624 (jd k_Room_handTo 6 rfl) rfl (Nat.le_of_ble_eq_true rfl) (by decide) (Nat.le_refl _) (Nat.le_refl _) rfl rfl ?_
  refine j_iconst (pc := 13) (v := 0) (jd k_Room_handTo 7 rfl) (by decide) ?_
  refine j_istore (pc := 14) (lv' := [(0, .ref (ad 9)), (1, .int p0), (2, .int p1), (3, .int p2), (4, .int 0)]) (jd k_Room_handTo 8 rfl) rfl (Nat.le_of_ble_eq_true rfl) rfl ?_
  refine j_iconst (pc := 16) (v := 1) (jd k_Room_handTo 9 rfl) (by decide) ?_
  refine j_istore (pc := 17) (lv' := [(0, .ref (ad 9)), (1, .int p0), (2, .int p1), (3, .int p2), (4, .int 0), (5, .int 1)]) (jd k_Room_handTo 10 rfl) rfl (Nat.le_of_ble_eq_true rfl) rfl ?_
  obtain ⟨⟨x33, x34, s35⟩, h36, H⟩ := obnd H
  try dsimp only at H
  refine lp_Room_handTo_19 p0 p1 p2 jF 0 1 s12 _ h36 ?_
  refine j_pick (lv' := [(0, .ref (ad 9)), (2, .int p1), (3, .int p2)]) [0, 2, 3] rfl ?_
  refine j_aload_n (pc := 69) 0 (jd k_Room_handTo 35 rfl) rfl ?_
  refine j_iload_n (pc := 70) 2 (jd k_Room_handTo 36 rfl) rfl ?_
  obtain ⟨s37, e38, H⟩ := olet H
  refine j_put (pc := 71) (fs := flRm ad s35) (fp_Room_55_7 _) 9 (jd k_Room_handTo 37 rfl) rfl rfl rfl (Nat.le_of_ble_eq_true rfl) ((wrRm_7 ad G s35 _).trans (congrArg (mkC ad G) e38)) ?_
  refine j_aload_n (pc := 74) 0 (jd k_Room_handTo 38 rfl) rfl ?_
  refine j_iload_n (pc := 75) 1 (jd k_Room_handTo 39 rfl) rfl ?_
  obtain ⟨s39, e40, H⟩ := olet H
  refine j_put (pc := 76) (fs := flRm ad s37) (fp_Room_59_7 _) 9 (jd k_Room_handTo 40 rfl) rfl rfl rfl (Nat.le_of_ble_eq_true rfl) ((wrRm_8 ad G s37 _).trans (congrArg (mkC ad G) e40)) ?_
  refine j_aload_n (pc := 79) 0 (jd k_Room_handTo 41 rfl) rfl ?_
  obtain ⟨s42, h41, H⟩ := obnd H
  refine jc_V (pc := 80) (st := []) (c_Room_takeNewShares ad G s39 _ h41) L0_Room_takeNewShares w1020 w1022 w32 9 rfl rfl (jd k_Room_handTo 42 rfl) rfl (Nat.le_of_ble_eq_true rfl) (by decide) (Nat.le_refl _) (Nat.le_refl _) rfl rfl ?_
  cases H
  subst hP9
  exact j_vret (pc := 83) (jd k_Room_handTo 43 rfl) rfl ⟨rfl, rfl⟩

set_option maxRecDepth 20000 in
theorem c_SR_handOn (ad : Nat → Nat) (G : jG) (p0 : Int32) (p1 : Int32) (p2 : Int32) (s : jU) (r : String ⊕ (jU)) (H : f_SR_handOn p0 p1 p2 s = some r) : jCon G m_SR_handOn y_SR_handOn 5 3 18 [.ref (ad 0), .int p0, .int p1, .int p2] (mkC ad G s) (jRs (mkC ad G s) (fun _ => none) (fun a => mkC ad G a) r) := by
  refine jCon.of (by decide +kernel) rfl rfl rfl (Nat.le_of_ble_eq_true rfl) rfl ?_
  have H : (
  jtry (f_SR_needDone s) fun _ =>
  jtry (f_SR_needEnough p0 s) fun _ =>
  Option.bind (f_Room_isCommittee p2 p1) fun x13 =>
  if ¬ x13 = 0 then
    Option.bind (f_Room_handTo p0 p1 p2 s) fun s16 =>
    some (.inr s16)
  else
    some (.inl "java/lang/IllegalArgumentException")) = some r := H
  generalize hP9 : jRs (mkC ad G s) (fun _ => none) (fun a => mkC ad G a) r = P
  refine j_aload_n (pc := 0) 0 (jd k_SR_handOn 0 rfl) rfl ?_
  rcases otry H with ⟨E9, h10, H⟩ | ⟨a9, h10, H⟩
  · subst H
    subst hP9
    exact j_thrV (pc := 1) (st := []) (c_SR_needDone ad G s (.inl E9) h10) L0_SR_needDone (fun v w q => by cases q.1) w983 w985 w28 0 rfl rfl (jd k_SR_handOn 1 rfl) rfl (Nat.le_of_ble_eq_true rfl) (by decide) (by decide) (by decide) rfl rfl (fun E w q => q)
  · refine jt_V (pc := 1) (st := []) (c_SR_needDone ad G s (.inr a9) h10) L0_SR_needDone w983 w985 w28 0 rfl rfl (jd k_SR_handOn 1 rfl) rfl (Nat.le_of_ble_eq_true rfl) (by decide) (by decide) (by decide) rfl rfl rfl ?_
    refine j_aload_n (pc := 4) 0 (jd k_SR_handOn 2 rfl) rfl ?_
    refine j_iload_n (pc := 5) 1 (jd k_SR_handOn 3 rfl) rfl ?_
    rcases otry H with ⟨E9, h11, H⟩ | ⟨a9, h11, H⟩
    · subst H
      subst hP9
      exact j_thrV (pc := 6) (st := []) (c_SR_needEnough ad G p0 s (.inl E9) h11) L0_SR_needEnough (fun v w q => by cases q.1) w988 w990 w29 0 rfl rfl (jd k_SR_handOn 4 rfl) rfl (Nat.le_of_ble_eq_true rfl) (by decide) (by decide) (by decide) rfl rfl (fun E w q => q)
    · refine jt_V (pc := 6) (st := []) (c_SR_needEnough ad G p0 s (.inr a9) h11) L0_SR_needEnough w988 w990 w29 0 rfl rfl (jd k_SR_handOn 4 rfl) rfl (Nat.le_of_ble_eq_true rfl) (by decide) (by decide) (by decide) rfl rfl rfl ?_
      refine j_iload_n (pc := 9) 3 (jd k_SR_handOn 5 rfl) rfl ?_
      refine j_iload_n (pc := 10) 2 (jd k_SR_handOn 6 rfl) rfl ?_
      obtain ⟨x13, h12, H⟩ := obnd H
      refine jc_S (pc := 11) (st := []) (c_Room_isCommittee G _ p2 p1 _ h12) L0_Room_isCommittee w603 w604 (jd k_SR_handOn 7 rfl) rfl (Nat.le_of_ble_eq_true rfl) (by decide) (by decide) (by decide) rfl rfl ?_
      refine j_if_ne (pc := 14) (tgt := 27) (jd k_SR_handOn 8 rfl) rfl (fun h14 => ?_) (fun h14 => ?_)
      · rw [if_pos h14] at H
        refine j_aload_n (pc := 27) 0 (jd k_SR_handOn 14 rfl) rfl ?_
        refine j_get (pc := 28) (fs := [.ref (ad 1), .ref (ad 5), .ref (ad 9)]) (v := .ref (ad 9)) fl_SR_43_0 0 (jd k_SR_handOn 15 rfl) rfl rfl ?_
        refine j_iload_n (pc := 31) 1 (jd k_SR_handOn 16 rfl) rfl ?_
        refine j_iload_n (pc := 32) 2 (jd k_SR_handOn 17 rfl) rfl ?_
        refine j_iload_n (pc := 33) 3 (jd k_SR_handOn 18 rfl) rfl ?_
        obtain ⟨s16, h15, H⟩ := obnd H
        refine jc_V (pc := 34) (st := []) (c_Room_handTo ad G p0 p1 p2 s _ h15) L0_Room_handTo w1033 w1034 w1035 9 rfl rfl (jd k_SR_handOn 19 rfl) rfl (Nat.le_of_ble_eq_true rfl) (by decide) (by decide) (by decide) rfl rfl ?_
        cases H
        subst hP9
        refine j_widen (k' := 3) (n' := 18) (by decide) (by decide) ?_
        exact j_vret (pc := 37) (jd k_SR_handOn 20 rfl) rfl ⟨rfl, rfl⟩
      · rw [if_neg (not_not_intro h14)] at H
        cases H
        subst hP9
        exact j_throw (pc := 17) fit_IllegalArgumentException ex_SR_51 wt444 wt445 wt79 wt1032 (jd k_SR_handOn 9 rfl) (jd k_SR_handOn 10 rfl) (jd k_SR_handOn 11 rfl) (jd k_SR_handOn 12 rfl) (jd k_SR_handOn 13 rfl) rfl (by decide) (Nat.le_of_ble_eq_true rfl) (by decide) (by decide) ⟨rfl, rfl⟩

