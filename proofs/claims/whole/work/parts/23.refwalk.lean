set_option maxRecDepth 20000 in
theorem lp_Mod_added_65 {G : jG} {P : jR → va_W → Prop} (ws : va_W) (x1 : Int32) (x2 : Int32) (x5 : Int32) (x10 : Int32) : ∀ (n : Nat) (x13 : Int32) (r : Int32), L_Mod_added_65 x5 x10 n x13 = some r → J G m_Mod_added 0 0 0 P 86 [(1, .int x1), (2, .int x2), (3, .int x5), (4, .int x10), (5, .int r)] [] ws 0 0 → J G m_Mod_added 0 0 0 P 65 [(1, .int x1), (2, .int x2), (3, .int x5), (4, .int x10), (5, .int x13)] [] ws 0 0 := by
  intro n
  induction n with
  | zero =>
    intro x13 r H
    cases (show none = some r from H)
  | succ n ih =>
    intro x13 r H kx
    have H : (
    if (jrem (x13 * x10) 43) = (jrem x5 43) then
      some x13
    else
      jlet (x13 + 1) fun x15 =>
      L_Mod_added_65 x5 x10 n x15) = some r := H
    refine j_iload (pc := 65) 4 (jd k_Mod_added 44 rfl) rfl ?_
    refine j_iload (pc := 67) 3 (jd k_Mod_added 45 rfl) rfl ?_
    refine j_imul (pc := 69) (jd k_Mod_added 46 rfl) ?_
    refine j_bipush (pc := 70) (v := 43) (jd k_Mod_added 47 rfl) (by decide) ?_
    refine j_irem (pc := 72) (jd k_Mod_added 48 rfl) (by decide) ?_
    refine j_iload_n (pc := 73) 2 (jd k_Mod_added 49 rfl) rfl ?_
    refine j_bipush (pc := 74) (v := 43) (jd k_Mod_added 50 rfl) (by decide) ?_
    refine j_irem (pc := 76) (jd k_Mod_added 51 rfl) (by decide) ?_
    refine j_icmp_eq (pc := 77) (tgt := 86) (jd k_Mod_added 52 rfl) rfl (fun h14 => ?_) (fun h14 => ?_)
    · rw [if_pos h14] at H
      cases H
      exact kx
    · rw [if_neg h14] at H
      obtain ⟨x15, e16, H⟩ := olet H
      refine j_iinc (pc := 80) (lv' := [(1, .int x1), (2, .int x2), (3, .int x5), (4, .int x10), (5, .int x15)]) 4 (jd k_Mod_added 53 rfl) rfl e16 rfl (Nat.le_of_ble_eq_true rfl) rfl ?_
      refine j_goto (pc := 83) (tgt := 65) (jd k_Mod_added 54 rfl) rfl ?_
      exact ih x15 _ H kx

set_option maxRecDepth 20000 in
theorem c_Mod_added (G : jG) (ws : va_W) (p0 : Int32) (r : Int32) (H : f_Mod_added p0 = some r) : jCon G m_Mod_added y_Mod_added 0 0 0 [.int p0] ws (jEq (some (.int r)) ws) := by
  refine jCon.of (by decide +kernel) rfl rfl rfl (Nat.le_of_ble_eq_true rfl) rfl ?_
  have H : (
  jlet (p0 / 64) fun x1 =>
  jlet (jrem p0 64) fun x2 =>
  Option.bind (α := Int32) (
    if ¬ x1 = 2 then
      some ((x2 - 12) + 43)
    else
      if ¬ x2 = 12 then
        some ((x2 - 12) + 43)
      else
        some ((3 * x1) * x1)) fun x5 =>
  Option.bind (α := Int32) (
    if ¬ x1 = 2 then
      some ((x1 - 2) + 43)
    else
      if ¬ x2 = 12 then
        some ((x1 - 2) + 43)
      else
        some (2 * x2)) fun x10 =>
  Option.bind (L_Mod_added_65 x5 x10 jF 0) fun x17 =>
  jlet (jrem ((((x17 * x17) - x1) - 2) + 86) 43) fun x19 =>
  jlet (jrem (((x17 * ((x1 - x19) + 43)) - x2) + 43) 43) fun x20 =>
  some ((64 * x19) + x20)) = some r := H
  generalize hP9 : jEq (some (.int r)) ws = P
  refine j_iload_n (pc := 0) 0 (jd k_Mod_added 0 rfl) rfl ?_
  refine j_bipush (pc := 1) (v := 64) (jd k_Mod_added 1 rfl) (by decide) ?_
  refine j_idiv (pc := 3) (jd k_Mod_added 2 rfl) (by decide) ?_
  obtain ⟨x1, e24, H⟩ := olet H
  refine j_topi e24 ?_
  refine j_istore_n (pc := 4) (lv' := [(0, .int p0), (1, .int x1)]) (jd k_Mod_added 3 rfl) rfl (Nat.le_of_ble_eq_true rfl) rfl ?_
  refine j_iload_n (pc := 5) 0 (jd k_Mod_added 4 rfl) rfl ?_
  refine j_bipush (pc := 6) (v := 64) (jd k_Mod_added 5 rfl) (by decide) ?_
  refine j_irem (pc := 8) (jd k_Mod_added 6 rfl) (by decide) ?_
  obtain ⟨x2, e23, H⟩ := olet H
  refine j_topi e23 ?_
  refine j_istore_n (pc := 9) (lv' := [(0, .int p0), (1, .int x1), (2, .int x2)]) (jd k_Mod_added 7 rfl) rfl (Nat.le_of_ble_eq_true rfl) rfl ?_
  refine j_iload_n (pc := 10) 1 (jd k_Mod_added 8 rfl) rfl ?_
  refine j_iconst (pc := 11) (v := 2) (jd k_Mod_added 9 rfl) (by decide) ?_
  obtain ⟨x5, h6, H⟩ := obnd H
  have K7 : J G m_Mod_added 0 0 0 P 36 [(1, .int x1), (2, .int x2)] [.int x5] ws 0 0 := by
    refine j_istore_n (pc := 36) (lv' := [(1, .int x1), (2, .int x2), (3, .int x5)]) (jd k_Mod_added 25 rfl) rfl (Nat.le_of_ble_eq_true rfl) rfl ?_
    refine j_iload_n (pc := 37) 0 (jd k_Mod_added 26 rfl) rfl ?_
    refine j_iconst (pc := 38) (v := 2) (jd k_Mod_added 27 rfl) (by decide) ?_
    obtain ⟨x10, h11, H⟩ := obnd H
    have K12 : J G m_Mod_added 0 0 0 P 60 [(1, .int x1), (2, .int x2), (3, .int x5)] [.int x10] ws 0 0 := by
      refine j_istore (pc := 60) (lv' := [(1, .int x1), (2, .int x2), (3, .int x5), (4, .int x10)]) (jd k_Mod_added 41 rfl) rfl (Nat.le_of_ble_eq_true rfl) rfl ?_
      refine j_iconst (pc := 62) (v := 0) (jd k_Mod_added 42 rfl) (by decide) ?_
      refine j_istore (pc := 63) (lv' := [(1, .int x1), (2, .int x2), (3, .int x5), (4, .int x10), (5, .int 0)]) (jd k_Mod_added 43 rfl) rfl (Nat.le_of_ble_eq_true rfl) rfl ?_
      obtain ⟨x17, h18, H⟩ := obnd H
      refine lp_Mod_added_65 ws x1 x2 x5 x10 jF 0 _ h18 ?_
      refine j_pick (lv' := [(1, .int x1), (2, .int x2), (5, .int x17)]) [0, 1, 4] rfl ?_
      refine j_iload (pc := 86) 2 (jd k_Mod_added 55 rfl) rfl ?_
      refine j_iload (pc := 88) 2 (jd k_Mod_added 56 rfl) rfl ?_
      refine j_imul (pc := 90) (jd k_Mod_added 57 rfl) ?_
      refine j_iload_n (pc := 91) 0 (jd k_Mod_added 58 rfl) rfl ?_
      refine j_isub (pc := 92) (jd k_Mod_added 59 rfl) ?_
      refine j_iconst (pc := 93) (v := 2) (jd k_Mod_added 60 rfl) (by decide) ?_
      refine j_isub (pc := 94) (jd k_Mod_added 61 rfl) ?_
      refine j_bipush (pc := 95) (v := 86) (jd k_Mod_added 62 rfl) (by decide) ?_
      refine j_iadd (pc := 97) (jd k_Mod_added 63 rfl) ?_
      refine j_bipush (pc := 98) (v := 43) (jd k_Mod_added 64 rfl) (by decide) ?_
      refine j_irem (pc := 100) (jd k_Mod_added 65 rfl) (by decide) ?_
      obtain ⟨x19, e22, H⟩ := olet H
      refine j_topi e22 ?_
      refine j_istore (pc := 101) (lv' := [(1, .int x1), (2, .int x2), (5, .int x17), (6, .int x19)]) (jd k_Mod_added 66 rfl) rfl (Nat.le_of_ble_eq_true rfl) rfl ?_
      refine j_iload (pc := 103) 2 (jd k_Mod_added 67 rfl) rfl ?_
      refine j_iload_n (pc := 105) 0 (jd k_Mod_added 68 rfl) rfl ?_
      refine j_iload (pc := 106) 3 (jd k_Mod_added 69 rfl) rfl ?_
      refine j_isub (pc := 108) (jd k_Mod_added 70 rfl) ?_
      refine j_bipush (pc := 109) (v := 43) (jd k_Mod_added 71 rfl) (by decide) ?_
      refine j_iadd (pc := 111) (jd k_Mod_added 72 rfl) ?_
      refine j_imul (pc := 112) (jd k_Mod_added 73 rfl) ?_
      refine j_iload_n (pc := 113) 1 (jd k_Mod_added 74 rfl) rfl ?_
      refine j_isub (pc := 114) (jd k_Mod_added 75 rfl) ?_
      refine j_bipush (pc := 115) (v := 43) (jd k_Mod_added 76 rfl) (by decide) ?_
      refine j_iadd (pc := 117) (jd k_Mod_added 77 rfl) ?_
      refine j_bipush (pc := 118) (v := 43) (jd k_Mod_added 78 rfl) (by decide) ?_
      refine j_irem (pc := 120) (jd k_Mod_added 79 rfl) (by decide) ?_
      obtain ⟨x20, e21, H⟩ := olet H
      refine j_topi e21 ?_
      refine j_istore (pc := 121) (lv' := [(1, .int x1), (2, .int x2), (5, .int x17), (6, .int x19), (7, .int x20)]) (jd k_Mod_added 80 rfl) rfl (Nat.le_of_ble_eq_true rfl) rfl ?_
      refine j_bipush (pc := 123) (v := 64) (jd k_Mod_added 81 rfl) (by decide) ?_
      refine j_iload (pc := 125) 3 (jd k_Mod_added 82 rfl) rfl ?_
      refine j_imul (pc := 127) (jd k_Mod_added 83 rfl) ?_
      refine j_iload (pc := 128) 4 (jd k_Mod_added 84 rfl) rfl ?_
      refine j_iadd (pc := 130) (jd k_Mod_added 85 rfl) ?_
      cases H
      subst hP9
      exact j_iret (pc := 131) (jd k_Mod_added 86 rfl) rfl rfl ⟨rfl, rfl⟩
    have H := h11
    refine j_icmp_ne (pc := 39) (tgt := 54) (jd k_Mod_added 28 rfl) rfl (fun h8 => ?_) (fun h8 => ?_)
    · rw [if_pos h8] at H
      refine j_iload_n (pc := 54) 0 (jd k_Mod_added 36 rfl) rfl ?_
      refine j_iconst (pc := 55) (v := 2) (jd k_Mod_added 37 rfl) (by decide) ?_
      refine j_isub (pc := 56) (jd k_Mod_added 38 rfl) ?_
      refine j_bipush (pc := 57) (v := 43) (jd k_Mod_added 39 rfl) (by decide) ?_
      refine j_iadd (pc := 59) (jd k_Mod_added 40 rfl) ?_
      cases H
      exact K12
    · rw [if_neg (not_not_intro h8)] at H
      refine j_iload_n (pc := 42) 1 (jd k_Mod_added 29 rfl) rfl ?_
      refine j_bipush (pc := 43) (v := 12) (jd k_Mod_added 30 rfl) (by decide) ?_
      refine j_icmp_ne (pc := 45) (tgt := 54) (jd k_Mod_added 31 rfl) rfl (fun h9 => ?_) (fun h9 => ?_)
      · rw [if_pos h9] at H
        refine j_iload_n (pc := 54) 0 (jd k_Mod_added 36 rfl) rfl ?_
        refine j_iconst (pc := 55) (v := 2) (jd k_Mod_added 37 rfl) (by decide) ?_
        refine j_isub (pc := 56) (jd k_Mod_added 38 rfl) ?_
        refine j_bipush (pc := 57) (v := 43) (jd k_Mod_added 39 rfl) (by decide) ?_
        refine j_iadd (pc := 59) (jd k_Mod_added 40 rfl) ?_
        cases H
        exact K12
      · rw [if_neg (not_not_intro h9)] at H
        refine j_iconst (pc := 48) (v := 2) (jd k_Mod_added 32 rfl) (by decide) ?_
        refine j_iload_n (pc := 49) 1 (jd k_Mod_added 33 rfl) rfl ?_
        refine j_imul (pc := 50) (jd k_Mod_added 34 rfl) ?_
        refine j_goto (pc := 51) (tgt := 60) (jd k_Mod_added 35 rfl) rfl ?_
        cases H
        exact K12
  have H := h6
  refine j_icmp_ne (pc := 12) (tgt := 29) (jd k_Mod_added 10 rfl) rfl (fun h3 => ?_) (fun h3 => ?_)
  · rw [if_pos h3] at H
    refine j_iload_n (pc := 29) 2 (jd k_Mod_added 20 rfl) rfl ?_
    refine j_bipush (pc := 30) (v := 12) (jd k_Mod_added 21 rfl) (by decide) ?_
    refine j_isub (pc := 32) (jd k_Mod_added 22 rfl) ?_
    refine j_bipush (pc := 33) (v := 43) (jd k_Mod_added 23 rfl) (by decide) ?_
    refine j_iadd (pc := 35) (jd k_Mod_added 24 rfl) ?_
    cases H
    exact j_pick [1, 2] rfl K7
  · rw [if_neg (not_not_intro h3)] at H
    refine j_iload_n (pc := 15) 2 (jd k_Mod_added 11 rfl) rfl ?_
    refine j_bipush (pc := 16) (v := 12) (jd k_Mod_added 12 rfl) (by decide) ?_
    refine j_icmp_ne (pc := 18) (tgt := 29) (jd k_Mod_added 13 rfl) rfl (fun h4 => ?_) (fun h4 => ?_)
    · rw [if_pos h4] at H
      refine j_iload_n (pc := 29) 2 (jd k_Mod_added 20 rfl) rfl ?_
      refine j_bipush (pc := 30) (v := 12) (jd k_Mod_added 21 rfl) (by decide) ?_
      refine j_isub (pc := 32) (jd k_Mod_added 22 rfl) ?_
      refine j_bipush (pc := 33) (v := 43) (jd k_Mod_added 23 rfl) (by decide) ?_
      refine j_iadd (pc := 35) (jd k_Mod_added 24 rfl) ?_
      cases H
      exact j_pick [1, 2] rfl K7
    · rw [if_neg (not_not_intro h4)] at H
      refine j_iconst (pc := 21) (v := 3) (jd k_Mod_added 14 rfl) (by decide) ?_
      refine j_iload_n (pc := 22) 1 (jd k_Mod_added 15 rfl) rfl ?_
      refine j_imul (pc := 23) (jd k_Mod_added 16 rfl) ?_
      refine j_iload_n (pc := 24) 1 (jd k_Mod_added 17 rfl) rfl ?_
      refine j_imul (pc := 25) (jd k_Mod_added 18 rfl) ?_
      refine j_goto (pc := 26) (tgt := 36) (jd k_Mod_added 19 rfl) rfl ?_
      cases H
      exact j_pick [1, 2] rfl K7

set_option maxRecDepth 20000 in
theorem c_Mod_thrown (ad : Nat → Nat) (G : jG) (s : jS) (r : Int32) (H : f_Mod_thrown s = some r) : jCon G m_Mod_thrown y_Mod_thrown 0 0 0 [.ref (ad 0)] (mkR ad G s) (jEq (some (.int r)) (mkR ad G s)) := by
  refine jCon.of (by decide +kernel) rfl rfl rfl (Nat.le_of_ble_eq_true rfl) rfl ?_
  have H : (
  some (s 0 0)) = some r := H
  generalize hP9 : jEq (some (.int r)) (mkR ad G s) = P
  refine j_aload_n (pc := 0) 0 (jd k_Mod_thrown 0 rfl) rfl ?_
  refine j_get (pc := 1) (fs := flR ad s) (v := .int (s 0 0)) fl_Mod_170_10 0 (jd k_Mod_thrown 1 rfl) rfl rfl ?_
  cases H
  subst hP9
  exact j_iret (pc := 4) (jd k_Mod_thrown 2 rfl) rfl rfl ⟨rfl, rfl⟩

set_option maxRecDepth 20000 in
theorem c_Mod_field (ad : Nat → Nat) (G : jG) (p0 : Int32) (s : jS) (r : jS) (H : f_Mod_field p0 s = some r) : jCon G m_Mod_field y_Mod_field 0 0 0 [.ref (ad 0), .int p0] (mkR ad G s) (jEq none (mkR ad G r)) := by
  refine jCon.of (by decide +kernel) rfl rfl rfl (Nat.le_of_ble_eq_true rfl) rfl ?_
  have H : (
  Option.bind (α := Int32) (
    if p0 < 0 then
      some 1
    else
      if p0 ≤ 2 then
        some 0
      else
        some 1) fun x3 =>
  jlet (va_up s 0 (fun _ => x3)) fun s6 =>
  if (s6 0 0) ≤ 0 then
    jlet (va_up s6 1 (fun _ => p0)) fun s9 =>
    jlet (va_up s9 2 (fun _ => 0)) fun s11 =>
    some s11
  else
    some s6) = some r := H
  generalize hP9 : jEq none (mkR ad G r) = P
  refine j_aload_n (pc := 0) 0 (jd k_Mod_field 0 rfl) rfl ?_
  refine j_iload_n (pc := 1) 1 (jd k_Mod_field 1 rfl) rfl ?_
  obtain ⟨x3, h4, H⟩ := obnd H
  have K5 : J G m_Mod_field 0 0 0 P 15 [(0, .ref (ad 0)), (1, .int p0)] [.int x3, .ref (ad 0)] (mkR ad G s) 0 0 := by
    obtain ⟨s6, e7, H⟩ := olet H
    refine j_put (pc := 15) (fs := flR ad s) fp_Mod_170_10 0 (jd k_Mod_field 9 rfl) rfl rfl rfl (Nat.le_of_ble_eq_true rfl) ((wpR_0 ad G s _).trans (congrArg (mkR ad G) e7)) ?_
    refine j_aload_n (pc := 18) 0 (jd k_Mod_field 10 rfl) rfl ?_
    refine j_get (pc := 19) (fs := flR ad s6) (v := .int (s6 0 0)) fl_Mod_170_10 0 (jd k_Mod_field 11 rfl) rfl rfl ?_
    refine j_if_le (pc := 22) (tgt := 26) (jd k_Mod_field 12 rfl) rfl (fun h8 => ?_) (fun h8 => ?_)
    · rw [if_pos h8] at H
      refine j_aload_n (pc := 26) 0 (jd k_Mod_field 14 rfl) rfl ?_
      refine j_iload_n (pc := 27) 1 (jd k_Mod_field 15 rfl) rfl ?_
      obtain ⟨s9, e10, H⟩ := olet H
      refine j_put (pc := 28) (fs := flR ad s6) fp_Mod_181_10 0 (jd k_Mod_field 16 rfl) rfl rfl rfl (Nat.le_of_ble_eq_true rfl) ((wpR_1 ad G s6 _).trans (congrArg (mkR ad G) e10)) ?_
      refine j_aload_n (pc := 31) 0 (jd k_Mod_field 17 rfl) rfl ?_
      refine j_iconst (pc := 32) (v := 0) (jd k_Mod_field 18 rfl) (by decide) ?_
      obtain ⟨s11, e12, H⟩ := olet H
      refine j_put (pc := 33) (fs := flR ad s9) fp_Mod_184_10 0 (jd k_Mod_field 19 rfl) rfl rfl rfl (Nat.le_of_ble_eq_true rfl) ((wpR_2 ad G s9 _).trans (congrArg (mkR ad G) e12)) ?_
      cases H
      subst hP9
      exact j_vret (pc := 36) (jd k_Mod_field 20 rfl) rfl ⟨rfl, rfl⟩
    · rw [if_neg h8] at H
      cases H
      subst hP9
      exact j_vret (pc := 25) (jd k_Mod_field 13 rfl) rfl ⟨rfl, rfl⟩
  have H := h4
  refine j_if_lt (pc := 2) (tgt := 10) (jd k_Mod_field 2 rfl) rfl (fun h1 => ?_) (fun h1 => ?_)
  · rw [if_pos h1] at H
    refine j_iconst (pc := 10) (v := 1) (jd k_Mod_field 6 rfl) (by decide) ?_
    refine j_goto (pc := 11) (tgt := 15) (jd k_Mod_field 7 rfl) rfl ?_
    cases H
    exact K5
  · rw [if_neg h1] at H
    refine j_iload_n (pc := 5) 1 (jd k_Mod_field 3 rfl) rfl ?_
    refine j_iconst (pc := 6) (v := 2) (jd k_Mod_field 4 rfl) (by decide) ?_
    refine j_icmp_le (pc := 7) (tgt := 14) (jd k_Mod_field 5 rfl) rfl (fun h2 => ?_) (fun h2 => ?_)
    · rw [if_pos h2] at H
      refine j_iconst (pc := 14) (v := 0) (jd k_Mod_field 8 rfl) (by decide) ?_
      cases H
      exact K5
    · rw [if_neg h2] at H
      refine j_iconst (pc := 10) (v := 1) (jd k_Mod_field 6 rfl) (by decide) ?_
      refine j_goto (pc := 11) (tgt := 15) (jd k_Mod_field 7 rfl) rfl ?_
      cases H
      exact K5

set_option maxRecDepth 20000 in
theorem c_Mod_order (G : jG) (ws : va_W) (p0 : Int32) (r : Int32) (H : f_Mod_order p0 = some r) : jCon G m_Mod_order y_Mod_order 0 0 0 [.int p0] ws (jEq (some (.int r)) ws) := by
  refine jCon.of (by decide +kernel) rfl rfl rfl (Nat.le_of_ble_eq_true rfl) rfl ?_
  have H : (
  Option.bind (α := Int32) (
    if ¬ p0 = 0 then
      if ¬ p0 = 1 then
        some 31
      else
        some 1019
    else
      some 256) fun x3 =>
  some x3) = some r := H
  generalize hP9 : jEq (some (.int r)) ws = P
  refine j_iload_n (pc := 0) 0 (jd k_Mod_order 0 rfl) rfl ?_
  obtain ⟨x3, h4, H⟩ := obnd H
  have K5 : J G m_Mod_order 0 0 0 P 23 [] [.int x3] ws 0 0 := by
    cases H
    subst hP9
    exact j_iret (pc := 23) (jd k_Mod_order 10 rfl) rfl rfl ⟨rfl, rfl⟩
  have H := h4
  refine j_if_ne (pc := 1) (tgt := 10) (jd k_Mod_order 1 rfl) rfl (fun h1 => ?_) (fun h1 => ?_)
  · rw [if_pos h1] at H
    refine j_iload_n (pc := 10) 0 (jd k_Mod_order 4 rfl) rfl ?_
    refine j_iconst (pc := 11) (v := 1) (jd k_Mod_order 5 rfl) (by decide) ?_
    refine j_icmp_ne (pc := 12) (tgt := 21) (jd k_Mod_order 6 rfl) rfl (fun h2 => ?_) (fun h2 => ?_)
    · rw [if_pos h2] at H
      refine j_bipush (pc := 21) (v := 31) (jd k_Mod_order 9 rfl) (by decide) ?_
      cases H
      exact j_pick [] rfl K5
    · rw [if_neg (not_not_intro h2)] at H
      refine j_sipush (pc := 15) (v := 1019) (jd k_Mod_order 7 rfl) (by decide) ?_
      refine j_goto (pc := 18) (tgt := 23) (jd k_Mod_order 8 rfl) rfl ?_
      cases H
      exact j_pick [] rfl K5
  · rw [if_neg (not_not_intro h1)] at H
    refine j_sipush (pc := 4) (v := 256) (jd k_Mod_order 2 rfl) (by decide) ?_
    refine j_goto (pc := 7) (tgt := 23) (jd k_Mod_order 3 rfl) rfl ?_
    cases H
    exact j_pick [] rfl K5

set_option maxRecDepth 20000 in
theorem c_Mod_isElement (G : jG) (ws : va_W) (p0 : Int32) (p1 : Int32) (r : Int32) (H : f_Mod_isElement p0 p1 = some r) : jCon G m_Mod_isElement y_Mod_isElement 1 0 0 [.int p0, .int p1] ws (jEq (some (.int r)) ws) := by
  refine jCon.of (by decide +kernel) rfl rfl rfl (Nat.le_of_ble_eq_true rfl) rfl ?_
  have H : (
  Option.bind (α := Int32) (
    if p1 < 0 then
      some 0
    else
      Option.bind (f_Mod_order p0) fun x2 =>
      if x2 ≤ p1 then
        some 0
      else
        some 1) fun x5 =>
  if jbo x5 then
  some x5
  else none) = some r := H
  generalize hP9 : jEq (some (.int r)) ws = P
  refine j_iload_n (pc := 0) 1 (jd k_Mod_isElement 0 rfl) rfl ?_
  obtain ⟨x5, h6, H⟩ := obnd H
  have K7 : J G m_Mod_isElement 1 0 0 P 17 [] [.int x5] ws 0 0 := by
    obtain ⟨h8, H⟩ := ochk H
    cases H
    subst hP9
    exact j_iret (pc := 17) (jd k_Mod_isElement 9 rfl) rfl (jbo.nar h8) ⟨rfl, rfl⟩
  have H := h6
  refine j_if_lt (pc := 1) (tgt := 16) (jd k_Mod_isElement 1 rfl) rfl (fun h1 => ?_) (fun h1 => ?_)
  · rw [if_pos h1] at H
    refine j_iconst (pc := 16) (v := 0) (jd k_Mod_isElement 8 rfl) (by decide) ?_
    cases H
    exact j_pick [] rfl K7
  · rw [if_neg h1] at H
    refine j_iload_n (pc := 4) 1 (jd k_Mod_isElement 2 rfl) rfl ?_
    refine j_iload_n (pc := 5) 0 (jd k_Mod_isElement 3 rfl) rfl ?_
    obtain ⟨x2, h3, H⟩ := obnd H
    refine jc_S (pc := 6) (st := [.int p1]) (c_Mod_order G _ p0 _ h3) L0_Mod_order w1285 w1286 (jd k_Mod_isElement 4 rfl) rfl (Nat.le_of_ble_eq_true rfl) (by decide) (Nat.le_refl _) (Nat.le_refl _) rfl rfl ?_
    refine j_icmp_ge (pc := 9) (tgt := 16) (jd k_Mod_isElement 5 rfl) rfl (fun h4 => ?_) (fun h4 => ?_)
    · rw [if_pos h4] at H
      refine j_iconst (pc := 16) (v := 0) (jd k_Mod_isElement 8 rfl) (by decide) ?_
      cases H
      exact j_pick [] rfl K7
    · rw [if_neg h4] at H
      refine j_iconst (pc := 12) (v := 1) (jd k_Mod_isElement 6 rfl) (by decide) ?_
      refine j_goto (pc := 13) (tgt := 17) (jd k_Mod_isElement 7 rfl) rfl ?_
      cases H
      exact j_pick [] rfl K7

set_option maxRecDepth 20000 in
theorem c_Mod_less (G : jG) (ws : va_W) (p0 : Int32) (p1 : Int32) (p2 : Int32) (r : Int32) (H : f_Mod_less p0 p1 p2 = some r) : jCon G m_Mod_less y_Mod_less 1 0 0 [.int p0, .int p1, .int p2] ws (jEq (some (.int r)) ws) := by
  refine jCon.of (by decide +kernel) rfl rfl rfl (Nat.le_of_ble_eq_true rfl) rfl ?_
  have H : (
  Option.bind (α := Int32) (
    if ¬ p0 = 0 then
      Option.bind (f_Mod_order p0) fun x2 =>
      Option.bind (f_Mod_order p0) fun x4 =>
      if ¬ x4 = 0 then
      some (jrem ((p1 - p2) + x2) x4)
      else none
    else
      some (p1 ^^^ p2)) fun x7 =>
  some x7) = some r := H
  generalize hP9 : jEq (some (.int r)) ws = P
  refine j_iload_n (pc := 0) 0 (jd k_Mod_less 0 rfl) rfl ?_
  obtain ⟨x7, h8, H⟩ := obnd H
  have K9 : J G m_Mod_less 1 0 0 P 23 [] [.int x7] ws 0 0 := by
    cases H
    subst hP9
    exact j_iret (pc := 23) (jd k_Mod_less 15 rfl) rfl rfl ⟨rfl, rfl⟩
  have H := h8
  refine j_if_ne (pc := 1) (tgt := 10) (jd k_Mod_less 1 rfl) rfl (fun h1 => ?_) (fun h1 => ?_)
  · rw [if_pos h1] at H
    refine j_iload_n (pc := 10) 1 (jd k_Mod_less 6 rfl) rfl ?_
    refine j_iload_n (pc := 11) 2 (jd k_Mod_less 7 rfl) rfl ?_
    refine j_isub (pc := 12) (jd k_Mod_less 8 rfl) ?_
    refine j_iload_n (pc := 13) 0 (jd k_Mod_less 9 rfl) rfl ?_
    obtain ⟨x2, h3, H⟩ := obnd H
    refine jc_S (pc := 14) (st := [.int (p1 - p2)]) (c_Mod_order G _ p0 _ h3) L0_Mod_order w1285 w1286 (jd k_Mod_less 10 rfl) rfl (Nat.le_of_ble_eq_true rfl) (by decide) (Nat.le_refl _) (Nat.le_refl _) rfl rfl ?_
    refine j_iadd (pc := 17) (jd k_Mod_less 11 rfl) ?_
    refine j_iload_n (pc := 18) 0 (jd k_Mod_less 12 rfl) rfl ?_
    obtain ⟨x4, h5, H⟩ := obnd H
    refine jc_S (pc := 19) (st := [.int ((p1 - p2) + x2)]) (c_Mod_order G _ p0 _ h5) L0_Mod_order w1285 w1286 (jd k_Mod_less 13 rfl) rfl (Nat.le_of_ble_eq_true rfl) (by decide) (Nat.le_refl _) (Nat.le_refl _) rfl rfl ?_
    obtain ⟨h6, H⟩ := ochk H
    refine j_irem (pc := 22) (jd k_Mod_less 14 rfl) h6 ?_
    cases H
    exact j_pick [] rfl K9
  · rw [if_neg (not_not_intro h1)] at H
    refine j_iload_n (pc := 4) 1 (jd k_Mod_less 2 rfl) rfl ?_
    refine j_iload_n (pc := 5) 2 (jd k_Mod_less 3 rfl) rfl ?_
    refine j_ixor (pc := 6) (jd k_Mod_less 4 rfl) ?_
    refine j_goto (pc := 7) (tgt := 23) (jd k_Mod_less 5 rfl) rfl ?_
    cases H
    exact j_pick [] rfl K9

set_option maxRecDepth 20000 in
theorem lp_Mod_times_19 {G : jG} {P : jR → va_W → Prop} (ws : va_W) (p1 : Int32) (p2 : Int32) : ∀ (n : Nat) (x2 : Int32) (x3 : Int32) (r : Int32 × Int32), L_Mod_times_19 p1 p2 n x2 x3 = some r → J G m_Mod_times 1 0 0 P 70 [(1, .int p1), (2, .int p2), (3, .int r.1), (4, .int r.2)] [] ws 0 0 → J G m_Mod_times 1 0 0 P 19 [(1, .int p1), (2, .int p2), (3, .int x2), (4, .int x3)] [] ws 0 0 := by
  intro n
  induction n with
  | zero =>
    intro x2 x3 r H
    cases (show none = some r from H)
  | succ n ih =>
    intro x2 x3 r H kx
    have H : (
    if x3 < 0 then
      some (x2, x3)
    else
      Option.bind (α := Int32) (
        if (x2 &&& 128) = 0 then
          some (x2 <<< (1 &&& 31))
        else
          some ((x2 <<< (1 &&& 31)) ^^^ 283)) fun x6 =>
      Option.bind (α := Int32) (
        if ¬ ((p2 >>> (x3 &&& 31)) &&& 1) = 1 then
          some x6
        else
          some (x6 ^^^ p1)) fun x10 =>
      jlet (x3 + (-1)) fun x13 =>
      L_Mod_times_19 p1 p2 n x10 x13) = some r := H
    refine j_iload (pc := 19) 3 (jd k_Mod_times 13 rfl) rfl ?_
    refine j_if_lt (pc := 21) (tgt := 70) (jd k_Mod_times 14 rfl) rfl (fun h4 => ?_) (fun h4 => ?_)
    · rw [if_pos h4] at H
      cases H
      exact kx
    · rw [if_neg h4] at H
      refine j_iload_n (pc := 24) 2 (jd k_Mod_times 15 rfl) rfl ?_
      refine j_sipush (pc := 25) (v := 128) (jd k_Mod_times 16 rfl) (by decide) ?_
      refine j_iand (pc := 28) (jd k_Mod_times 17 rfl) ?_
      obtain ⟨x6, h7, H⟩ := obnd H
      have K8 : J G m_Mod_times 1 0 0 P 45 [(1, .int p1), (2, .int p2), (4, .int x3)] [.int x6] ws 0 0 := by
        refine j_istore_n (pc := 45) (lv' := [(1, .int p1), (2, .int p2), (3, .int x6), (4, .int x3)]) (jd k_Mod_times 28 rfl) rfl (Nat.le_of_ble_eq_true rfl) rfl ?_
        refine j_iload_n (pc := 46) 1 (jd k_Mod_times 29 rfl) rfl ?_
        refine j_iload (pc := 47) 3 (jd k_Mod_times 30 rfl) rfl ?_
        refine j_ishr (pc := 49) (jd k_Mod_times 31 rfl) ?_
        refine j_iconst (pc := 50) (v := 1) (jd k_Mod_times 32 rfl) (by decide) ?_
        refine j_iand (pc := 51) (jd k_Mod_times 33 rfl) ?_
        refine j_iconst (pc := 52) (v := 1) (jd k_Mod_times 34 rfl) (by decide) ?_
        obtain ⟨x10, h11, H⟩ := obnd H
        have K12 : J G m_Mod_times 1 0 0 P 63 [(1, .int p1), (2, .int p2), (4, .int x3)] [.int x10] ws 0 0 := by
          refine j_istore_n (pc := 63) (lv' := [(1, .int p1), (2, .int p2), (3, .int x10), (4, .int x3)]) (jd k_Mod_times 41 rfl) rfl (Nat.le_of_ble_eq_true rfl) rfl ?_
          obtain ⟨x13, e14, H⟩ := olet H
          refine j_iinc (pc := 64) (lv' := [(1, .int p1), (2, .int p2), (3, .int x10), (4, .int x13)]) 3 (jd k_Mod_times 42 rfl) rfl e14 rfl (Nat.le_of_ble_eq_true rfl) rfl ?_
          refine j_goto (pc := 67) (tgt := 19) (jd k_Mod_times 43 rfl) rfl ?_
          exact ih x10 x13 _ H kx
        have H := h11
        refine j_icmp_ne (pc := 53) (tgt := 62) (jd k_Mod_times 35 rfl) rfl (fun h9 => ?_) (fun h9 => ?_)
        · rw [if_pos h9] at H
          refine j_iload_n (pc := 62) 2 (jd k_Mod_times 40 rfl) rfl ?_
          cases H
          exact j_pick [0, 1, 3] rfl K12
        · rw [if_neg (not_not_intro h9)] at H
          refine j_iload_n (pc := 56) 2 (jd k_Mod_times 36 rfl) rfl ?_
          refine j_iload_n (pc := 57) 0 (jd k_Mod_times 37 rfl) rfl ?_
          refine j_ixor (pc := 58) (jd k_Mod_times 38 rfl) ?_
          refine j_goto (pc := 59) (tgt := 63) (jd k_Mod_times 39 rfl) rfl ?_
          cases H
          exact j_pick [0, 1, 3] rfl K12
      have H := h7
      refine j_if_eq (pc := 29) (tgt := 42) (jd k_Mod_times 18 rfl) rfl (fun h5 => ?_) (fun h5 => ?_)
      · rw [if_pos h5] at H
        refine j_iload_n (pc := 42) 2 (jd k_Mod_times 25 rfl) rfl ?_
        refine j_iconst (pc := 43) (v := 1) (jd k_Mod_times 26 rfl) (by decide) ?_
        refine j_ishl (pc := 44) (jd k_Mod_times 27 rfl) ?_
        cases H
        exact j_pick [0, 1, 3] rfl K8
      · rw [if_neg h5] at H
        refine j_iload_n (pc := 32) 2 (jd k_Mod_times 19 rfl) rfl ?_
        refine j_iconst (pc := 33) (v := 1) (jd k_Mod_times 20 rfl) (by decide) ?_
        refine j_ishl (pc := 34) (jd k_Mod_times 21 rfl) ?_
        refine j_sipush (pc := 35) (v := 283) (jd k_Mod_times 22 rfl) (by decide) ?_
        refine j_ixor (pc := 38) (jd k_Mod_times 23 rfl) ?_
        refine j_goto (pc := 39) (tgt := 45) (jd k_Mod_times 24 rfl) rfl ?_
        cases H
        exact j_pick [0, 1, 3] rfl K8

set_option maxRecDepth 20000 in
theorem c_Mod_times (G : jG) (ws : va_W) (p0 : Int32) (p1 : Int32) (p2 : Int32) (r : Int32) (H : f_Mod_times p0 p1 p2 = some r) : jCon G m_Mod_times y_Mod_times 1 0 0 [.int p0, .int p1, .int p2] ws (jEq (some (.int r)) ws) := by
  refine jCon.of (by decide +kernel) rfl rfl rfl (Nat.le_of_ble_eq_true rfl) rfl ?_
  have H : (
  if p0 ≤ 0 then
    Option.bind (L_Mod_times_19 p1 p2 jF 0 7) fun (x15, x16) =>
    some x15
  else
    Option.bind (f_Mod_order p0) fun x18 =>
    if ¬ x18 = 0 then
    some (jrem (p1 * p2) x18)
    else none) = some r := H
  generalize hP9 : jEq (some (.int r)) ws = P
  refine j_iload_n (pc := 0) 0 (jd k_Mod_times 0 rfl) rfl ?_
  refine j_if_le (pc := 1) (tgt := 13) (jd k_Mod_times 1 rfl) rfl (fun h1 => ?_) (fun h1 => ?_)
  · rw [if_pos h1] at H
    refine j_iconst (pc := 13) (v := 0) (jd k_Mod_times 9 rfl) (by decide) ?_
    refine j_istore_n (pc := 14) (lv' := [(0, .int p0), (1, .int p1), (2, .int p2), (3, .int 0)]) (jd k_Mod_times 10 rfl) rfl (Nat.le_of_ble_eq_true rfl) rfl ?_
    refine j_bipush (pc := 15) (v := 7) (jd k_Mod_times 11 rfl) (by decide) ?_
    refine j_istore (pc := 17) (lv' := [(0, .int p0), (1, .int p1), (2, .int p2), (3, .int 0), (4, .int 7)]) (jd k_Mod_times 12 rfl) rfl (Nat.le_of_ble_eq_true rfl) rfl ?_
    obtain ⟨⟨x15, x16⟩, h17, H⟩ := obnd H
    refine j_pick (lv' := [(1, .int p1), (2, .int p2), (3, .int 0), (4, .int 7)]) [1, 2, 3, 4] rfl ?_
    refine lp_Mod_times_19 ws p1 p2 jF 0 7 _ h17 ?_
    refine j_pick (lv' := [(3, .int x15)]) [2] rfl ?_
    refine j_iload_n (pc := 70) 0 (jd k_Mod_times 44 rfl) rfl ?_
    cases H
    subst hP9
    exact j_iret (pc := 71) (jd k_Mod_times 45 rfl) rfl rfl ⟨rfl, rfl⟩
  · rw [if_neg h1] at H
    refine j_iload_n (pc := 4) 1 (jd k_Mod_times 2 rfl) rfl ?_
    refine j_iload_n (pc := 5) 2 (jd k_Mod_times 3 rfl) rfl ?_
    refine j_imul (pc := 6) (jd k_Mod_times 4 rfl) ?_
    refine j_iload_n (pc := 7) 0 (jd k_Mod_times 5 rfl) rfl ?_
    obtain ⟨x18, h19, H⟩ := obnd H
    refine jc_S (pc := 8) (st := [.int (p1 * p2)]) (c_Mod_order G _ p0 _ h19) L0_Mod_order w1285 w1286 (jd k_Mod_times 6 rfl) rfl (Nat.le_of_ble_eq_true rfl) (by decide) (Nat.le_refl _) (Nat.le_refl _) rfl rfl ?_
    obtain ⟨h20, H⟩ := ochk H
    refine j_irem (pc := 11) (jd k_Mod_times 7 rfl) h20 ?_
    cases H
    subst hP9
    exact j_iret (pc := 12) (jd k_Mod_times 8 rfl) rfl rfl ⟨rfl, rfl⟩

set_option maxRecDepth 20000 in
theorem lp_Mod_over_2 {G : jG} {P : jR → va_W → Prop} (ws : va_W) (p0 : Int32) (p1 : Int32) (p2 : Int32) : ∀ (n : Nat) (x1 : Int32) (r : Int32), L_Mod_over_2 p0 p1 p2 n x1 = some r → J G m_Mod_over 2 0 0 P 18 [(0, .int p0), (1, .int p1), (2, .int p2), (3, .int r)] [] ws 0 0 → J G m_Mod_over 2 0 0 P 2 [(0, .int p0), (1, .int p1), (2, .int p2), (3, .int x1)] [] ws 0 0 := by
  intro n
  induction n with
  | zero =>
    intro x1 r H
    cases (show none = some r from H)
  | succ n ih =>
    intro x1 r H kx
    have H : (
    Option.bind (f_Mod_times p0 x1 p2) fun x2 =>
    if x2 = p1 then
      some x1
    else
      jlet (x1 + 1) fun x5 =>
      L_Mod_over_2 p0 p1 p2 n x5) = some r := H
    refine j_iload_n (pc := 2) 0 (jd k_Mod_over 2 rfl) rfl ?_
    refine j_iload_n (pc := 3) 3 (jd k_Mod_over 3 rfl) rfl ?_
    refine j_iload_n (pc := 4) 2 (jd k_Mod_over 4 rfl) rfl ?_
    obtain ⟨x2, h3, H⟩ := obnd H
    refine jc_S (pc := 5) (st := []) (c_Mod_times G _ p0 x1 p2 _ h3) L0_Mod_times w1302 w1303 (jd k_Mod_over 5 rfl) rfl (Nat.le_of_ble_eq_true rfl) (by decide) (Nat.le_refl _) (Nat.le_refl _) rfl rfl ?_
    refine j_iload_n (pc := 8) 1 (jd k_Mod_over 6 rfl) rfl ?_
    refine j_icmp_eq (pc := 9) (tgt := 18) (jd k_Mod_over 7 rfl) rfl (fun h4 => ?_) (fun h4 => ?_)
    · rw [if_pos h4] at H
      cases H
      exact kx
    · rw [if_neg h4] at H
      obtain ⟨x5, e6, H⟩ := olet H
      refine j_iinc (pc := 12) (lv' := [(0, .int p0), (1, .int p1), (2, .int p2), (3, .int x5)]) 3 (jd k_Mod_over 8 rfl) rfl e6 rfl (Nat.le_of_ble_eq_true rfl) rfl ?_
      refine j_goto (pc := 15) (tgt := 2) (jd k_Mod_over 9 rfl) rfl ?_
      exact ih x5 _ H kx

set_option maxRecDepth 20000 in
theorem c_Mod_over (G : jG) (ws : va_W) (p0 : Int32) (p1 : Int32) (p2 : Int32) (r : Int32) (H : f_Mod_over p0 p1 p2 = some r) : jCon G m_Mod_over y_Mod_over 2 0 0 [.int p0, .int p1, .int p2] ws (jEq (some (.int r)) ws) := by
  refine jCon.of (by decide +kernel) rfl rfl rfl (Nat.le_of_ble_eq_true rfl) rfl ?_
  have H : (
  Option.bind (L_Mod_over_2 p0 p1 p2 jF 0) fun x7 =>
  some x7) = some r := H
  generalize hP9 : jEq (some (.int r)) ws = P
  refine j_iconst (pc := 0) (v := 0) (jd k_Mod_over 0 rfl) (by decide) ?_
  refine j_istore_n (pc := 1) (lv' := [(0, .int p0), (1, .int p1), (2, .int p2), (3, .int 0)]) (jd k_Mod_over 1 rfl) rfl (Nat.le_of_ble_eq_true rfl) rfl ?_
  obtain ⟨x7, h8, H⟩ := obnd H
  refine lp_Mod_over_2 ws p0 p1 p2 jF 0 _ h8 ?_
  refine j_pick (lv' := [(3, .int x7)]) [3] rfl ?_
  refine j_iload_n (pc := 18) 0 (jd k_Mod_over 10 rfl) rfl ?_
  cases H
  subst hP9
  exact j_iret (pc := 19) (jd k_Mod_over 11 rfl) rfl rfl ⟨rfl, rfl⟩

set_option maxRecDepth 20000 in
theorem c_Mod_plus (G : jG) (ws : va_W) (p0 : Int32) (p1 : Int32) (p2 : Int32) (r : Int32) (H : f_Mod_plus p0 p1 p2 = some r) : jCon G m_Mod_plus y_Mod_plus 1 0 0 [.int p0, .int p1, .int p2] ws (jEq (some (.int r)) ws) := by
  refine jCon.of (by decide +kernel) rfl rfl rfl (Nat.le_of_ble_eq_true rfl) rfl ?_
  have H : (
  Option.bind (α := Int32) (
    if ¬ p0 = 0 then
      Option.bind (f_Mod_order p0) fun x2 =>
      if ¬ x2 = 0 then
      some (jrem (p1 + p2) x2)
      else none
    else
      some (p1 ^^^ p2)) fun x5 =>
  some x5) = some r := H
  generalize hP9 : jEq (some (.int r)) ws = P
  refine j_iload_n (pc := 0) 0 (jd k_Mod_plus 0 rfl) rfl ?_
  obtain ⟨x5, h6, H⟩ := obnd H
  have K7 : J G m_Mod_plus 1 0 0 P 18 [] [.int x5] ws 0 0 := by
    cases H
    subst hP9
    exact j_iret (pc := 18) (jd k_Mod_plus 12 rfl) rfl rfl ⟨rfl, rfl⟩
  have H := h6
  refine j_if_ne (pc := 1) (tgt := 10) (jd k_Mod_plus 1 rfl) rfl (fun h1 => ?_) (fun h1 => ?_)
  · rw [if_pos h1] at H
    refine j_iload_n (pc := 10) 1 (jd k_Mod_plus 6 rfl) rfl ?_
    refine j_iload_n (pc := 11) 2 (jd k_Mod_plus 7 rfl) rfl ?_
    refine j_iadd (pc := 12) (jd k_Mod_plus 8 rfl) ?_
    refine j_iload_n (pc := 13) 0 (jd k_Mod_plus 9 rfl) rfl ?_
    obtain ⟨x2, h3, H⟩ := obnd H
    refine jc_S (pc := 14) (st := [.int (p1 + p2)]) (c_Mod_order G _ p0 _ h3) L0_Mod_order w1285 w1286 (jd k_Mod_plus 10 rfl) rfl (Nat.le_of_ble_eq_true rfl) (by decide) (Nat.le_refl _) (Nat.le_refl _) rfl rfl ?_
    obtain ⟨h4, H⟩ := ochk H
    refine j_irem (pc := 17) (jd k_Mod_plus 11 rfl) h4 ?_
    cases H
    exact j_pick [] rfl K7
  · rw [if_neg (not_not_intro h1)] at H
    refine j_iload_n (pc := 4) 1 (jd k_Mod_plus 2 rfl) rfl ?_
    refine j_iload_n (pc := 5) 2 (jd k_Mod_plus 3 rfl) rfl ?_
    refine j_ixor (pc := 6) (jd k_Mod_plus 4 rfl) ?_
    refine j_goto (pc := 7) (tgt := 18) (jd k_Mod_plus 5 rfl) rfl ?_
    cases H
    exact j_pick [] rfl K7

